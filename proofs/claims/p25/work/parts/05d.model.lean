def f_X9_saysOf_169 (k4 : HS → Int32 → Int32 → Option (Int64 × HS)) (h : HS) (x2 : Int32) (x3 : Int32) : Option (Int64 × HS) := (k4 h x2 (x3 + 1))
def f_X9_saysOf_75 (k4 : HS → Int32 → Int32 → Option (Int64 × HS)) (h : HS) (x2 : Int32) (x3 : Int32) (y0 : Int64) (y1 : Int32) : Option (Int64 × HS) := (if 0 ≤ (y1).toInt ∧ (y1).toInt < 200 then (f_X9_saysOf_169 k4 (sJ h 0 40 (vp_updL (eJ h 0 40) ((y1).toNatClampNeg) y0)) (x2 + 1) x3) else none)
def f_X9_saysOf_40 (k4 : HS → Int32 → Int32 → Option (Int64 × HS)) (h : HS) (x2 : Int32) (x3 : Int32) (x4 : Int32) : Option (Int64 × HS) := (if x4 = 400 then (if 0 ≤ (x3).toInt ∧ (x3).toInt < 1600 then (f_X9_saysOf_75 k4 h x2 x3 ((((eA h 0 13) ((x3).toNatClampNeg))).toInt64) x2) else none) else (if 0 ≤ (x3).toInt ∧ (x3).toInt < 1600 then (if 0 ≤ (((eA h 0 13) ((x3).toNatClampNeg))).toInt ∧ (((eA h 0 13) ((x3).toNatClampNeg))).toInt < 9 then (f_X9_saysOf_75 k4 h x2 x3 ((((eA h 0 39) ((((eA h 0 13) ((x3).toNatClampNeg))).toNatClampNeg))).toInt64) x2) else none) else none))
def f_X9_saysOf_4 : Nat → HS → Int32 → Int32 → Option (Int64 × HS)
  | 0, _, _, _ => none
  | n + 1, h, x2, x3 => (if 0 ≤ (x3).toInt ∧ (x3).toInt < 1600 then (if ((eA h 0 12) ((x3).toNatClampNeg)) = 408 then (some (((eJ h 0 40) 0), h)) else (if 0 ≤ (x3).toInt ∧ (x3).toInt < 1600 then (if ((eA h 0 12) ((x3).toNatClampNeg)) = 400 then (f_X9_saysOf_40 (f_X9_saysOf_4 n) h x2 x3 ((eA h 0 12) ((x3).toNatClampNeg))) else (if ((eA h 0 12) ((x3).toNatClampNeg)) = 401 then (f_X9_saysOf_40 (f_X9_saysOf_4 n) h x2 x3 ((eA h 0 12) ((x3).toNatClampNeg))) else (if ((eA h 0 12) ((x3).toNatClampNeg)) = 402 then (if 0 ≤ ((x2 - 1)).toInt ∧ ((x2 - 1)).toInt < 200 then (if 0 ≤ ((x2 - 1)).toInt ∧ ((x2 - 1)).toInt < 200 then (f_X9_saysOf_169 (f_X9_saysOf_4 n) (sJ h 0 40 (vp_updL (eJ h 0 40) (((x2 - 1)).toNatClampNeg) (-((eJ h 0 40) (((x2 - 1)).toNatClampNeg))))) x2 x3) else none) else none) else (if ((eA h 0 12) ((x3).toNatClampNeg)) = 405 then (if 0 ≤ ((x2 - 1)).toInt ∧ ((x2 - 1)).toInt < 200 then (if 0 ≤ ((x2 - 1)).toInt ∧ ((x2 - 1)).toInt < 200 then (f_X9_saysOf_169 (f_X9_saysOf_4 n) (sJ h 0 40 (vp_updL (eJ h 0 40) (((x2 - 1)).toNatClampNeg) (1 - ((eJ h 0 40) (((x2 - 1)).toNatClampNeg))))) x2 x3) else none) else none) else (if 0 ≤ (((x2 + (-1)) - 1)).toInt ∧ (((x2 + (-1)) - 1)).toInt < 200 then (if 0 ≤ ((x2 + (-1))).toInt ∧ ((x2 + (-1))).toInt < 200 then (ob1 (f_X9_worked ((eA h 0 12) ((x3).toNatClampNeg)) ((eJ h 0 40) ((((x2 + (-1)) - 1)).toNatClampNeg)) ((eJ h 0 40) (((x2 + (-1))).toNatClampNeg))) (fun r_10 => (if 0 ≤ (((x2 + (-1)) - 1)).toInt ∧ (((x2 + (-1)) - 1)).toInt < 200 then (f_X9_saysOf_169 (f_X9_saysOf_4 n) (sJ h 0 40 (vp_updL (eJ h 0 40) ((((x2 + (-1)) - 1)).toNatClampNeg) r_10)) (x2 + (-1)) x3) else none))) else none) else none))))) else none)) else none)
theorem f_X9_saysOf_4_s (n : Nat) (h : HS) (x2 : Int32) (x3 : Int32) : f_X9_saysOf_4 (n + 1) h x2 x3 = (if 0 ≤ (x3).toInt ∧ (x3).toInt < 1600 then (if ((eA h 0 12) ((x3).toNatClampNeg)) = 408 then (some (((eJ h 0 40) 0), h)) else (if 0 ≤ (x3).toInt ∧ (x3).toInt < 1600 then (if ((eA h 0 12) ((x3).toNatClampNeg)) = 400 then (f_X9_saysOf_40 (f_X9_saysOf_4 n) h x2 x3 ((eA h 0 12) ((x3).toNatClampNeg))) else (if ((eA h 0 12) ((x3).toNatClampNeg)) = 401 then (f_X9_saysOf_40 (f_X9_saysOf_4 n) h x2 x3 ((eA h 0 12) ((x3).toNatClampNeg))) else (if ((eA h 0 12) ((x3).toNatClampNeg)) = 402 then (if 0 ≤ ((x2 - 1)).toInt ∧ ((x2 - 1)).toInt < 200 then (if 0 ≤ ((x2 - 1)).toInt ∧ ((x2 - 1)).toInt < 200 then (f_X9_saysOf_169 (f_X9_saysOf_4 n) (sJ h 0 40 (vp_updL (eJ h 0 40) (((x2 - 1)).toNatClampNeg) (-((eJ h 0 40) (((x2 - 1)).toNatClampNeg))))) x2 x3) else none) else none) else (if ((eA h 0 12) ((x3).toNatClampNeg)) = 405 then (if 0 ≤ ((x2 - 1)).toInt ∧ ((x2 - 1)).toInt < 200 then (if 0 ≤ ((x2 - 1)).toInt ∧ ((x2 - 1)).toInt < 200 then (f_X9_saysOf_169 (f_X9_saysOf_4 n) (sJ h 0 40 (vp_updL (eJ h 0 40) (((x2 - 1)).toNatClampNeg) (1 - ((eJ h 0 40) (((x2 - 1)).toNatClampNeg))))) x2 x3) else none) else none) else (if 0 ≤ (((x2 + (-1)) - 1)).toInt ∧ (((x2 + (-1)) - 1)).toInt < 200 then (if 0 ≤ ((x2 + (-1))).toInt ∧ ((x2 + (-1))).toInt < 200 then (ob1 (f_X9_worked ((eA h 0 12) ((x3).toNatClampNeg)) ((eJ h 0 40) ((((x2 + (-1)) - 1)).toNatClampNeg)) ((eJ h 0 40) (((x2 + (-1))).toNatClampNeg))) (fun r_10 => (if 0 ≤ (((x2 + (-1)) - 1)).toInt ∧ (((x2 + (-1)) - 1)).toInt < 200 then (f_X9_saysOf_169 (f_X9_saysOf_4 n) (sJ h 0 40 (vp_updL (eJ h 0 40) ((((x2 + (-1)) - 1)).toNatClampNeg) r_10)) (x2 + (-1)) x3) else none))) else none) else none))))) else none)) else none) := rfl
def f_X9_saysOf (h : HS) (p1 : Int32) : Option (Int64 × HS) := (f_X9_saysOf_4 8589934592 h 0 p1)
theorem e_X9_worked : yX9_worked.cls = RX9 ∧ yX9_worked.cls ≠ "java/lang/invoke/MethodHandle" ∧ yX9_worked.cls ≠ "java/lang/invoke/VarHandle" ∧ (parseMethodDescriptor yX9_worked.desc).map (fun d => d.parameters.length) = some 3 := by decide +kernel
set_option maxHeartbeats 4000000 in
set_option maxRecDepth 100000 in
theorem c_X9_saysOf (l : Launch) (G : va_G) (cI cJ cZ cB cT : ClassId) (m0 : Nat) (r : Nat → Nat) (h : HS) (p1 : Int32) (rr : Int64) (hh : HS) (hF : f_X9_saysOf h p1 = some (rr, hh)) : gMl l yX9_saysOf (gws yX9_saysOf cX9_saysOf 5 (some .long)) 3 G (gT cI cJ cZ cB cT) [.ref m0, .int p1] (wM m0 r cI cJ cZ cB cT h) (fun x (_ : Unit) => x = rr) (fun (_ : Unit) => (wM m0 r cI cJ cZ cB cT hh)) := by
  intro sz
  refine gM_start (y := yX9_saysOf) (av := [.ref m0, .int p1]) (ws := (wM m0 r cI cJ cZ cB cT h)) (Qf := fun A => va_Ql (fun x (_ : Unit) => x = rr) (gB G (fun (_ : Unit) => (wM m0 r cI cJ cZ cB cT hh)) A) A) (cc := cX9_saysOf) (maxL := 5) (ret := (some .long)) (by decide) (Nat.le_of_ble_eq_true rfl) ?_
  intro p e s m args below meth c A ls H hx hb hr hts hown hin hlocks hml hP hK hD hA hS hl hE
  have hl : lv_has ls 5 [(0, .ref m0), (1, .int p1)] := hl
  have hJ_4 : ∀ (n_4 : Nat) (h : HS) (x2 : Int32) (x3 : Int32), f_X9_saysOf_4 n_4 h x2 x3 = some (rr, hh) → ∀ (H : Heap) (locs : List Loc) (ls : Array Slot), va_P G vwCl (wM m0 r cI cJ cZ cB cT h) H → va_D A (wM m0 r cI cJ cZ cB cT h) → va_S A s.heap H locs → lv_has ls 5 [(0, .ref m0), (2, .int x2), (3, .int x3)] → W p l e (gRm 3) s m args below meth c H locs 0 0 (MQ below (va_Ql (fun x (_ : Unit) => x = rr) (gB G (fun (_ : Unit) => (wM m0 r cI cJ cZ cB cT hh)) A) A) args s 0 0 A) (F0 m 4 ls []) := by
    intro n_4
    induction n_4 with
    | zero =>
      intro h x2 x3 hF
      exact absurd hF (by simp [f_X9_saysOf_4])
    | succ n_4 ih_4 =>
      have hJ_169 : ∀ (h : HS) (x2 : Int32) (x3 : Int32), f_X9_saysOf_169 (f_X9_saysOf_4 n_4) h x2 x3 = some (rr, hh) → ∀ (H : Heap) (locs : List Loc) (ls : Array Slot), va_P G vwCl (wM m0 r cI cJ cZ cB cT h) H → va_D A (wM m0 r cI cJ cZ cB cT h) → va_S A s.heap H locs → lv_has ls 5 [(0, .ref m0), (2, .int x2), (3, .int x3)] → W p l e (gRm 3) s m args below meth c H locs 0 0 (MQ below (va_Ql (fun x (_ : Unit) => x = rr) (gB G (fun (_ : Unit) => (wM m0 r cI cJ cZ cB cT hh)) A) A) args s 0 0 A) (F0 m 169 ls []) := by
        intro h x2 x3 hF H locs ls hP hD hS hl
        unfold f_X9_saysOf_169 at hF
        refine lv_iinc (v := (x3 + 1)) (lv' := [(3, .int (x3 + 1)), (0, .ref m0), (2, .int x2)]) hx hb dX9_saysOf_169 hl (k := 2) rfl rfl (by decide) rfl (fun ls hl => ?_)
        refine lv_goto (tgt := 4) hx hb dX9_saysOf_172 (by decide) ?_
        exact ih_4 h x2 (x3 + 1) hF H _ ls hP hD hS (lv_sub hl [1, 2, 0] rfl)
      have hJ_75 : ∀ (h : HS) (x2 : Int32) (x3 : Int32) (y0 : Int64) (y1 : Int32), f_X9_saysOf_75 (f_X9_saysOf_4 n_4) h x2 x3 y0 y1 = some (rr, hh) → ∀ (H : Heap) (locs : List Loc) (ls : Array Slot), va_P G vwCl (wM m0 r cI cJ cZ cB cT h) H → va_D A (wM m0 r cI cJ cZ cB cT h) → va_S A s.heap H locs → lv_has ls 5 [(0, .ref m0), (2, .int x2), (3, .int x3)] → W p l e (gRm 3) s m args below meth c H locs 0 0 (MQ below (va_Ql (fun x (_ : Unit) => x = rr) (gB G (fun (_ : Unit) => (wM m0 r cI cJ cZ cB cT hh)) A) A) args s 0 0 A) (F0 m 75 ls [.long y0, .int y1, .ref (r 40)]) := by
        intro h x2 x3 y0 y1 hF H locs ls hP hD hS hl
        unfold f_X9_saysOf_75 at hF
        obtain ⟨hi_20, hF⟩ := ob_if hF
        refine va_last (D := G) hx hb hK hP hD hS 24 1 wM_at24 rfl (vp_in_iff.mpr hi_20) dX9_saysOf_75 (fun H locs hP hD hS => ?_)
        rw [wM_sA24] at hP hD
        have hP : va_P G vwCl (wM m0 r cI cJ cZ cB cT (sJ h 0 40 (vp_updL (eJ h 0 40) ((y1).toNatClampNeg) y0))) H := hP
        have hD : va_D A (wM m0 r cI cJ cZ cB cT (sJ h 0 40 (vp_updL (eJ h 0 40) ((y1).toNatClampNeg) y0))) := hD
        refine lv_iinc (v := (x2 + 1)) (lv' := [(2, .int (x2 + 1)), (0, .ref m0), (3, .int x3)]) hx hb dX9_saysOf_76 hl (k := 1) rfl rfl (by decide) rfl (fun ls hl => ?_)
        refine lv_goto (tgt := 169) hx hb dX9_saysOf_79 (by decide) ?_
        exact hJ_169 (sJ h 0 40 (vp_updL (eJ h 0 40) ((y1).toNatClampNeg) y0)) (x2 + 1) x3 hF H _ ls hP hD hS (lv_sub hl [1, 0, 2] rfl)
      have hJ_40 : ∀ (h : HS) (x2 : Int32) (x3 : Int32) (x4 : Int32), f_X9_saysOf_40 (f_X9_saysOf_4 n_4) h x2 x3 x4 = some (rr, hh) → ∀ (H : Heap) (locs : List Loc) (ls : Array Slot), va_P G vwCl (wM m0 r cI cJ cZ cB cT h) H → va_D A (wM m0 r cI cJ cZ cB cT h) → va_S A s.heap H locs → lv_has ls 5 [(0, .ref m0), (2, .int x2), (3, .int x3), (4, .int x4)] → W p l e (gRm 3) s m args below meth c H locs 0 0 (MQ below (va_Ql (fun x (_ : Unit) => x = rr) (gB G (fun (_ : Unit) => (wM m0 r cI cJ cZ cB cT hh)) A) A) args s 0 0 A) (F0 m 40 ls []) := by
        intro h x2 x3 x4 hF H locs ls hP hD hS hl
        unfold f_X9_saysOf_40 at hF
        refine lv_aload_n hx hb dX9_saysOf_40 rfl (lv_at hl 0 rfl) ?_
        refine va_get (D := G) (ci := 9) (v := .ref (r 40)) (C := RX9) (T := TX9) (N := 53) hx hb hts iX9 hown hK hP 0 wM_at0 rfl 40 (by decide) (hts _ m_257) (fun _ h9 => h9) rfl dX9_saysOf_41 ?_
        refine lv_iload_n hx hb dX9_saysOf_44 rfl (lv_at hl 1 rfl) ?_
        refine lv_iload hx hb dX9_saysOf_45 (lv_at hl 3 rfl) ?_
        refine lv_sipush (v := 400) hx hb dX9_saysOf_47 (by decide) ?_
        refine lv_icmp_ne (tgt := 63) hx hb dX9_saysOf_50 (by decide) (fun c_16 => ?_) (fun c_16 => ?_)
        · have hF := ob_neg c_16 hF
          refine lv_aload_n hx hb dX9_saysOf_63 rfl (lv_at hl 0 rfl) ?_
          refine va_get (D := G) (ci := 9) (v := .ref (r 39)) (C := RX9) (T := TX9) (N := 53) hx hb hts iX9 hown hK hP 0 wM_at0 rfl 39 (by decide) (hts _ m_261) (fun _ h9 => h9) rfl dX9_saysOf_64 ?_
          refine lv_aload_n hx hb dX9_saysOf_67 rfl (lv_at hl 0 rfl) ?_
          refine va_get (D := G) (ci := 9) (v := .ref (r 13)) (C := RX9) (T := TX9) (N := 53) hx hb hts iX9 hown hK hP 0 wM_at0 rfl 13 (by decide) (hts _ m_256) (fun _ h9 => h9) rfl dX9_saysOf_68 ?_
          refine lv_iload_n hx hb dX9_saysOf_71 rfl (lv_at hl 2 rfl) ?_
          obtain ⟨hi_17, hF⟩ := ob_if hF
          refine va_iald (D := G) hx hb hK hP 11 0 wM_at11 rfl (vp_in_iff.mpr hi_17) dX9_saysOf_72 ?_
          refine gw_topi (y := ((eA h 0 13) ((x3).toNatClampNeg))) rfl ?_
          obtain ⟨hi_18, hF⟩ := ob_if hF
          refine va_iald (D := G) hx hb hK hP 23 0 wM_at23 rfl (vp_in_iff.mpr hi_18) dX9_saysOf_73 ?_
          refine gw_topi (y := ((eA h 0 39) ((((eA h 0 13) ((x3).toNatClampNeg))).toNatClampNeg))) rfl ?_
          refine lv_i2l (v := (((eA h 0 39) ((((eA h 0 13) ((x3).toNatClampNeg))).toNatClampNeg))).toInt64) hx hb dX9_saysOf_74 rfl ?_
          exact hJ_75 h x2 x3 ((((eA h 0 39) ((((eA h 0 13) ((x3).toNatClampNeg))).toNatClampNeg))).toInt64) x2 hF H _ ls hP hD hS (lv_sub hl [0, 1, 2] rfl)
        · have hF := ob_pos c_16 hF
          refine lv_aload_n hx hb dX9_saysOf_53 rfl (lv_at hl 0 rfl) ?_
          refine va_get (D := G) (ci := 9) (v := .ref (r 13)) (C := RX9) (T := TX9) (N := 53) hx hb hts iX9 hown hK hP 0 wM_at0 rfl 13 (by decide) (hts _ m_256) (fun _ h9 => h9) rfl dX9_saysOf_54 ?_
          refine lv_iload_n hx hb dX9_saysOf_57 rfl (lv_at hl 2 rfl) ?_
          obtain ⟨hi_19, hF⟩ := ob_if hF
          refine va_iald (D := G) hx hb hK hP 11 0 wM_at11 rfl (vp_in_iff.mpr hi_19) dX9_saysOf_58 ?_
          refine gw_topi (y := ((eA h 0 13) ((x3).toNatClampNeg))) rfl ?_
          refine lv_i2l (v := (((eA h 0 13) ((x3).toNatClampNeg))).toInt64) hx hb dX9_saysOf_59 rfl ?_
          refine lv_goto (tgt := 75) hx hb dX9_saysOf_60 (by decide) ?_
          exact hJ_75 h x2 x3 ((((eA h 0 13) ((x3).toNatClampNeg))).toInt64) x2 hF H _ ls hP hD hS (lv_sub hl [0, 1, 2] rfl)
      intro h x2 x3 hF H locs ls hP hD hS hl
      rw [f_X9_saysOf_4_s] at hF
      refine lv_aload_n hx hb dX9_saysOf_4 rfl (lv_at hl 0 rfl) ?_
      refine va_get (D := G) (ci := 9) (v := .ref (r 12)) (C := RX9) (T := TX9) (N := 53) hx hb hts iX9 hown hK hP 0 wM_at0 rfl 12 (by decide) (hts _ m_255) (fun _ h9 => h9) rfl dX9_saysOf_5 ?_
      refine lv_iload_n hx hb dX9_saysOf_8 rfl (lv_at hl 2 rfl) ?_
      obtain ⟨hi_1, hF⟩ := ob_if hF
      refine va_iald (D := G) hx hb hK hP 10 0 wM_at10 rfl (vp_in_iff.mpr hi_1) dX9_saysOf_9 ?_
      refine gw_topi (y := ((eA h 0 12) ((x3).toNatClampNeg))) rfl ?_
      refine lv_sipush (v := 408) hx hb dX9_saysOf_10 (by decide) ?_
      refine lv_icmp_eq (tgt := 175) hx hb dX9_saysOf_13 (by decide) (fun c_2 => ?_) (fun c_2 => ?_)
      · have hF := ob_pos c_2 hF
        refine lv_aload_n hx hb dX9_saysOf_175 rfl (lv_at hl 0 rfl) ?_
        refine va_get (D := G) (ci := 9) (v := .ref (r 40)) (C := RX9) (T := TX9) (N := 53) hx hb hts iX9 hown hK hP 0 wM_at0 rfl 40 (by decide) (hts _ m_257) (fun _ h9 => h9) rfl dX9_saysOf_176 ?_
        refine lv_iconst (v := 0) hx hb dX9_saysOf_179 (by decide) ?_
        refine va_lald (D := G) hx hb hK hP 24 1 wM_at24 rfl (vp_in_nI (n := 0) (by decide) (by decide)) dX9_saysOf_180 ?_
        refine gw_topl (y := ((eJ h 0 40) 0)) rfl ?_
        obtain ⟨rfl, rfl⟩ := ob_pair hF
        exact gw_lret () hx hb hr hlocks hP hD hS rfl dX9_saysOf_181
      · have hF := ob_neg c_2 hF
        refine lv_aload_n hx hb dX9_saysOf_16 rfl (lv_at hl 0 rfl) ?_
        refine va_get (D := G) (ci := 9) (v := .ref (r 12)) (C := RX9) (T := TX9) (N := 53) hx hb hts iX9 hown hK hP 0 wM_at0 rfl 12 (by decide) (hts _ m_255) (fun _ h9 => h9) rfl dX9_saysOf_17 ?_
        refine lv_iload_n hx hb dX9_saysOf_20 rfl (lv_at hl 2 rfl) ?_
        obtain ⟨hi_3, hF⟩ := ob_if hF
        refine va_iald (D := G) hx hb hK hP 10 0 wM_at10 rfl (vp_in_iff.mpr hi_3) dX9_saysOf_21 ?_
        refine gw_topi (y := ((eA h 0 12) ((x3).toNatClampNeg))) rfl ?_
        refine lv_istore (lv' := [(4, .int ((eA h 0 12) ((x3).toNatClampNeg))), (0, .ref m0), (2, .int x2), (3, .int x3)]) hx hb dX9_saysOf_22 hl (by decide) rfl (fun ls hl => ?_)
        refine lv_iload hx hb dX9_saysOf_24 (lv_at hl 0 rfl) ?_
        refine lv_sipush (v := 400) hx hb dX9_saysOf_26 (by decide) ?_
        refine lv_icmp_eq (tgt := 40) hx hb dX9_saysOf_29 (by decide) (fun c_4 => ?_) (fun c_4 => ?_)
        · have hF := ob_pos c_4 hF
          exact hJ_40 h x2 x3 ((eA h 0 12) ((x3).toNatClampNeg)) hF H _ ls hP hD hS (lv_sub hl [1, 2, 3, 0] rfl)
        · have hF := ob_neg c_4 hF
          refine lv_iload hx hb dX9_saysOf_32 (lv_at hl 0 rfl) ?_
          refine lv_sipush (v := 401) hx hb dX9_saysOf_34 (by decide) ?_
          refine lv_icmp_ne (tgt := 82) hx hb dX9_saysOf_37 (by decide) (fun c_5 => ?_) (fun c_5 => ?_)
          · have hF := ob_neg c_5 hF
            refine lv_iload hx hb dX9_saysOf_82 (lv_at hl 0 rfl) ?_
            refine lv_sipush (v := 402) hx hb dX9_saysOf_84 (by decide) ?_
            refine lv_icmp_ne (tgt := 110) hx hb dX9_saysOf_87 (by decide) (fun c_6 => ?_) (fun c_6 => ?_)
            · have hF := ob_neg c_6 hF
              refine lv_iload hx hb dX9_saysOf_110 (lv_at hl 0 rfl) ?_
              refine lv_sipush (v := 405) hx hb dX9_saysOf_112 (by decide) ?_
              refine lv_icmp_ne (tgt := 139) hx hb dX9_saysOf_115 (by decide) (fun c_7 => ?_) (fun c_7 => ?_)
              · have hF := ob_neg c_7 hF
                refine lv_iinc (v := (x2 + (-1))) (lv' := [(2, .int (x2 + (-1))), (4, .int ((eA h 0 12) ((x3).toNatClampNeg))), (0, .ref m0), (3, .int x3)]) hx hb dX9_saysOf_139 hl (k := 2) rfl rfl (by decide) rfl (fun ls hl => ?_)
                refine lv_aload_n hx hb dX9_saysOf_142 rfl (lv_at hl 2 rfl) ?_
                refine va_get (D := G) (ci := 9) (v := .ref (r 40)) (C := RX9) (T := TX9) (N := 53) hx hb hts iX9 hown hK hP 0 wM_at0 rfl 40 (by decide) (hts _ m_257) (fun _ h9 => h9) rfl dX9_saysOf_143 ?_
                refine lv_iload_n hx hb dX9_saysOf_146 rfl (lv_at hl 0 rfl) ?_
                refine lv_iconst (v := 1) hx hb dX9_saysOf_147 (by decide) ?_
                refine lv_isub hx hb dX9_saysOf_148 ?_
                refine lv_iload hx hb dX9_saysOf_149 (lv_at hl 1 rfl) ?_
                refine lv_aload_n hx hb dX9_saysOf_151 rfl (lv_at hl 2 rfl) ?_
                refine va_get (D := G) (ci := 9) (v := .ref (r 40)) (C := RX9) (T := TX9) (N := 53) hx hb hts iX9 hown hK hP 0 wM_at0 rfl 40 (by decide) (hts _ m_257) (fun _ h9 => h9) rfl dX9_saysOf_152 ?_
                refine lv_iload_n hx hb dX9_saysOf_155 rfl (lv_at hl 0 rfl) ?_
                refine lv_iconst (v := 1) hx hb dX9_saysOf_156 (by decide) ?_
                refine lv_isub hx hb dX9_saysOf_157 ?_
                obtain ⟨hi_8, hF⟩ := ob_if hF
                refine va_lald (D := G) hx hb hK hP 24 1 wM_at24 rfl (vp_in_iff.mpr hi_8) dX9_saysOf_158 ?_
                refine gw_topl (y := ((eJ h 0 40) ((((x2 + (-1)) - 1)).toNatClampNeg))) rfl ?_
                refine lv_aload_n hx hb dX9_saysOf_159 rfl (lv_at hl 2 rfl) ?_
                refine va_get (D := G) (ci := 9) (v := .ref (r 40)) (C := RX9) (T := TX9) (N := 53) hx hb hts iX9 hown hK hP 0 wM_at0 rfl 40 (by decide) (hts _ m_257) (fun _ h9 => h9) rfl dX9_saysOf_160 ?_
                refine lv_iload_n hx hb dX9_saysOf_163 rfl (lv_at hl 0 rfl) ?_
                obtain ⟨hi_9, hF⟩ := ob_if hF
                refine va_lald (D := G) hx hb hK hP 24 1 wM_at24 rfl (vp_in_iff.mpr hi_9) dX9_saysOf_164 ?_
                refine gw_topl (y := ((eJ h 0 40) (((x2 + (-1))).toNatClampNeg))) rfl ?_
                obtain ⟨r_10, e_10, hF⟩ := ob1_some hF
                refine gx_calll0 (gx_runS0 (As := [.int ((eA h 0 12) ((x3).toNatClampNeg)), .long ((eJ h 0 40) ((((x2 + (-1)) - 1)).toNatClampNeg)), .long ((eJ h 0 40) (((x2 + (-1))).toNatClampNeg))]) (rest := [.int ((x2 + (-1)) - 1), .ref (r 40)]) ⟨hx, hb, hml, hown, hts⟩ (c_X9_worked l G cI cJ cZ cB cT   ((eA h 0 12) ((x3).toNatClampNeg)) ((eJ h 0 40) ((((x2 + (-1)) - 1)).toNatClampNeg)) ((eJ h 0 40) (((x2 + (-1))).toNatClampNeg)) r_10 e_10 H.size) (gG_S m_259 m_260 m_64 m_258) rfl e_X9_worked ⟨Nat.le_of_ble_eq_true rfl, Nat.le_of_ble_eq_true rfl⟩ hK hE hS hA rfl hl.1 rfl (Nat.le_of_ble_eq_true rfl) dX9_saysOf_165 ⟨Nat.le_refl _, Nat.le_refl _⟩) hP hD hS hA (fun x_10 u_10 H locs hw_10 hP hD hS => ?_)
                subst x_10
                obtain ⟨hi_11, hF⟩ := ob_if hF
                refine va_last (D := G) hx hb hK hP hD hS 24 1 wM_at24 rfl (vp_in_iff.mpr hi_11) dX9_saysOf_168 (fun H locs hP hD hS => ?_)
                rw [wM_sA24] at hP hD
                have hP : va_P G vwCl (wM m0 r cI cJ cZ cB cT (sJ h 0 40 (vp_updL (eJ h 0 40) ((((x2 + (-1)) - 1)).toNatClampNeg) r_10))) H := hP
                have hD : va_D A (wM m0 r cI cJ cZ cB cT (sJ h 0 40 (vp_updL (eJ h 0 40) ((((x2 + (-1)) - 1)).toNatClampNeg) r_10))) := hD
                exact hJ_169 (sJ h 0 40 (vp_updL (eJ h 0 40) ((((x2 + (-1)) - 1)).toNatClampNeg) r_10)) (x2 + (-1)) x3 hF H _ ls hP hD hS (lv_sub hl [2, 0, 3] rfl)
              · have hF := ob_pos c_7 hF
                refine lv_aload_n hx hb dX9_saysOf_118 rfl (lv_at hl 1 rfl) ?_
                refine va_get (D := G) (ci := 9) (v := .ref (r 40)) (C := RX9) (T := TX9) (N := 53) hx hb hts iX9 hown hK hP 0 wM_at0 rfl 40 (by decide) (hts _ m_257) (fun _ h9 => h9) rfl dX9_saysOf_119 ?_
                refine lv_iload_n hx hb dX9_saysOf_122 rfl (lv_at hl 2 rfl) ?_
                refine lv_iconst (v := 1) hx hb dX9_saysOf_123 (by decide) ?_
                refine lv_isub hx hb dX9_saysOf_124 ?_
                refine lv_lconst (v := 1) hx hb dX9_saysOf_125 (by decide) ?_
                refine lv_aload_n hx hb dX9_saysOf_126 rfl (lv_at hl 1 rfl) ?_
                refine va_get (D := G) (ci := 9) (v := .ref (r 40)) (C := RX9) (T := TX9) (N := 53) hx hb hts iX9 hown hK hP 0 wM_at0 rfl 40 (by decide) (hts _ m_257) (fun _ h9 => h9) rfl dX9_saysOf_127 ?_
                refine lv_iload_n hx hb dX9_saysOf_130 rfl (lv_at hl 2 rfl) ?_
                refine lv_iconst (v := 1) hx hb dX9_saysOf_131 (by decide) ?_
                refine lv_isub hx hb dX9_saysOf_132 ?_
                obtain ⟨hi_12, hF⟩ := ob_if hF
                refine va_lald (D := G) hx hb hK hP 24 1 wM_at24 rfl (vp_in_iff.mpr hi_12) dX9_saysOf_133 ?_
                refine gw_topl (y := ((eJ h 0 40) (((x2 - 1)).toNatClampNeg))) rfl ?_
                refine lv_lsub hx hb dX9_saysOf_134 ?_
                obtain ⟨hi_13, hF⟩ := ob_if hF
                refine va_last (D := G) hx hb hK hP hD hS 24 1 wM_at24 rfl (vp_in_iff.mpr hi_13) dX9_saysOf_135 (fun H locs hP hD hS => ?_)
                rw [wM_sA24] at hP hD
                have hP : va_P G vwCl (wM m0 r cI cJ cZ cB cT (sJ h 0 40 (vp_updL (eJ h 0 40) (((x2 - 1)).toNatClampNeg) (1 - ((eJ h 0 40) (((x2 - 1)).toNatClampNeg)))))) H := hP
                have hD : va_D A (wM m0 r cI cJ cZ cB cT (sJ h 0 40 (vp_updL (eJ h 0 40) (((x2 - 1)).toNatClampNeg) (1 - ((eJ h 0 40) (((x2 - 1)).toNatClampNeg)))))) := hD
                refine lv_goto (tgt := 169) hx hb dX9_saysOf_136 (by decide) ?_
                exact hJ_169 (sJ h 0 40 (vp_updL (eJ h 0 40) (((x2 - 1)).toNatClampNeg) (1 - ((eJ h 0 40) (((x2 - 1)).toNatClampNeg))))) x2 x3 hF H _ ls hP hD hS (lv_sub hl [1, 2, 3] rfl)
            · have hF := ob_pos c_6 hF
              refine lv_aload_n hx hb dX9_saysOf_90 rfl (lv_at hl 1 rfl) ?_
              refine va_get (D := G) (ci := 9) (v := .ref (r 40)) (C := RX9) (T := TX9) (N := 53) hx hb hts iX9 hown hK hP 0 wM_at0 rfl 40 (by decide) (hts _ m_257) (fun _ h9 => h9) rfl dX9_saysOf_91 ?_
              refine lv_iload_n hx hb dX9_saysOf_94 rfl (lv_at hl 2 rfl) ?_
              refine lv_iconst (v := 1) hx hb dX9_saysOf_95 (by decide) ?_
              refine lv_isub hx hb dX9_saysOf_96 ?_
              refine lv_aload_n hx hb dX9_saysOf_97 rfl (lv_at hl 1 rfl) ?_
              refine va_get (D := G) (ci := 9) (v := .ref (r 40)) (C := RX9) (T := TX9) (N := 53) hx hb hts iX9 hown hK hP 0 wM_at0 rfl 40 (by decide) (hts _ m_257) (fun _ h9 => h9) rfl dX9_saysOf_98 ?_
              refine lv_iload_n hx hb dX9_saysOf_101 rfl (lv_at hl 2 rfl) ?_
              refine lv_iconst (v := 1) hx hb dX9_saysOf_102 (by decide) ?_
              refine lv_isub hx hb dX9_saysOf_103 ?_
              obtain ⟨hi_14, hF⟩ := ob_if hF
              refine va_lald (D := G) hx hb hK hP 24 1 wM_at24 rfl (vp_in_iff.mpr hi_14) dX9_saysOf_104 ?_
              refine gw_topl (y := ((eJ h 0 40) (((x2 - 1)).toNatClampNeg))) rfl ?_
              refine lv_lneg hx hb dX9_saysOf_105 ?_
              obtain ⟨hi_15, hF⟩ := ob_if hF
              refine va_last (D := G) hx hb hK hP hD hS 24 1 wM_at24 rfl (vp_in_iff.mpr hi_15) dX9_saysOf_106 (fun H locs hP hD hS => ?_)
              rw [wM_sA24] at hP hD
              have hP : va_P G vwCl (wM m0 r cI cJ cZ cB cT (sJ h 0 40 (vp_updL (eJ h 0 40) (((x2 - 1)).toNatClampNeg) (-((eJ h 0 40) (((x2 - 1)).toNatClampNeg)))))) H := hP
              have hD : va_D A (wM m0 r cI cJ cZ cB cT (sJ h 0 40 (vp_updL (eJ h 0 40) (((x2 - 1)).toNatClampNeg) (-((eJ h 0 40) (((x2 - 1)).toNatClampNeg)))))) := hD
              refine lv_goto (tgt := 169) hx hb dX9_saysOf_107 (by decide) ?_
              exact hJ_169 (sJ h 0 40 (vp_updL (eJ h 0 40) (((x2 - 1)).toNatClampNeg) (-((eJ h 0 40) (((x2 - 1)).toNatClampNeg))))) x2 x3 hF H _ ls hP hD hS (lv_sub hl [1, 2, 3] rfl)
          · have hF := ob_pos c_5 hF
            exact hJ_40 h x2 x3 ((eA h 0 12) ((x3).toNatClampNeg)) hF H _ ls hP hD hS (lv_sub hl [1, 2, 3, 0] rfl)
  unfold f_X9_saysOf at hF
  refine lv_iconst (v := 0) hx hb dX9_saysOf_0 (by decide) ?_
  refine lv_istore_n (lv' := [(2, .int 0), (0, .ref m0), (1, .int p1)]) hx hb dX9_saysOf_1 rfl hl (by decide) rfl (fun ls hl => ?_)
  refine lv_iload_n hx hb dX9_saysOf_2 rfl (lv_at hl 2 rfl) ?_
  refine lv_istore_n (lv' := [(3, .int p1), (2, .int 0), (0, .ref m0), (1, .int p1)]) hx hb dX9_saysOf_3 rfl hl (by decide) rfl (fun ls hl => ?_)
  exact hJ_4 8589934592 h 0 p1 hF H _ ls hP hD hS (lv_sub hl [2, 1, 0] rfl)
def f_X9_by_23 (h : HS) (x1 : Int32) : Option (Int32 × HS) := (some (1, (sA h 0 0 (upd (eA h 0 0) 4 x1))))
def f_X9_by (h : HS) (p1 : Int32) : Option (Int32 × HS) := (if p1 = (-1) then (f_X9_by_23 h p1) else (ob1 (f_X9_in p1 0 (((eA h 0 0) 3) - 1)) (fun r_2 => (if r_2 = 0 then (some (0, h)) else (f_X9_by_23 h p1)))))
set_option maxHeartbeats 4000000 in
set_option maxRecDepth 100000 in
theorem c_X9_by (l : Launch) (G : va_G) (cI cJ cZ cB cT : ClassId) (m0 : Nat) (r : Nat → Nat) (h : HS) (p1 : Int32) (rr : Int32) (hh : HS) (hF : f_X9_by h p1 = some (rr, hh)) : gMi l yX9_by (gws yX9_by cX9_by 2 (some .boolean)) 2 G (gT cI cJ cZ cB cT) [.ref m0, .int p1] (wM m0 r cI cJ cZ cB cT h) (fun x (_ : Unit) => x = rr) (fun (_ : Unit) => (wM m0 r cI cJ cZ cB cT hh)) := by
  intro sz
  refine gM_start (y := yX9_by) (av := [.ref m0, .int p1]) (ws := (wM m0 r cI cJ cZ cB cT h)) (Qf := fun A => va_Qi (fun x (_ : Unit) => x = rr) (gB G (fun (_ : Unit) => (wM m0 r cI cJ cZ cB cT hh)) A) A) (cc := cX9_by) (maxL := 2) (ret := (some .boolean)) (by decide) (Nat.le_of_ble_eq_true rfl) ?_
  intro p e s m args below meth c A ls H hx hb hr hts hown hin hlocks hml hP hK hD hA hS hl hE
  have hl : lv_has ls 2 [(0, .ref m0), (1, .int p1)] := hl
  have hJ_23 : ∀ (h : HS) (x1 : Int32), f_X9_by_23 h x1 = some (rr, hh) → ∀ (H : Heap) (locs : List Loc) (ls : Array Slot), va_P G vwCl (wM m0 r cI cJ cZ cB cT h) H → va_D A (wM m0 r cI cJ cZ cB cT h) → va_S A s.heap H locs → lv_has ls 2 [(0, .ref m0), (1, .int x1)] → W p l e (gRm 2) s m args below meth c H locs 0 0 (MQ below (va_Qi (fun x (_ : Unit) => x = rr) (gB G (fun (_ : Unit) => (wM m0 r cI cJ cZ cB cT hh)) A) A) args s 0 0 A) (F0 m 23 ls []) := by
    intro h x1 hF H locs ls hP hD hS hl
    unfold f_X9_by_23 at hF
    refine lv_aload_n hx hb dX9_by_23 rfl (lv_at hl 0 rfl) ?_
    refine va_get (D := G) (ci := 9) (v := .ref (r 0)) (C := RX9) (T := TX9) (N := 53) hx hb hts iX9 hown hK hP 0 wM_at0 rfl 0 (by decide) (hts _ m_92) (fun _ h9 => h9) rfl dX9_by_24 ?_
    refine lv_iconst (v := 4) hx hb dX9_by_27 (by decide) ?_
    refine lv_iload_n hx hb dX9_by_28 rfl (lv_at hl 1 rfl) ?_
    refine va_iast (D := G) hx hb hK hP hD hS 1 0 wM_at1 rfl (vp_in_nI (n := 4) (by decide) (by decide)) dX9_by_29 (fun H locs hP hD hS => ?_)
    rw [wM_sA1] at hP hD
    have hP : va_P G vwCl (wM m0 r cI cJ cZ cB cT (sA h 0 0 (upd (eA h 0 0) 4 x1))) H := hP
    have hD : va_D A (wM m0 r cI cJ cZ cB cT (sA h 0 0 (upd (eA h 0 0) 4 x1))) := hD
    refine lv_iconst (v := 1) hx hb dX9_by_30 (by decide) ?_
    obtain ⟨rfl, rfl⟩ := ob_pair hF
    exact gw_zret () hx hb hr hlocks rfl hP hD hS rfl dX9_by_31
  unfold f_X9_by at hF
  refine lv_iload_n hx hb dX9_by_0 rfl (lv_at hl 1 rfl) ?_
  refine lv_iconst (v := (-1)) hx hb dX9_by_1 (by decide) ?_
  refine lv_icmp_eq (tgt := 23) hx hb dX9_by_2 (by decide) (fun c_1 => ?_) (fun c_1 => ?_)
  · have hF := ob_pos c_1 hF
    exact hJ_23 h p1 hF H _ ls hP hD hS (lv_sub hl [0, 1] rfl)
  · have hF := ob_neg c_1 hF
    refine lv_iload_n hx hb dX9_by_5 rfl (lv_at hl 1 rfl) ?_
    refine lv_iconst (v := 0) hx hb dX9_by_6 (by decide) ?_
    refine lv_aload_n hx hb dX9_by_7 rfl (lv_at hl 0 rfl) ?_
    refine va_get (D := G) (ci := 9) (v := .ref (r 0)) (C := RX9) (T := TX9) (N := 53) hx hb hts iX9 hown hK hP 0 wM_at0 rfl 0 (by decide) (hts _ m_92) (fun _ h9 => h9) rfl dX9_by_8 ?_
    refine lv_iconst (v := 3) hx hb dX9_by_11 (by decide) ?_
    refine va_iald (D := G) hx hb hK hP 1 0 wM_at1 rfl (vp_in_nI (n := 3) (by decide) (by decide)) dX9_by_12 ?_
    refine gw_topi (y := ((eA h 0 0) 3)) rfl ?_
    refine lv_iconst (v := 1) hx hb dX9_by_13 (by decide) ?_
    refine lv_isub hx hb dX9_by_14 ?_
    obtain ⟨r_2, e_2, hF⟩ := ob1_some hF
    refine gx_calli0 (gx_runS0 (As := [.int p1, .int 0, .int (((eA h 0 0) 3) - 1)]) (rest := []) ⟨hx, hb, hml, hown, hts⟩ (c_X9_in l G cI cJ cZ cB cT   p1 0 (((eA h 0 0) 3) - 1) r_2 e_2 H.size) (gG_S m_62 m_63 m_64 m_61) rfl e_X9_in ⟨Nat.le_of_ble_eq_true rfl, Nat.le_of_ble_eq_true rfl⟩ hK hE hS hA rfl hl.1 rfl (Nat.le_of_ble_eq_true rfl) dX9_by_15 ⟨Nat.le_refl _, Nat.le_refl _⟩) hP hD hS hA (fun x_2 u_2 H locs hw_2 hP hD hS => ?_)
    subst x_2
    refine lv_if_ne (tgt := 23) hx hb dX9_by_18 (by decide) (fun c_3 => ?_) (fun c_3 => ?_)
    · have hF := ob_neg c_3 hF
      exact hJ_23 h p1 hF H _ ls hP hD hS (lv_sub hl [0, 1] rfl)
    · have hF := ob_pos c_3 hF
      refine lv_iconst (v := 0) hx hb dX9_by_21 (by decide) ?_
      obtain ⟨rfl, rfl⟩ := ob_pair hF
      exact gw_zret () hx hb hr hlocks rfl hP hD hS rfl dX9_by_22
def f_X9_ordersOf_71 (h : HS) (x2 : Int32) : Option (Int32 × HS) := (some (x2, h))
def f_X9_ordersOf_64 (k4 : HS → Int32 → Int32 → Int32 → Option (Int32 × HS)) (h : HS) (x1 : Int32) (x3 : Int32) (y0 : Int32) : Option (Int32 × HS) := (k4 h x1 y0 (x3 + 1))
def f_X9_ordersOf_4 : Nat → HS → Int32 → Int32 → Int32 → Option (Int32 × HS)
  | 0, _, _, _, _ => none
  | n + 1, h, x1, x2, x3 => (if ((eA h 0 0) 4) = (-1) then (f_X9_ordersOf_71 h x2) else (if 0 ≤ (((eA h 0 0) 4)).toInt ∧ (((eA h 0 0) 4)).toInt < 4 then (if ((eA h 0 6) ((((eA h 0 0) 4)).toNatClampNeg)) ≤ x3 then (f_X9_ordersOf_71 h x2) else (if 0 ≤ (((24 * ((eA h 0 0) 4)) + x3)).toInt ∧ (((24 * ((eA h 0 0) 4)) + x3)).toInt < 96 then (if ((eA h 0 7) ((((24 * ((eA h 0 0) 4)) + x3)).toNatClampNeg)) = x1 then (if 0 ≤ (((24 * ((eA h 0 0) 4)) + x3)).toInt ∧ (((24 * ((eA h 0 0) 4)) + x3)).toInt < 96 then (f_X9_ordersOf_64 (f_X9_ordersOf_4 n) h x1 x3 ((eA h 0 8) ((((24 * ((eA h 0 0) 4)) + x3)).toNatClampNeg))) else none) else (f_X9_ordersOf_64 (f_X9_ordersOf_4 n) h x1 x3 x2)) else none)) else none))
theorem f_X9_ordersOf_4_s (n : Nat) (h : HS) (x1 : Int32) (x2 : Int32) (x3 : Int32) : f_X9_ordersOf_4 (n + 1) h x1 x2 x3 = (if ((eA h 0 0) 4) = (-1) then (f_X9_ordersOf_71 h x2) else (if 0 ≤ (((eA h 0 0) 4)).toInt ∧ (((eA h 0 0) 4)).toInt < 4 then (if ((eA h 0 6) ((((eA h 0 0) 4)).toNatClampNeg)) ≤ x3 then (f_X9_ordersOf_71 h x2) else (if 0 ≤ (((24 * ((eA h 0 0) 4)) + x3)).toInt ∧ (((24 * ((eA h 0 0) 4)) + x3)).toInt < 96 then (if ((eA h 0 7) ((((24 * ((eA h 0 0) 4)) + x3)).toNatClampNeg)) = x1 then (if 0 ≤ (((24 * ((eA h 0 0) 4)) + x3)).toInt ∧ (((24 * ((eA h 0 0) 4)) + x3)).toInt < 96 then (f_X9_ordersOf_64 (f_X9_ordersOf_4 n) h x1 x3 ((eA h 0 8) ((((24 * ((eA h 0 0) 4)) + x3)).toNatClampNeg))) else none) else (f_X9_ordersOf_64 (f_X9_ordersOf_4 n) h x1 x3 x2)) else none)) else none)) := rfl
def f_X9_ordersOf (h : HS) (p1 : Int32) : Option (Int32 × HS) := (f_X9_ordersOf_4 8589934592 h p1 (-1) 0)
set_option maxHeartbeats 4000000 in
set_option maxRecDepth 100000 in
theorem c_X9_ordersOf (l : Launch) (G : va_G) (cI cJ cZ cB cT : ClassId) (m0 : Nat) (r : Nat → Nat) (h : HS) (p1 : Int32) (rr : Int32) (hh : HS) (hF : f_X9_ordersOf h p1 = some (rr, hh)) : gMi l yX9_ordersOf (gws yX9_ordersOf cX9_ordersOf 5 (some .int)) 1 G (gT cI cJ cZ cB cT) [.ref m0, .int p1] (wM m0 r cI cJ cZ cB cT h) (fun x (_ : Unit) => x = rr) (fun (_ : Unit) => (wM m0 r cI cJ cZ cB cT hh)) := by
  intro sz
  refine gM_start (y := yX9_ordersOf) (av := [.ref m0, .int p1]) (ws := (wM m0 r cI cJ cZ cB cT h)) (Qf := fun A => va_Qi (fun x (_ : Unit) => x = rr) (gB G (fun (_ : Unit) => (wM m0 r cI cJ cZ cB cT hh)) A) A) (cc := cX9_ordersOf) (maxL := 5) (ret := (some .int)) (by decide) (Nat.le_of_ble_eq_true rfl) ?_
  intro p e s m args below meth c A ls H hx hb hr hts hown hin hlocks hml hP hK hD hA hS hl hE
  have hl : lv_has ls 5 [(0, .ref m0), (1, .int p1)] := hl
  have hJ_71 : ∀ (h : HS) (x2 : Int32), f_X9_ordersOf_71 h x2 = some (rr, hh) → ∀ (H : Heap) (locs : List Loc) (ls : Array Slot), va_P G vwCl (wM m0 r cI cJ cZ cB cT h) H → va_D A (wM m0 r cI cJ cZ cB cT h) → va_S A s.heap H locs → lv_has ls 5 [(2, .int x2)] → W p l e (gRm 1) s m args below meth c H locs 0 0 (MQ below (va_Qi (fun x (_ : Unit) => x = rr) (gB G (fun (_ : Unit) => (wM m0 r cI cJ cZ cB cT hh)) A) A) args s 0 0 A) (F0 m 71 ls []) := by
    intro h x2 hF H locs ls hP hD hS hl
    unfold f_X9_ordersOf_71 at hF
    refine lv_iload_n hx hb dX9_ordersOf_71 rfl (lv_at hl 0 rfl) ?_
    obtain ⟨rfl, rfl⟩ := ob_pair hF
    exact gw_iret () hx hb hr hlocks hP hD hS rfl dX9_ordersOf_72
  have hJ_4 : ∀ (n_4 : Nat) (h : HS) (x1 : Int32) (x2 : Int32) (x3 : Int32), f_X9_ordersOf_4 n_4 h x1 x2 x3 = some (rr, hh) → ∀ (H : Heap) (locs : List Loc) (ls : Array Slot), va_P G vwCl (wM m0 r cI cJ cZ cB cT h) H → va_D A (wM m0 r cI cJ cZ cB cT h) → va_S A s.heap H locs → lv_has ls 5 [(0, .ref m0), (1, .int x1), (2, .int x2), (3, .int x3)] → W p l e (gRm 1) s m args below meth c H locs 0 0 (MQ below (va_Qi (fun x (_ : Unit) => x = rr) (gB G (fun (_ : Unit) => (wM m0 r cI cJ cZ cB cT hh)) A) A) args s 0 0 A) (F0 m 4 ls []) := by
    intro n_4
    induction n_4 with
    | zero =>
      intro h x1 x2 x3 hF
      exact absurd hF (by simp [f_X9_ordersOf_4])
    | succ n_4 ih_4 =>
      have hJ_64 : ∀ (h : HS) (x1 : Int32) (x3 : Int32) (y0 : Int32), f_X9_ordersOf_64 (f_X9_ordersOf_4 n_4) h x1 x3 y0 = some (rr, hh) → ∀ (H : Heap) (locs : List Loc) (ls : Array Slot), va_P G vwCl (wM m0 r cI cJ cZ cB cT h) H → va_D A (wM m0 r cI cJ cZ cB cT h) → va_S A s.heap H locs → lv_has ls 5 [(0, .ref m0), (1, .int x1), (3, .int x3)] → W p l e (gRm 1) s m args below meth c H locs 0 0 (MQ below (va_Qi (fun x (_ : Unit) => x = rr) (gB G (fun (_ : Unit) => (wM m0 r cI cJ cZ cB cT hh)) A) A) args s 0 0 A) (F0 m 64 ls [.int y0]) := by
        intro h x1 x3 y0 hF H locs ls hP hD hS hl
        unfold f_X9_ordersOf_64 at hF
        refine lv_istore_n (lv' := [(2, .int y0), (0, .ref m0), (1, .int x1), (3, .int x3)]) hx hb dX9_ordersOf_64 rfl hl (by decide) rfl (fun ls hl => ?_)
        refine lv_iinc (v := (x3 + 1)) (lv' := [(3, .int (x3 + 1)), (2, .int y0), (0, .ref m0), (1, .int x1)]) hx hb dX9_ordersOf_65 hl (k := 3) rfl rfl (by decide) rfl (fun ls hl => ?_)
        refine lv_goto (tgt := 4) hx hb dX9_ordersOf_68 (by decide) ?_
        exact ih_4 h x1 y0 (x3 + 1) hF H _ ls hP hD hS (lv_sub hl [2, 3, 1, 0] rfl)
      intro h x1 x2 x3 hF H locs ls hP hD hS hl
      rw [f_X9_ordersOf_4_s] at hF
      refine lv_aload_n hx hb dX9_ordersOf_4 rfl (lv_at hl 0 rfl) ?_
      refine va_get (D := G) (ci := 9) (v := .ref (r 0)) (C := RX9) (T := TX9) (N := 53) hx hb hts iX9 hown hK hP 0 wM_at0 rfl 0 (by decide) (hts _ m_92) (fun _ h9 => h9) rfl dX9_ordersOf_5 ?_
      refine lv_iconst (v := 4) hx hb dX9_ordersOf_8 (by decide) ?_
      refine va_iald (D := G) hx hb hK hP 1 0 wM_at1 rfl (vp_in_nI (n := 4) (by decide) (by decide)) dX9_ordersOf_9 ?_
      refine gw_topi (y := ((eA h 0 0) 4)) rfl ?_
      refine lv_iconst (v := (-1)) hx hb dX9_ordersOf_10 (by decide) ?_
      refine lv_icmp_eq (tgt := 71) hx hb dX9_ordersOf_11 (by decide) (fun c_1 => ?_) (fun c_1 => ?_)
      · have hF := ob_pos c_1 hF
        exact hJ_71 h x2 hF H _ ls hP hD hS (lv_sub hl [2] rfl)
      · have hF := ob_neg c_1 hF
        refine lv_iload_n hx hb dX9_ordersOf_14 rfl (lv_at hl 3 rfl) ?_
        refine lv_aload_n hx hb dX9_ordersOf_15 rfl (lv_at hl 0 rfl) ?_
        refine va_get (D := G) (ci := 9) (v := .ref (r 6)) (C := RX9) (T := TX9) (N := 53) hx hb hts iX9 hown hK hP 0 wM_at0 rfl 6 (by decide) (hts _ m_229) (fun _ h9 => h9) rfl dX9_ordersOf_16 ?_
        refine lv_aload_n hx hb dX9_ordersOf_19 rfl (lv_at hl 0 rfl) ?_
        refine va_get (D := G) (ci := 9) (v := .ref (r 0)) (C := RX9) (T := TX9) (N := 53) hx hb hts iX9 hown hK hP 0 wM_at0 rfl 0 (by decide) (hts _ m_92) (fun _ h9 => h9) rfl dX9_ordersOf_20 ?_
        refine lv_iconst (v := 4) hx hb dX9_ordersOf_23 (by decide) ?_
        refine va_iald (D := G) hx hb hK hP 1 0 wM_at1 rfl (vp_in_nI (n := 4) (by decide) (by decide)) dX9_ordersOf_24 ?_
        refine gw_topi (y := ((eA h 0 0) 4)) rfl ?_
        obtain ⟨hi_2, hF⟩ := ob_if hF
        refine va_iald (D := G) hx hb hK hP 4 0 wM_at4 rfl (vp_in_iff.mpr hi_2) dX9_ordersOf_25 ?_
        refine gw_topi (y := ((eA h 0 6) ((((eA h 0 0) 4)).toNatClampNeg))) rfl ?_
        refine lv_icmp_ge (tgt := 71) hx hb dX9_ordersOf_26 (by decide) (fun c_3 => ?_) (fun c_3 => ?_)
        · have hF := ob_pos c_3 hF
          exact hJ_71 h x2 hF H _ ls hP hD hS (lv_sub hl [2] rfl)
        · have hF := ob_neg c_3 hF
          refine lv_bipush (v := 24) hx hb dX9_ordersOf_29 (by decide) ?_
          refine lv_aload_n hx hb dX9_ordersOf_31 rfl (lv_at hl 0 rfl) ?_
          refine va_get (D := G) (ci := 9) (v := .ref (r 0)) (C := RX9) (T := TX9) (N := 53) hx hb hts iX9 hown hK hP 0 wM_at0 rfl 0 (by decide) (hts _ m_92) (fun _ h9 => h9) rfl dX9_ordersOf_32 ?_
          refine lv_iconst (v := 4) hx hb dX9_ordersOf_35 (by decide) ?_
          refine va_iald (D := G) hx hb hK hP 1 0 wM_at1 rfl (vp_in_nI (n := 4) (by decide) (by decide)) dX9_ordersOf_36 ?_
          refine gw_topi (y := ((eA h 0 0) 4)) rfl ?_
          refine lv_imul hx hb dX9_ordersOf_37 ?_
          refine lv_iload_n hx hb dX9_ordersOf_38 rfl (lv_at hl 3 rfl) ?_
          refine lv_iadd hx hb dX9_ordersOf_39 ?_
          refine lv_istore (lv' := [(4, .int ((24 * ((eA h 0 0) 4)) + x3)), (0, .ref m0), (1, .int x1), (2, .int x2), (3, .int x3)]) hx hb dX9_ordersOf_40 hl (by decide) rfl (fun ls hl => ?_)
          refine lv_aload_n hx hb dX9_ordersOf_42 rfl (lv_at hl 1 rfl) ?_
          refine va_get (D := G) (ci := 9) (v := .ref (r 7)) (C := RX9) (T := TX9) (N := 53) hx hb hts iX9 hown hK hP 0 wM_at0 rfl 7 (by decide) (hts _ m_250) (fun _ h9 => h9) rfl dX9_ordersOf_43 ?_
          refine lv_iload hx hb dX9_ordersOf_46 (lv_at hl 0 rfl) ?_
          obtain ⟨hi_4, hF⟩ := ob_if hF
          refine va_iald (D := G) hx hb hK hP 5 0 wM_at5 rfl (vp_in_iff.mpr hi_4) dX9_ordersOf_48 ?_
          refine gw_topi (y := ((eA h 0 7) ((((24 * ((eA h 0 0) 4)) + x3)).toNatClampNeg))) rfl ?_
          refine lv_iload_n hx hb dX9_ordersOf_49 rfl (lv_at hl 2 rfl) ?_
          refine lv_icmp_ne (tgt := 63) hx hb dX9_ordersOf_50 (by decide) (fun c_5 => ?_) (fun c_5 => ?_)
          · have hF := ob_neg c_5 hF
            refine lv_iload_n hx hb dX9_ordersOf_63 rfl (lv_at hl 3 rfl) ?_
            exact hJ_64 h x1 x3 x2 hF H _ ls hP hD hS (lv_sub hl [1, 2, 4] rfl)
          · have hF := ob_pos c_5 hF
            refine lv_aload_n hx hb dX9_ordersOf_53 rfl (lv_at hl 1 rfl) ?_
            refine va_get (D := G) (ci := 9) (v := .ref (r 8)) (C := RX9) (T := TX9) (N := 53) hx hb hts iX9 hown hK hP 0 wM_at0 rfl 8 (by decide) (hts _ m_251) (fun _ h9 => h9) rfl dX9_ordersOf_54 ?_
            refine lv_iload hx hb dX9_ordersOf_57 (lv_at hl 0 rfl) ?_
            obtain ⟨hi_6, hF⟩ := ob_if hF
            refine va_iald (D := G) hx hb hK hP 6 0 wM_at6 rfl (vp_in_iff.mpr hi_6) dX9_ordersOf_59 ?_
            refine gw_topi (y := ((eA h 0 8) ((((24 * ((eA h 0 0) 4)) + x3)).toNatClampNeg))) rfl ?_
            refine lv_goto (tgt := 64) hx hb dX9_ordersOf_60 (by decide) ?_
            exact hJ_64 h x1 x3 ((eA h 0 8) ((((24 * ((eA h 0 0) 4)) + x3)).toNatClampNeg)) hF H _ ls hP hD hS (lv_sub hl [1, 2, 4] rfl)
  unfold f_X9_ordersOf at hF
  refine lv_iconst (v := (-1)) hx hb dX9_ordersOf_0 (by decide) ?_
  refine lv_istore_n (lv' := [(2, .int (-1)), (0, .ref m0), (1, .int p1)]) hx hb dX9_ordersOf_1 rfl hl (by decide) rfl (fun ls hl => ?_)
  refine lv_iconst (v := 0) hx hb dX9_ordersOf_2 (by decide) ?_
  refine lv_istore_n (lv' := [(3, .int 0), (2, .int (-1)), (0, .ref m0), (1, .int p1)]) hx hb dX9_ordersOf_3 rfl hl (by decide) rfl (fun ls hl => ?_)
  exact hJ_4 8589934592 h p1 (-1) 0 hF H _ ls hP hD hS (lv_sub hl [2, 3, 1, 0] rfl)
def f_X9_names (h : HS) (p1 : Int32) (p2 : Int32) (p3 : Int32) (p4 : Int32) : Option HS := (ob2 (f_X9_ofGoose (sA h 0 39 (upd (eA h 0 39) 0 p1)) p1 0) (fun r_1 h_1 => (ob2 (f_X9_ofGoose (sA h_1 0 39 (upd (eA h_1 0 39) 1 r_1)) p1 1) (fun r_2 h_2 => (some (sA (sA (sA (sA h_2 0 39 (upd (eA h_2 0 39) 2 r_2)) 0 39 (upd (upd (eA h_2 0 39) 2 r_2) 3 p2)) 0 39 (upd (upd (upd (eA h_2 0 39) 2 r_2) 3 p2) 4 p3)) 0 39 (upd (upd (upd (upd (eA h_2 0 39) 2 r_2) 3 p2) 4 p3) 5 p4)))))))
set_option maxHeartbeats 4000000 in
set_option maxRecDepth 100000 in
theorem c_X9_names (l : Launch) (G : va_G) (cI cJ cZ cB cT : ClassId) (m0 : Nat) (r : Nat → Nat) (h : HS) (p1 : Int32) (p2 : Int32) (p3 : Int32) (p4 : Int32) (hh : HS) (hF : f_X9_names h p1 p2 p3 p4 = some hh) : gMv l yX9_names (gws yX9_names cX9_names 5 none) 2 G (gT cI cJ cZ cB cT) [.ref m0, .int p1, .int p2, .int p3, .int p4] (wM m0 r cI cJ cZ cB cT h) (fun (_ : Unit) => True) (fun (_ : Unit) => (wM m0 r cI cJ cZ cB cT hh)) := by
  intro sz
  refine gM_start (y := yX9_names) (av := [.ref m0, .int p1, .int p2, .int p3, .int p4]) (ws := (wM m0 r cI cJ cZ cB cT h)) (Qf := fun A => va_Qv (fun (_ : Unit) => True) (gB G (fun (_ : Unit) => (wM m0 r cI cJ cZ cB cT hh)) A) A) (cc := cX9_names) (maxL := 5) (ret := none) (by decide) (Nat.le_of_ble_eq_true rfl) ?_
  intro p e s m args below meth c A ls H hx hb hr hts hown hin hlocks hml hP hK hD hA hS hl hE
  have hl : lv_has ls 5 [(0, .ref m0), (1, .int p1), (2, .int p2), (3, .int p3), (4, .int p4)] := hl
  unfold f_X9_names at hF
  refine lv_aload_n hx hb dX9_names_0 rfl (lv_at hl 0 rfl) ?_
  refine va_get (D := G) (ci := 9) (v := .ref (r 39)) (C := RX9) (T := TX9) (N := 53) hx hb hts iX9 hown hK hP 0 wM_at0 rfl 39 (by decide) (hts _ m_261) (fun _ h9 => h9) rfl dX9_names_1 ?_
  refine lv_iconst (v := 0) hx hb dX9_names_4 (by decide) ?_
  refine lv_iload_n hx hb dX9_names_5 rfl (lv_at hl 1 rfl) ?_
  refine va_iast (D := G) hx hb hK hP hD hS 23 0 wM_at23 rfl (vp_in_nI (n := 0) (by decide) (by decide)) dX9_names_6 (fun H locs hP hD hS => ?_)
  rw [wM_sA23] at hP hD
  have hP : va_P G vwCl (wM m0 r cI cJ cZ cB cT (sA h 0 39 (upd (eA h 0 39) 0 p1))) H := hP
  have hD : va_D A (wM m0 r cI cJ cZ cB cT (sA h 0 39 (upd (eA h 0 39) 0 p1))) := hD
  refine lv_aload_n hx hb dX9_names_7 rfl (lv_at hl 0 rfl) ?_
  refine va_get (D := G) (ci := 9) (v := .ref (r 39)) (C := RX9) (T := TX9) (N := 53) hx hb hts iX9 hown hK hP 0 wM_at0 rfl 39 (by decide) (hts _ m_261) (fun _ h9 => h9) rfl dX9_names_8 ?_
  refine lv_iconst (v := 1) hx hb dX9_names_11 (by decide) ?_
  refine lv_aload_n hx hb dX9_names_12 rfl (lv_at hl 0 rfl) ?_
  refine lv_iload_n hx hb dX9_names_13 rfl (lv_at hl 1 rfl) ?_
  refine lv_iconst (v := 0) hx hb dX9_names_14 (by decide) ?_
  obtain ⟨r_1, h_1, e_1, hF⟩ := ob2_some hF
  refine gx_calli (gx_runV (As := [.int p1, .int 0]) (rest := [.int 1, .ref (r 39)]) ⟨hx, hb, hml, hown, hts⟩ (c_X9_ofGoose l G cI cJ cZ cB cT m0 r (sA h 0 39 (upd (eA h 0 39) 0 p1)) p1 0 r_1 h_1 e_1 H.size) (gG_V m_103 m_104 m_105 m_64 m_102) rfl e_X9_ofGoose ⟨Nat.le_of_ble_eq_true rfl, Nat.le_of_ble_eq_true rfl⟩ hK hP hD hE hS hA 0 wM_at0 rfl rfl hl.1 rfl (Nat.le_of_ble_eq_true rfl) dX9_names_15 ⟨Nat.le_refl _, Nat.le_refl _⟩) hP hD hS hA (fun x_1 u_1 H locs hw_1 hP hD hS => ?_)
  subst x_1
  refine va_iast (D := G) hx hb hK hP hD hS 23 0 wM_at23 rfl (vp_in_nI (n := 1) (by decide) (by decide)) dX9_names_18 (fun H locs hP hD hS => ?_)
  rw [wM_sA23] at hP hD
  have hP : va_P G vwCl (wM m0 r cI cJ cZ cB cT (sA h_1 0 39 (upd (eA h_1 0 39) 1 r_1))) H := hP
  have hD : va_D A (wM m0 r cI cJ cZ cB cT (sA h_1 0 39 (upd (eA h_1 0 39) 1 r_1))) := hD
  refine lv_aload_n hx hb dX9_names_19 rfl (lv_at hl 0 rfl) ?_
  refine va_get (D := G) (ci := 9) (v := .ref (r 39)) (C := RX9) (T := TX9) (N := 53) hx hb hts iX9 hown hK hP 0 wM_at0 rfl 39 (by decide) (hts _ m_261) (fun _ h9 => h9) rfl dX9_names_20 ?_
  refine lv_iconst (v := 2) hx hb dX9_names_23 (by decide) ?_
  refine lv_aload_n hx hb dX9_names_24 rfl (lv_at hl 0 rfl) ?_
  refine lv_iload_n hx hb dX9_names_25 rfl (lv_at hl 1 rfl) ?_
  refine lv_iconst (v := 1) hx hb dX9_names_26 (by decide) ?_
  obtain ⟨r_2, h_2, e_2, hF⟩ := ob2_some hF
  refine gx_calli (gx_runV (As := [.int p1, .int 1]) (rest := [.int 2, .ref (r 39)]) ⟨hx, hb, hml, hown, hts⟩ (c_X9_ofGoose l G cI cJ cZ cB cT m0 r (sA h_1 0 39 (upd (eA h_1 0 39) 1 r_1)) p1 1 r_2 h_2 e_2 H.size) (gG_V m_103 m_104 m_105 m_64 m_102) rfl e_X9_ofGoose ⟨Nat.le_of_ble_eq_true rfl, Nat.le_of_ble_eq_true rfl⟩ hK hP hD hE hS hA 0 wM_at0 rfl rfl hl.1 rfl (Nat.le_of_ble_eq_true rfl) dX9_names_27 ⟨Nat.le_refl _, Nat.le_refl _⟩) hP hD hS hA (fun x_2 u_2 H locs hw_2 hP hD hS => ?_)
  subst x_2
  refine va_iast (D := G) hx hb hK hP hD hS 23 0 wM_at23 rfl (vp_in_nI (n := 2) (by decide) (by decide)) dX9_names_30 (fun H locs hP hD hS => ?_)
  rw [wM_sA23] at hP hD
  have hP : va_P G vwCl (wM m0 r cI cJ cZ cB cT (sA h_2 0 39 (upd (eA h_2 0 39) 2 r_2))) H := hP
  have hD : va_D A (wM m0 r cI cJ cZ cB cT (sA h_2 0 39 (upd (eA h_2 0 39) 2 r_2))) := hD
  refine lv_aload_n hx hb dX9_names_31 rfl (lv_at hl 0 rfl) ?_
  refine va_get (D := G) (ci := 9) (v := .ref (r 39)) (C := RX9) (T := TX9) (N := 53) hx hb hts iX9 hown hK hP 0 wM_at0 rfl 39 (by decide) (hts _ m_261) (fun _ h9 => h9) rfl dX9_names_32 ?_
  refine lv_iconst (v := 3) hx hb dX9_names_35 (by decide) ?_
  refine lv_iload_n hx hb dX9_names_36 rfl (lv_at hl 2 rfl) ?_
  refine va_iast (D := G) hx hb hK hP hD hS 23 0 wM_at23 rfl (vp_in_nI (n := 3) (by decide) (by decide)) dX9_names_37 (fun H locs hP hD hS => ?_)
  rw [wM_sA23] at hP hD
  have hP : va_P G vwCl (wM m0 r cI cJ cZ cB cT (sA (sA h_2 0 39 (upd (eA h_2 0 39) 2 r_2)) 0 39 (upd (upd (eA h_2 0 39) 2 r_2) 3 p2))) H := hP
  have hD : va_D A (wM m0 r cI cJ cZ cB cT (sA (sA h_2 0 39 (upd (eA h_2 0 39) 2 r_2)) 0 39 (upd (upd (eA h_2 0 39) 2 r_2) 3 p2))) := hD
  refine lv_aload_n hx hb dX9_names_38 rfl (lv_at hl 0 rfl) ?_
  refine va_get (D := G) (ci := 9) (v := .ref (r 39)) (C := RX9) (T := TX9) (N := 53) hx hb hts iX9 hown hK hP 0 wM_at0 rfl 39 (by decide) (hts _ m_261) (fun _ h9 => h9) rfl dX9_names_39 ?_
  refine lv_iconst (v := 4) hx hb dX9_names_42 (by decide) ?_
  refine lv_iload_n hx hb dX9_names_43 rfl (lv_at hl 3 rfl) ?_
  refine va_iast (D := G) hx hb hK hP hD hS 23 0 wM_at23 rfl (vp_in_nI (n := 4) (by decide) (by decide)) dX9_names_44 (fun H locs hP hD hS => ?_)
  rw [wM_sA23] at hP hD
  have hP : va_P G vwCl (wM m0 r cI cJ cZ cB cT (sA (sA (sA h_2 0 39 (upd (eA h_2 0 39) 2 r_2)) 0 39 (upd (upd (eA h_2 0 39) 2 r_2) 3 p2)) 0 39 (upd (upd (upd (eA h_2 0 39) 2 r_2) 3 p2) 4 p3))) H := hP
  have hD : va_D A (wM m0 r cI cJ cZ cB cT (sA (sA (sA h_2 0 39 (upd (eA h_2 0 39) 2 r_2)) 0 39 (upd (upd (eA h_2 0 39) 2 r_2) 3 p2)) 0 39 (upd (upd (upd (eA h_2 0 39) 2 r_2) 3 p2) 4 p3))) := hD
  refine lv_aload_n hx hb dX9_names_45 rfl (lv_at hl 0 rfl) ?_
  refine va_get (D := G) (ci := 9) (v := .ref (r 39)) (C := RX9) (T := TX9) (N := 53) hx hb hts iX9 hown hK hP 0 wM_at0 rfl 39 (by decide) (hts _ m_261) (fun _ h9 => h9) rfl dX9_names_46 ?_
  refine lv_iconst (v := 5) hx hb dX9_names_49 (by decide) ?_
  refine lv_iload hx hb dX9_names_50 (lv_at hl 4 rfl) ?_
  refine va_iast (D := G) hx hb hK hP hD hS 23 0 wM_at23 rfl (vp_in_nI (n := 5) (by decide) (by decide)) dX9_names_52 (fun H locs hP hD hS => ?_)
  rw [wM_sA23] at hP hD
  have hP : va_P G vwCl (wM m0 r cI cJ cZ cB cT (sA (sA (sA (sA h_2 0 39 (upd (eA h_2 0 39) 2 r_2)) 0 39 (upd (upd (eA h_2 0 39) 2 r_2) 3 p2)) 0 39 (upd (upd (upd (eA h_2 0 39) 2 r_2) 3 p2) 4 p3)) 0 39 (upd (upd (upd (upd (eA h_2 0 39) 2 r_2) 3 p2) 4 p3) 5 p4))) H := hP
  have hD : va_D A (wM m0 r cI cJ cZ cB cT (sA (sA (sA (sA h_2 0 39 (upd (eA h_2 0 39) 2 r_2)) 0 39 (upd (upd (eA h_2 0 39) 2 r_2) 3 p2)) 0 39 (upd (upd (upd (eA h_2 0 39) 2 r_2) 3 p2) 4 p3)) 0 39 (upd (upd (upd (upd (eA h_2 0 39) 2 r_2) 3 p2) 4 p3) 5 p4))) := hD
  obtain rfl := ob_one hF
  exact gw_vret () hx hb hr hlocks hP hD hS trivial dX9_names_53
def f_X9_inkOf (h : HS) (p1 : Int32) (p2 : Int32) (p3 : Int32) : Option (Int32 × HS) := (ob2 (f_X9_ordersOf h 2) (fun r_1 h_1 => (if r_1 = (-1) then (some (1, h_1)) else (ob1 (f_X9_names h_1 p1 p2 p3 ((eA h_1 0 0) 121)) (fun h_3 => (ob2 (f_X9_saysOf h_3 r_1) (fun r_4 h_4 => (ob1 (f_X9_held r_4 0 99) (fun r_5 => (some (r_5, h_4)))))))))))
theorem e_X9_held : yX9_held.cls = RX9 ∧ yX9_held.cls ≠ "java/lang/invoke/MethodHandle" ∧ yX9_held.cls ≠ "java/lang/invoke/VarHandle" ∧ (parseMethodDescriptor yX9_held.desc).map (fun d => d.parameters.length) = some 3 := by decide +kernel
theorem e_X9_names : yX9_names.cls = RX9 ∧ yX9_names.cls ≠ "java/lang/invoke/MethodHandle" ∧ yX9_names.cls ≠ "java/lang/invoke/VarHandle" ∧ (parseMethodDescriptor yX9_names.desc).map (fun d => d.parameters.length) = some 4 := by decide +kernel
theorem e_X9_ordersOf : yX9_ordersOf.cls = RX9 ∧ yX9_ordersOf.cls ≠ "java/lang/invoke/MethodHandle" ∧ yX9_ordersOf.cls ≠ "java/lang/invoke/VarHandle" ∧ (parseMethodDescriptor yX9_ordersOf.desc).map (fun d => d.parameters.length) = some 1 := by decide +kernel
theorem e_X9_saysOf : yX9_saysOf.cls = RX9 ∧ yX9_saysOf.cls ≠ "java/lang/invoke/MethodHandle" ∧ yX9_saysOf.cls ≠ "java/lang/invoke/VarHandle" ∧ (parseMethodDescriptor yX9_saysOf.desc).map (fun d => d.parameters.length) = some 1 := by decide +kernel
set_option maxHeartbeats 4000000 in
set_option maxRecDepth 100000 in
theorem c_X9_inkOf (l : Launch) (G : va_G) (cI cJ cZ cB cT : ClassId) (m0 : Nat) (r : Nat → Nat) (h : HS) (p1 : Int32) (p2 : Int32) (p3 : Int32) (rr : Int32) (hh : HS) (hF : f_X9_inkOf h p1 p2 p3 = some (rr, hh)) : gMi l yX9_inkOf (gws yX9_inkOf cX9_inkOf 5 (some .int)) 4 G (gT cI cJ cZ cB cT) [.ref m0, .int p1, .int p2, .int p3] (wM m0 r cI cJ cZ cB cT h) (fun x (_ : Unit) => x = rr) (fun (_ : Unit) => (wM m0 r cI cJ cZ cB cT hh)) := by
  intro sz
  refine gM_start (y := yX9_inkOf) (av := [.ref m0, .int p1, .int p2, .int p3]) (ws := (wM m0 r cI cJ cZ cB cT h)) (Qf := fun A => va_Qi (fun x (_ : Unit) => x = rr) (gB G (fun (_ : Unit) => (wM m0 r cI cJ cZ cB cT hh)) A) A) (cc := cX9_inkOf) (maxL := 5) (ret := (some .int)) (by decide) (Nat.le_of_ble_eq_true rfl) ?_
  intro p e s m args below meth c A ls H hx hb hr hts hown hin hlocks hml hP hK hD hA hS hl hE
  have hl : lv_has ls 5 [(0, .ref m0), (1, .int p1), (2, .int p2), (3, .int p3)] := hl
  unfold f_X9_inkOf at hF
  refine lv_aload_n hx hb dX9_inkOf_0 rfl (lv_at hl 0 rfl) ?_
  refine lv_iconst (v := 2) hx hb dX9_inkOf_1 (by decide) ?_
  obtain ⟨r_1, h_1, e_1, hF⟩ := ob2_some hF
  refine gx_calli (gx_runV (As := [.int 2]) (rest := []) ⟨hx, hb, hml, hown, hts⟩ (c_X9_ordersOf l G cI cJ cZ cB cT m0 r h 2 r_1 h_1 e_1 H.size) (gG_V m_263 m_264 m_265 m_64 m_262) rfl e_X9_ordersOf ⟨Nat.le_of_ble_eq_true rfl, Nat.le_of_ble_eq_true rfl⟩ hK hP hD hE hS hA 0 wM_at0 rfl rfl hl.1 rfl (Nat.le_of_ble_eq_true rfl) dX9_inkOf_2 ⟨Nat.le_refl _, Nat.le_refl _⟩) hP hD hS hA (fun x_1 u_1 H locs hw_1 hP hD hS => ?_)
  subst x_1
  refine lv_istore (lv' := [(4, .int r_1), (0, .ref m0), (1, .int p1), (2, .int p2), (3, .int p3)]) hx hb dX9_inkOf_5 hl (by decide) rfl (fun ls hl => ?_)
  refine lv_iload hx hb dX9_inkOf_7 (lv_at hl 0 rfl) ?_
  refine lv_iconst (v := (-1)) hx hb dX9_inkOf_9 (by decide) ?_
  refine lv_icmp_ne (tgt := 15) hx hb dX9_inkOf_10 (by decide) (fun c_2 => ?_) (fun c_2 => ?_)
  · have hF := ob_neg c_2 hF
    refine lv_aload_n hx hb dX9_inkOf_15 rfl (lv_at hl 1 rfl) ?_
    refine lv_iload_n hx hb dX9_inkOf_16 rfl (lv_at hl 2 rfl) ?_
    refine lv_iload_n hx hb dX9_inkOf_17 rfl (lv_at hl 3 rfl) ?_
    refine lv_iload_n hx hb dX9_inkOf_18 rfl (lv_at hl 4 rfl) ?_
    refine lv_aload_n hx hb dX9_inkOf_19 rfl (lv_at hl 1 rfl) ?_
    refine va_get (D := G) (ci := 9) (v := .ref (r 0)) (C := RX9) (T := TX9) (N := 53) hx hb hts iX9 hown hK hP 0 wM_at0 rfl 0 (by decide) (hts _ m_92) (fun _ h9 => h9) rfl dX9_inkOf_20 ?_
    refine lv_bipush (v := 121) hx hb dX9_inkOf_23 (by decide) ?_
    refine va_iald (D := G) hx hb hK hP 1 0 wM_at1 rfl (vp_in_nI (n := 121) (by decide) (by decide)) dX9_inkOf_25 ?_
    refine gw_topi (y := ((eA h_1 0 0) 121)) rfl ?_
    obtain ⟨h_3, e_3, hF⟩ := ob1_some hF
    refine gx_callv (gx_runV (As := [.int p1, .int p2, .int p3, .int ((eA h_1 0 0) 121)]) (rest := []) ⟨hx, hb, hml, hown, hts⟩ (c_X9_names l G cI cJ cZ cB cT m0 r h_1 p1 p2 p3 ((eA h_1 0 0) 121) h_3 e_3 H.size) (gG_V m_267 m_268 m_269 m_64 m_266) rfl e_X9_names ⟨Nat.le_of_ble_eq_true rfl, Nat.le_of_ble_eq_true rfl⟩ hK hP hD hE hS hA 0 wM_at0 rfl rfl hl.1 rfl (Nat.le_of_ble_eq_true rfl) dX9_inkOf_26 ⟨Nat.le_refl _, Nat.le_refl _⟩) hP hD hS hA (fun u_3 H locs hw_3 hP hD hS => ?_)
    refine lv_aload_n hx hb dX9_inkOf_29 rfl (lv_at hl 1 rfl) ?_
    refine lv_iload hx hb dX9_inkOf_30 (lv_at hl 0 rfl) ?_
    obtain ⟨r_4, h_4, e_4, hF⟩ := ob2_some hF
    refine gx_calll (gx_runV (As := [.int r_1]) (rest := []) ⟨hx, hb, hml, hown, hts⟩ (c_X9_saysOf l G cI cJ cZ cB cT m0 r h_3 r_1 r_4 h_4 e_4 H.size) (gG_V m_271 m_272 m_273 m_64 m_270) rfl e_X9_saysOf ⟨Nat.le_of_ble_eq_true rfl, Nat.le_of_ble_eq_true rfl⟩ hK hP hD hE hS hA 0 wM_at0 rfl rfl hl.1 rfl (Nat.le_of_ble_eq_true rfl) dX9_inkOf_32 ⟨Nat.le_refl _, Nat.le_refl _⟩) hP hD hS hA (fun x_4 u_4 H locs hw_4 hP hD hS => ?_)
    subst x_4
    refine lv_iconst (v := 0) hx hb dX9_inkOf_35 (by decide) ?_
    refine lv_bipush (v := 99) hx hb dX9_inkOf_36 (by decide) ?_
    obtain ⟨r_5, e_5, hF⟩ := ob1_some hF
    refine gx_calli0 (gx_runS0 (As := [.long r_4, .int 0, .int 99]) (rest := []) ⟨hx, hb, hml, hown, hts⟩ (c_X9_held l G cI cJ cZ cB cT   r_4 0 99 r_5 e_5 H.size) (gG_S m_275 m_276 m_64 m_274) rfl e_X9_held ⟨Nat.le_of_ble_eq_true rfl, Nat.le_of_ble_eq_true rfl⟩ hK hE hS hA rfl hl.1 rfl (Nat.le_of_ble_eq_true rfl) dX9_inkOf_38 ⟨Nat.le_refl _, Nat.le_refl _⟩) hP hD hS hA (fun x_5 u_5 H locs hw_5 hP hD hS => ?_)
    subst x_5
    obtain ⟨rfl, rfl⟩ := ob_pair hF
    exact gw_iret () hx hb hr hlocks hP hD hS rfl dX9_inkOf_41
  · have hF := ob_pos c_2 hF
    refine lv_iconst (v := 1) hx hb dX9_inkOf_13 (by decide) ?_
    obtain ⟨rfl, rfl⟩ := ob_pair hF
    exact gw_iret () hx hb hr hlocks hP hD hS rfl dX9_inkOf_14
def f_X9_ink_27 (h : HS) (y0 : Int32) : Option (Int32 × HS) := (some (y0, h))
def f_X9_ink_26 (h : HS) : Option (Int32 × HS) := (f_X9_ink_27 h (-1))
def f_X9_ink (h : HS) (p1 : Int32) (p2 : Int32) (p3 : Int32) : Option (Int32 × HS) := (ob2 (f_X9_isGoose h p1) (fun r_1 h_1 => (if r_1 = 0 then (f_X9_ink_26 h_1) else (ob1 (f_X9_isQuill p2 p3) (fun r_3 => (if r_3 = 0 then (f_X9_ink_26 h_1) else (ob2 (f_X9_inkOf h_1 p1 p2 p3) (fun r_5 h_5 => (f_X9_ink_27 h_5 r_5)))))))))
theorem e_X9_inkOf : yX9_inkOf.cls = RX9 ∧ yX9_inkOf.cls ≠ "java/lang/invoke/MethodHandle" ∧ yX9_inkOf.cls ≠ "java/lang/invoke/VarHandle" ∧ (parseMethodDescriptor yX9_inkOf.desc).map (fun d => d.parameters.length) = some 3 := by decide +kernel
theorem e_X9_isQuill : yX9_isQuill.cls = RX9 ∧ yX9_isQuill.cls ≠ "java/lang/invoke/MethodHandle" ∧ yX9_isQuill.cls ≠ "java/lang/invoke/VarHandle" ∧ (parseMethodDescriptor yX9_isQuill.desc).map (fun d => d.parameters.length) = some 2 := by decide +kernel
set_option maxHeartbeats 4000000 in
set_option maxRecDepth 100000 in
theorem c_X9_ink (l : Launch) (G : va_G) (cI cJ cZ cB cT : ClassId) (m0 : Nat) (r : Nat → Nat) (h : HS) (p1 : Int32) (p2 : Int32) (p3 : Int32) (rr : Int32) (hh : HS) (hF : f_X9_ink h p1 p2 p3 = some (rr, hh)) : gMi l yX9_ink (gws yX9_ink cX9_ink 4 (some .int)) 5 G (gT cI cJ cZ cB cT) [.ref m0, .int p1, .int p2, .int p3] (wM m0 r cI cJ cZ cB cT h) (fun x (_ : Unit) => x = rr) (fun (_ : Unit) => (wM m0 r cI cJ cZ cB cT hh)) := by
  intro sz
  refine gM_start (y := yX9_ink) (av := [.ref m0, .int p1, .int p2, .int p3]) (ws := (wM m0 r cI cJ cZ cB cT h)) (Qf := fun A => va_Qi (fun x (_ : Unit) => x = rr) (gB G (fun (_ : Unit) => (wM m0 r cI cJ cZ cB cT hh)) A) A) (cc := cX9_ink) (maxL := 4) (ret := (some .int)) (by decide) (Nat.le_of_ble_eq_true rfl) ?_
  intro p e s m args below meth c A ls H hx hb hr hts hown hin hlocks hml hP hK hD hA hS hl hE
  have hl : lv_has ls 4 [(0, .ref m0), (1, .int p1), (2, .int p2), (3, .int p3)] := hl
  have hJ_27 : ∀ (h : HS) (y0 : Int32), f_X9_ink_27 h y0 = some (rr, hh) → ∀ (H : Heap) (locs : List Loc) (ls : Array Slot), va_P G vwCl (wM m0 r cI cJ cZ cB cT h) H → va_D A (wM m0 r cI cJ cZ cB cT h) → va_S A s.heap H locs → lv_has ls 4 [] → W p l e (gRm 5) s m args below meth c H locs 0 0 (MQ below (va_Qi (fun x (_ : Unit) => x = rr) (gB G (fun (_ : Unit) => (wM m0 r cI cJ cZ cB cT hh)) A) A) args s 0 0 A) (F0 m 27 ls [.int y0]) := by
    intro h y0 hF H locs ls hP hD hS hl
    unfold f_X9_ink_27 at hF
    obtain ⟨rfl, rfl⟩ := ob_pair hF
    exact gw_iret () hx hb hr hlocks hP hD hS rfl dX9_ink_27
  have hJ_26 : ∀ (h : HS), f_X9_ink_26 h = some (rr, hh) → ∀ (H : Heap) (locs : List Loc) (ls : Array Slot), va_P G vwCl (wM m0 r cI cJ cZ cB cT h) H → va_D A (wM m0 r cI cJ cZ cB cT h) → va_S A s.heap H locs → lv_has ls 4 [] → W p l e (gRm 5) s m args below meth c H locs 0 0 (MQ below (va_Qi (fun x (_ : Unit) => x = rr) (gB G (fun (_ : Unit) => (wM m0 r cI cJ cZ cB cT hh)) A) A) args s 0 0 A) (F0 m 26 ls []) := by
    intro h hF H locs ls hP hD hS hl
    unfold f_X9_ink_26 at hF
    refine lv_iconst (v := (-1)) hx hb dX9_ink_26 (by decide) ?_
    exact hJ_27 h (-1) hF H _ ls hP hD hS (lv_sub hl [] rfl)
  unfold f_X9_ink at hF
  refine lv_aload_n hx hb dX9_ink_0 rfl (lv_at hl 0 rfl) ?_
  refine lv_iload_n hx hb dX9_ink_1 rfl (lv_at hl 1 rfl) ?_
  obtain ⟨r_1, h_1, e_1, hF⟩ := ob2_some hF
  refine gx_calli (gx_runV (As := [.int p1]) (rest := []) ⟨hx, hb, hml, hown, hts⟩ (c_X9_isGoose l G cI cJ cZ cB cT m0 r h p1 r_1 h_1 e_1 H.size) (gG_V m_99 m_100 m_101 m_64 m_98) rfl e_X9_isGoose ⟨Nat.le_of_ble_eq_true rfl, Nat.le_of_ble_eq_true rfl⟩ hK hP hD hE hS hA 0 wM_at0 rfl rfl hl.1 rfl (Nat.le_of_ble_eq_true rfl) dX9_ink_2 ⟨Nat.le_refl _, Nat.le_refl _⟩) hP hD hS hA (fun x_1 u_1 H locs hw_1 hP hD hS => ?_)
  subst x_1
  refine lv_if_eq (tgt := 26) hx hb dX9_ink_5 (by decide) (fun c_2 => ?_) (fun c_2 => ?_)
  · have hF := ob_pos c_2 hF
    exact hJ_26 h_1 hF H _ ls hP hD hS (lv_sub hl [] rfl)
  · have hF := ob_neg c_2 hF
    refine lv_iload_n hx hb dX9_ink_8 rfl (lv_at hl 2 rfl) ?_
    refine lv_iload_n hx hb dX9_ink_9 rfl (lv_at hl 3 rfl) ?_
    obtain ⟨r_3, e_3, hF⟩ := ob1_some hF
    refine gx_calli0 (gx_runS0 (As := [.int p2, .int p3]) (rest := []) ⟨hx, hb, hml, hown, hts⟩ (c_X9_isQuill l G cI cJ cZ cB cT   p2 p3 r_3 e_3 H.size) (gG_S m_278 m_279 m_64 m_277) rfl e_X9_isQuill ⟨Nat.le_of_ble_eq_true rfl, Nat.le_of_ble_eq_true rfl⟩ hK hE hS hA rfl hl.1 rfl (Nat.le_of_ble_eq_true rfl) dX9_ink_10 ⟨Nat.le_refl _, Nat.le_refl _⟩) hP hD hS hA (fun x_3 u_3 H locs hw_3 hP hD hS => ?_)
    subst x_3
    refine lv_if_eq (tgt := 26) hx hb dX9_ink_13 (by decide) (fun c_4 => ?_) (fun c_4 => ?_)
    · have hF := ob_pos c_4 hF
      exact hJ_26 h_1 hF H _ ls hP hD hS (lv_sub hl [] rfl)
    · have hF := ob_neg c_4 hF
      refine lv_aload_n hx hb dX9_ink_16 rfl (lv_at hl 0 rfl) ?_
      refine lv_iload_n hx hb dX9_ink_17 rfl (lv_at hl 1 rfl) ?_
      refine lv_iload_n hx hb dX9_ink_18 rfl (lv_at hl 2 rfl) ?_
      refine lv_iload_n hx hb dX9_ink_19 rfl (lv_at hl 3 rfl) ?_
      obtain ⟨r_5, h_5, e_5, hF⟩ := ob2_some hF
      refine gx_calli (gx_runV (As := [.int p1, .int p2, .int p3]) (rest := []) ⟨hx, hb, hml, hown, hts⟩ (c_X9_inkOf l G cI cJ cZ cB cT m0 r h_1 p1 p2 p3 r_5 h_5 e_5 H.size) (gG_V m_281 m_282 m_283 m_64 m_280) rfl e_X9_inkOf ⟨Nat.le_of_ble_eq_true rfl, Nat.le_of_ble_eq_true rfl⟩ hK hP hD hE hS hA 0 wM_at0 rfl rfl hl.1 rfl (Nat.le_of_ble_eq_true rfl) dX9_ink_20 ⟨Nat.le_refl _, Nat.le_refl _⟩) hP hD hS hA (fun x_5 u_5 H locs hw_5 hP hD hS => ?_)
      subst x_5
      refine lv_goto (tgt := 27) hx hb dX9_ink_23 (by decide) ?_
      exact hJ_27 h_5 r_5 hF H _ ls hP hD hS (lv_sub hl [] rfl)
def f_X9_fill_43 (h : HS) : Option (Int32 × HS) := (some ((-1), h))
def f_X9_fill (h : HS) (p1 : Int32) (p2 : Int32) (p3 : Int32) : Option (Int32 × HS) := (ob2 (f_X9_isHome h p1) (fun r_1 h_1 => (if r_1 = 0 then (f_X9_fill_43 h_1) else (ob2 (f_X9_ofGoose h_1 p1 2) (fun r_3 h_3 => (if r_3 = (-1) then (ob1 (f_X9_isQuill p2 p3) (fun r_5 => (if r_5 = 0 then (f_X9_fill_43 h_3) else (ob2 (f_X9_inkOf h_3 p1 p2 p3) (fun r_7 h_7 => (if r_7 ≤ ((eA h_7 0 0) 120) then (ob2 (f_X9_inkOf h_7 p1 p2 p3) (fun r_9 h_9 => (ob1 (f_X9_keepsStep h_9) (fun h_10 => (ob1 (f_X9_puts h_10 p1 2 p2) (fun h_11 => (ob1 (f_X9_puts h_11 p1 3 p3) (fun h_12 => (some (((upd (eA h_12 0 0) 120 (((eA h_12 0 0) 120) - r_9)) 120), (sA h_12 0 0 (upd (eA h_12 0 0) 120 (((eA h_12 0 0) 120) - r_9))))))))))))) else (f_X9_fill_43 h_7))))))) else (f_X9_fill_43 h_3)))))))
theorem e_X9_isHome : yX9_isHome.cls = RX9 ∧ yX9_isHome.cls ≠ "java/lang/invoke/MethodHandle" ∧ yX9_isHome.cls ≠ "java/lang/invoke/VarHandle" ∧ (parseMethodDescriptor yX9_isHome.desc).map (fun d => d.parameters.length) = some 1 := by decide +kernel
theorem e_X9_keepsStep : yX9_keepsStep.cls = RX9 ∧ yX9_keepsStep.cls ≠ "java/lang/invoke/MethodHandle" ∧ yX9_keepsStep.cls ≠ "java/lang/invoke/VarHandle" ∧ (parseMethodDescriptor yX9_keepsStep.desc).map (fun d => d.parameters.length) = some 0 := by decide +kernel
theorem e_X9_puts : yX9_puts.cls = RX9 ∧ yX9_puts.cls ≠ "java/lang/invoke/MethodHandle" ∧ yX9_puts.cls ≠ "java/lang/invoke/VarHandle" ∧ (parseMethodDescriptor yX9_puts.desc).map (fun d => d.parameters.length) = some 3 := by decide +kernel
set_option maxHeartbeats 4000000 in
set_option maxRecDepth 100000 in
theorem c_X9_fill (l : Launch) (G : va_G) (cI cJ cZ cB cT : ClassId) (m0 : Nat) (r : Nat → Nat) (h : HS) (p1 : Int32) (p2 : Int32) (p3 : Int32) (rr : Int32) (hh : HS) (hF : f_X9_fill h p1 p2 p3 = some (rr, hh)) : gMi l yX9_fill (gws yX9_fill cX9_fill 5 (some .int)) 5 G (gT cI cJ cZ cB cT) [.ref m0, .int p1, .int p2, .int p3] (wM m0 r cI cJ cZ cB cT h) (fun x (_ : Unit) => x = rr) (fun (_ : Unit) => (wM m0 r cI cJ cZ cB cT hh)) := by
  intro sz
  refine gM_start (y := yX9_fill) (av := [.ref m0, .int p1, .int p2, .int p3]) (ws := (wM m0 r cI cJ cZ cB cT h)) (Qf := fun A => va_Qi (fun x (_ : Unit) => x = rr) (gB G (fun (_ : Unit) => (wM m0 r cI cJ cZ cB cT hh)) A) A) (cc := cX9_fill) (maxL := 5) (ret := (some .int)) (by decide) (Nat.le_of_ble_eq_true rfl) ?_
  intro p e s m args below meth c A ls H hx hb hr hts hown hin hlocks hml hP hK hD hA hS hl hE
  have hl : lv_has ls 5 [(0, .ref m0), (1, .int p1), (2, .int p2), (3, .int p3)] := hl
  have hJ_43 : ∀ (h : HS), f_X9_fill_43 h = some (rr, hh) → ∀ (H : Heap) (locs : List Loc) (ls : Array Slot), va_P G vwCl (wM m0 r cI cJ cZ cB cT h) H → va_D A (wM m0 r cI cJ cZ cB cT h) → va_S A s.heap H locs → lv_has ls 5 [] → W p l e (gRm 5) s m args below meth c H locs 0 0 (MQ below (va_Qi (fun x (_ : Unit) => x = rr) (gB G (fun (_ : Unit) => (wM m0 r cI cJ cZ cB cT hh)) A) A) args s 0 0 A) (F0 m 43 ls []) := by
    intro h hF H locs ls hP hD hS hl
    unfold f_X9_fill_43 at hF
    refine lv_iconst (v := (-1)) hx hb dX9_fill_43 (by decide) ?_
    obtain ⟨rfl, rfl⟩ := ob_pair hF
    exact gw_iret () hx hb hr hlocks hP hD hS rfl dX9_fill_44
  unfold f_X9_fill at hF
  refine lv_aload_n hx hb dX9_fill_0 rfl (lv_at hl 0 rfl) ?_
  refine lv_iload_n hx hb dX9_fill_1 rfl (lv_at hl 1 rfl) ?_
  obtain ⟨r_1, h_1, e_1, hF⟩ := ob2_some hF
  refine gx_calli (gx_runV (As := [.int p1]) (rest := []) ⟨hx, hb, hml, hown, hts⟩ (c_X9_isHome l G cI cJ cZ cB cT m0 r h p1 r_1 h_1 e_1 H.size) (gG_V m_285 m_286 m_287 m_64 m_284) rfl e_X9_isHome ⟨Nat.le_of_ble_eq_true rfl, Nat.le_of_ble_eq_true rfl⟩ hK hP hD hE hS hA 0 wM_at0 rfl rfl hl.1 rfl (Nat.le_of_ble_eq_true rfl) dX9_fill_2 ⟨Nat.le_refl _, Nat.le_refl _⟩) hP hD hS hA (fun x_1 u_1 H locs hw_1 hP hD hS => ?_)
  subst x_1
  refine lv_if_eq (tgt := 43) hx hb dX9_fill_5 (by decide) (fun c_2 => ?_) (fun c_2 => ?_)
  · have hF := ob_pos c_2 hF
    exact hJ_43 h_1 hF H _ ls hP hD hS (lv_sub hl [] rfl)
  · have hF := ob_neg c_2 hF
    refine lv_aload_n hx hb dX9_fill_8 rfl (lv_at hl 0 rfl) ?_
    refine lv_iload_n hx hb dX9_fill_9 rfl (lv_at hl 1 rfl) ?_
    refine lv_iconst (v := 2) hx hb dX9_fill_10 (by decide) ?_
    obtain ⟨r_3, h_3, e_3, hF⟩ := ob2_some hF
    refine gx_calli (gx_runV (As := [.int p1, .int 2]) (rest := []) ⟨hx, hb, hml, hown, hts⟩ (c_X9_ofGoose l G cI cJ cZ cB cT m0 r h_1 p1 2 r_3 h_3 e_3 H.size) (gG_V m_103 m_104 m_105 m_64 m_102) rfl e_X9_ofGoose ⟨Nat.le_of_ble_eq_true rfl, Nat.le_of_ble_eq_true rfl⟩ hK hP hD hE hS hA 0 wM_at0 rfl rfl hl.1 rfl (Nat.le_of_ble_eq_true rfl) dX9_fill_11 ⟨Nat.le_refl _, Nat.le_refl _⟩) hP hD hS hA (fun x_3 u_3 H locs hw_3 hP hD hS => ?_)
    subst x_3
    refine lv_iconst (v := (-1)) hx hb dX9_fill_14 (by decide) ?_
    refine lv_icmp_ne (tgt := 43) hx hb dX9_fill_15 (by decide) (fun c_4 => ?_) (fun c_4 => ?_)
    · have hF := ob_neg c_4 hF
      exact hJ_43 h_3 hF H _ ls hP hD hS (lv_sub hl [] rfl)
    · have hF := ob_pos c_4 hF
      refine lv_iload_n hx hb dX9_fill_18 rfl (lv_at hl 2 rfl) ?_
      refine lv_iload_n hx hb dX9_fill_19 rfl (lv_at hl 3 rfl) ?_
      obtain ⟨r_5, e_5, hF⟩ := ob1_some hF
      refine gx_calli0 (gx_runS0 (As := [.int p2, .int p3]) (rest := []) ⟨hx, hb, hml, hown, hts⟩ (c_X9_isQuill l G cI cJ cZ cB cT   p2 p3 r_5 e_5 H.size) (gG_S m_278 m_279 m_64 m_277) rfl e_X9_isQuill ⟨Nat.le_of_ble_eq_true rfl, Nat.le_of_ble_eq_true rfl⟩ hK hE hS hA rfl hl.1 rfl (Nat.le_of_ble_eq_true rfl) dX9_fill_20 ⟨Nat.le_refl _, Nat.le_refl _⟩) hP hD hS hA (fun x_5 u_5 H locs hw_5 hP hD hS => ?_)
      subst x_5
      refine lv_if_eq (tgt := 43) hx hb dX9_fill_23 (by decide) (fun c_6 => ?_) (fun c_6 => ?_)
      · have hF := ob_pos c_6 hF
        exact hJ_43 h_3 hF H _ ls hP hD hS (lv_sub hl [] rfl)
      · have hF := ob_neg c_6 hF
        refine lv_aload_n hx hb dX9_fill_26 rfl (lv_at hl 0 rfl) ?_
        refine lv_iload_n hx hb dX9_fill_27 rfl (lv_at hl 1 rfl) ?_
        refine lv_iload_n hx hb dX9_fill_28 rfl (lv_at hl 2 rfl) ?_
        refine lv_iload_n hx hb dX9_fill_29 rfl (lv_at hl 3 rfl) ?_
        obtain ⟨r_7, h_7, e_7, hF⟩ := ob2_some hF
        refine gx_calli (gx_runV (As := [.int p1, .int p2, .int p3]) (rest := []) ⟨hx, hb, hml, hown, hts⟩ (c_X9_inkOf l G cI cJ cZ cB cT m0 r h_3 p1 p2 p3 r_7 h_7 e_7 H.size) (gG_V m_281 m_282 m_283 m_64 m_280) rfl e_X9_inkOf ⟨Nat.le_of_ble_eq_true rfl, Nat.le_of_ble_eq_true rfl⟩ hK hP hD hE hS hA 0 wM_at0 rfl rfl hl.1 rfl (Nat.le_of_ble_eq_true rfl) dX9_fill_30 ⟨Nat.le_refl _, Nat.le_refl _⟩) hP hD hS hA (fun x_7 u_7 H locs hw_7 hP hD hS => ?_)
        subst x_7
        refine lv_aload_n hx hb dX9_fill_33 rfl (lv_at hl 0 rfl) ?_
        refine va_get (D := G) (ci := 9) (v := .ref (r 0)) (C := RX9) (T := TX9) (N := 53) hx hb hts iX9 hown hK hP 0 wM_at0 rfl 0 (by decide) (hts _ m_92) (fun _ h9 => h9) rfl dX9_fill_34 ?_
        refine lv_bipush (v := 120) hx hb dX9_fill_37 (by decide) ?_
        refine va_iald (D := G) hx hb hK hP 1 0 wM_at1 rfl (vp_in_nI (n := 120) (by decide) (by decide)) dX9_fill_39 ?_
        refine gw_topi (y := ((eA h_7 0 0) 120)) rfl ?_
        refine lv_icmp_le (tgt := 45) hx hb dX9_fill_40 (by decide) (fun c_8 => ?_) (fun c_8 => ?_)
        · have hF := ob_pos c_8 hF
          refine lv_aload_n hx hb dX9_fill_45 rfl (lv_at hl 0 rfl) ?_
          refine lv_iload_n hx hb dX9_fill_46 rfl (lv_at hl 1 rfl) ?_
          refine lv_iload_n hx hb dX9_fill_47 rfl (lv_at hl 2 rfl) ?_
          refine lv_iload_n hx hb dX9_fill_48 rfl (lv_at hl 3 rfl) ?_
          obtain ⟨r_9, h_9, e_9, hF⟩ := ob2_some hF
          refine gx_calli (gx_runV (As := [.int p1, .int p2, .int p3]) (rest := []) ⟨hx, hb, hml, hown, hts⟩ (c_X9_inkOf l G cI cJ cZ cB cT m0 r h_7 p1 p2 p3 r_9 h_9 e_9 H.size) (gG_V m_281 m_282 m_283 m_64 m_280) rfl e_X9_inkOf ⟨Nat.le_of_ble_eq_true rfl, Nat.le_of_ble_eq_true rfl⟩ hK hP hD hE hS hA 0 wM_at0 rfl rfl hl.1 rfl (Nat.le_of_ble_eq_true rfl) dX9_fill_49 ⟨Nat.le_refl _, Nat.le_refl _⟩) hP hD hS hA (fun x_9 u_9 H locs hw_9 hP hD hS => ?_)
          subst x_9
          refine lv_istore (lv' := [(4, .int r_9), (0, .ref m0), (1, .int p1), (2, .int p2), (3, .int p3)]) hx hb dX9_fill_52 hl (by decide) rfl (fun ls hl => ?_)
          refine lv_aload_n hx hb dX9_fill_54 rfl (lv_at hl 1 rfl) ?_
          obtain ⟨h_10, e_10, hF⟩ := ob1_some hF
          refine gx_callv (gx_runV (As := []) (rest := []) ⟨hx, hb, hml, hown, hts⟩ (c_X9_keepsStep l G cI cJ cZ cB cT m0 r h_9  h_10 e_10 H.size) (gG_V m_289 m_290 m_291 m_64 m_288) rfl e_X9_keepsStep ⟨Nat.le_of_ble_eq_true rfl, Nat.le_of_ble_eq_true rfl⟩ hK hP hD hE hS hA 0 wM_at0 rfl rfl hl.1 rfl (Nat.le_of_ble_eq_true rfl) dX9_fill_55 ⟨Nat.le_refl _, Nat.le_refl _⟩) hP hD hS hA (fun u_10 H locs hw_10 hP hD hS => ?_)
          refine lv_aload_n hx hb dX9_fill_58 rfl (lv_at hl 1 rfl) ?_
          refine lv_iload_n hx hb dX9_fill_59 rfl (lv_at hl 2 rfl) ?_
          refine lv_iconst (v := 2) hx hb dX9_fill_60 (by decide) ?_
          refine lv_iload_n hx hb dX9_fill_61 rfl (lv_at hl 3 rfl) ?_
          obtain ⟨h_11, e_11, hF⟩ := ob1_some hF
          refine gx_callv (gx_runV (As := [.int p1, .int 2, .int p2]) (rest := []) ⟨hx, hb, hml, hown, hts⟩ (c_X9_puts l G cI cJ cZ cB cT m0 r h_10 p1 2 p2 h_11 e_11 H.size) (gG_V m_293 m_294 m_295 m_64 m_292) rfl e_X9_puts ⟨Nat.le_of_ble_eq_true rfl, Nat.le_of_ble_eq_true rfl⟩ hK hP hD hE hS hA 0 wM_at0 rfl rfl hl.1 rfl (Nat.le_of_ble_eq_true rfl) dX9_fill_62 ⟨Nat.le_refl _, Nat.le_refl _⟩) hP hD hS hA (fun u_11 H locs hw_11 hP hD hS => ?_)
          refine lv_aload_n hx hb dX9_fill_65 rfl (lv_at hl 1 rfl) ?_
          refine lv_iload_n hx hb dX9_fill_66 rfl (lv_at hl 2 rfl) ?_
          refine lv_iconst (v := 3) hx hb dX9_fill_67 (by decide) ?_
          refine lv_iload_n hx hb dX9_fill_68 rfl (lv_at hl 4 rfl) ?_
          obtain ⟨h_12, e_12, hF⟩ := ob1_some hF
          refine gx_callv (gx_runV (As := [.int p1, .int 3, .int p3]) (rest := []) ⟨hx, hb, hml, hown, hts⟩ (c_X9_puts l G cI cJ cZ cB cT m0 r h_11 p1 3 p3 h_12 e_12 H.size) (gG_V m_293 m_294 m_295 m_64 m_292) rfl e_X9_puts ⟨Nat.le_of_ble_eq_true rfl, Nat.le_of_ble_eq_true rfl⟩ hK hP hD hE hS hA 0 wM_at0 rfl rfl hl.1 rfl (Nat.le_of_ble_eq_true rfl) dX9_fill_69 ⟨Nat.le_refl _, Nat.le_refl _⟩) hP hD hS hA (fun u_12 H locs hw_12 hP hD hS => ?_)
          refine lv_aload_n hx hb dX9_fill_72 rfl (lv_at hl 1 rfl) ?_
          refine va_get (D := G) (ci := 9) (v := .ref (r 0)) (C := RX9) (T := TX9) (N := 53) hx hb hts iX9 hown hK hP 0 wM_at0 rfl 0 (by decide) (hts _ m_92) (fun _ h9 => h9) rfl dX9_fill_73 ?_
          refine lv_bipush (v := 120) hx hb dX9_fill_76 (by decide) ?_
          refine lv_dup2_11 hx hb dX9_fill_78 rfl rfl ?_
          refine va_iald (D := G) hx hb hK hP 1 0 wM_at1 rfl (vp_in_nI (n := 120) (by decide) (by decide)) dX9_fill_79 ?_
          refine gw_topi (y := ((eA h_12 0 0) 120)) rfl ?_
          refine lv_iload hx hb dX9_fill_80 (lv_at hl 0 rfl) ?_
          refine lv_isub hx hb dX9_fill_82 ?_
          refine va_iast (D := G) hx hb hK hP hD hS 1 0 wM_at1 rfl (vp_in_nI (n := 120) (by decide) (by decide)) dX9_fill_83 (fun H locs hP hD hS => ?_)
          rw [wM_sA1] at hP hD
          have hP : va_P G vwCl (wM m0 r cI cJ cZ cB cT (sA h_12 0 0 (upd (eA h_12 0 0) 120 (((eA h_12 0 0) 120) - r_9)))) H := hP
          have hD : va_D A (wM m0 r cI cJ cZ cB cT (sA h_12 0 0 (upd (eA h_12 0 0) 120 (((eA h_12 0 0) 120) - r_9)))) := hD
          refine lv_aload_n hx hb dX9_fill_84 rfl (lv_at hl 1 rfl) ?_
          refine va_get (D := G) (ci := 9) (v := .ref (r 0)) (C := RX9) (T := TX9) (N := 53) hx hb hts iX9 hown hK hP 0 wM_at0 rfl 0 (by decide) (hts _ m_92) (fun _ h9 => h9) rfl dX9_fill_85 ?_
          refine lv_bipush (v := 120) hx hb dX9_fill_88 (by decide) ?_
          refine va_iald (D := G) hx hb hK hP 1 0 wM_at1 rfl (vp_in_nI (n := 120) (by decide) (by decide)) dX9_fill_90 ?_
          refine gw_topi (y := ((upd (eA h_12 0 0) 120 (((eA h_12 0 0) 120) - r_9)) 120)) rfl ?_
          obtain ⟨rfl, rfl⟩ := ob_pair hF
          exact gw_iret () hx hb hr hlocks hP hD hS rfl dX9_fill_91
        · have hF := ob_neg c_8 hF
          exact hJ_43 h_7 hF H _ ls hP hD hS (lv_sub hl [] rfl)
def f_X9_send_27 (h : HS) : Option (Int32 × HS) := (some ((-1), h))
def f_X9_send (h : HS) (p1 : Int32) (p2 : Int32) : Option (Int32 × HS) := (ob2 (f_X9_isHome h p1) (fun r_1 h_1 => (if r_1 = 0 then (f_X9_send_27 h_1) else (ob2 (f_X9_ofGoose h_1 p1 8) (fun r_3 h_3 => (if r_3 = 1 then (f_X9_send_27 h_3) else (ob2 (f_X9_isMarket h_3 p2) (fun r_5 h_5 => (if r_5 = 0 then (f_X9_send_27 h_5) else (ob1 (f_X9_keepsStep h_5) (fun h_7 => (ob1 (f_X9_puts h_7 p1 4 1) (fun h_8 => (ob1 (f_X9_puts h_8 p1 5 p2) (fun h_9 => (if 0 ≤ ((10 + (3 * p2))).toInt ∧ ((10 + (3 * p2))).toInt < 1990 then (ob1 (f_X9_puts h_9 p1 6 (((eA h_9 0 0) 121) + ((eA h_9 0 0) (((10 + (3 * p2))).toNatClampNeg)))) (fun h_11 => (ob2 (f_X9_ofGoose h_11 p1 6) (fun r_12 h_12 => (some (r_12, h_12)))))) else none))))))))))))))))
set_option maxHeartbeats 4000000 in
set_option maxRecDepth 100000 in
theorem c_X9_send (l : Launch) (G : va_G) (cI cJ cZ cB cT : ClassId) (m0 : Nat) (r : Nat → Nat) (h : HS) (p1 : Int32) (p2 : Int32) (rr : Int32) (hh : HS) (hF : f_X9_send h p1 p2 = some (rr, hh)) : gMi l yX9_send (gws yX9_send cX9_send 3 (some .int)) 4 G (gT cI cJ cZ cB cT) [.ref m0, .int p1, .int p2] (wM m0 r cI cJ cZ cB cT h) (fun x (_ : Unit) => x = rr) (fun (_ : Unit) => (wM m0 r cI cJ cZ cB cT hh)) := by
  intro sz
  refine gM_start (y := yX9_send) (av := [.ref m0, .int p1, .int p2]) (ws := (wM m0 r cI cJ cZ cB cT h)) (Qf := fun A => va_Qi (fun x (_ : Unit) => x = rr) (gB G (fun (_ : Unit) => (wM m0 r cI cJ cZ cB cT hh)) A) A) (cc := cX9_send) (maxL := 3) (ret := (some .int)) (by decide) (Nat.le_of_ble_eq_true rfl) ?_
  intro p e s m args below meth c A ls H hx hb hr hts hown hin hlocks hml hP hK hD hA hS hl hE
  have hl : lv_has ls 3 [(0, .ref m0), (1, .int p1), (2, .int p2)] := hl
  have hJ_27 : ∀ (h : HS), f_X9_send_27 h = some (rr, hh) → ∀ (H : Heap) (locs : List Loc) (ls : Array Slot), va_P G vwCl (wM m0 r cI cJ cZ cB cT h) H → va_D A (wM m0 r cI cJ cZ cB cT h) → va_S A s.heap H locs → lv_has ls 3 [] → W p l e (gRm 4) s m args below meth c H locs 0 0 (MQ below (va_Qi (fun x (_ : Unit) => x = rr) (gB G (fun (_ : Unit) => (wM m0 r cI cJ cZ cB cT hh)) A) A) args s 0 0 A) (F0 m 27 ls []) := by
    intro h hF H locs ls hP hD hS hl
    unfold f_X9_send_27 at hF
    refine lv_iconst (v := (-1)) hx hb dX9_send_27 (by decide) ?_
    obtain ⟨rfl, rfl⟩ := ob_pair hF
    exact gw_iret () hx hb hr hlocks hP hD hS rfl dX9_send_28
  unfold f_X9_send at hF
  refine lv_aload_n hx hb dX9_send_0 rfl (lv_at hl 0 rfl) ?_
  refine lv_iload_n hx hb dX9_send_1 rfl (lv_at hl 1 rfl) ?_
  obtain ⟨r_1, h_1, e_1, hF⟩ := ob2_some hF
  refine gx_calli (gx_runV (As := [.int p1]) (rest := []) ⟨hx, hb, hml, hown, hts⟩ (c_X9_isHome l G cI cJ cZ cB cT m0 r h p1 r_1 h_1 e_1 H.size) (gG_V m_285 m_286 m_287 m_64 m_284) rfl e_X9_isHome ⟨Nat.le_of_ble_eq_true rfl, Nat.le_of_ble_eq_true rfl⟩ hK hP hD hE hS hA 0 wM_at0 rfl rfl hl.1 rfl (Nat.le_of_ble_eq_true rfl) dX9_send_2 ⟨Nat.le_refl _, Nat.le_refl _⟩) hP hD hS hA (fun x_1 u_1 H locs hw_1 hP hD hS => ?_)
  subst x_1
  refine lv_if_eq (tgt := 27) hx hb dX9_send_5 (by decide) (fun c_2 => ?_) (fun c_2 => ?_)
  · have hF := ob_pos c_2 hF
    exact hJ_27 h_1 hF H _ ls hP hD hS (lv_sub hl [] rfl)
  · have hF := ob_neg c_2 hF
    refine lv_aload_n hx hb dX9_send_8 rfl (lv_at hl 0 rfl) ?_
    refine lv_iload_n hx hb dX9_send_9 rfl (lv_at hl 1 rfl) ?_
    refine lv_bipush (v := 8) hx hb dX9_send_10 (by decide) ?_
    obtain ⟨r_3, h_3, e_3, hF⟩ := ob2_some hF
    refine gx_calli (gx_runV (As := [.int p1, .int 8]) (rest := []) ⟨hx, hb, hml, hown, hts⟩ (c_X9_ofGoose l G cI cJ cZ cB cT m0 r h_1 p1 8 r_3 h_3 e_3 H.size) (gG_V m_103 m_104 m_105 m_64 m_102) rfl e_X9_ofGoose ⟨Nat.le_of_ble_eq_true rfl, Nat.le_of_ble_eq_true rfl⟩ hK hP hD hE hS hA 0 wM_at0 rfl rfl hl.1 rfl (Nat.le_of_ble_eq_true rfl) dX9_send_12 ⟨Nat.le_refl _, Nat.le_refl _⟩) hP hD hS hA (fun x_3 u_3 H locs hw_3 hP hD hS => ?_)
    subst x_3
    refine lv_iconst (v := 1) hx hb dX9_send_15 (by decide) ?_
    refine lv_icmp_eq (tgt := 27) hx hb dX9_send_16 (by decide) (fun c_4 => ?_) (fun c_4 => ?_)
    · have hF := ob_pos c_4 hF
      exact hJ_27 h_3 hF H _ ls hP hD hS (lv_sub hl [] rfl)
    · have hF := ob_neg c_4 hF
      refine lv_aload_n hx hb dX9_send_19 rfl (lv_at hl 0 rfl) ?_
      refine lv_iload_n hx hb dX9_send_20 rfl (lv_at hl 2 rfl) ?_
      obtain ⟨r_5, h_5, e_5, hF⟩ := ob2_some hF
      refine gx_calli (gx_runV (As := [.int p2]) (rest := []) ⟨hx, hb, hml, hown, hts⟩ (c_X9_isMarket l G cI cJ cZ cB cT m0 r h_3 p2 r_5 h_5 e_5 H.size) (gG_V m_117 m_118 m_119 m_64 m_116) rfl e_X9_isMarket ⟨Nat.le_of_ble_eq_true rfl, Nat.le_of_ble_eq_true rfl⟩ hK hP hD hE hS hA 0 wM_at0 rfl rfl hl.1 rfl (Nat.le_of_ble_eq_true rfl) dX9_send_21 ⟨Nat.le_refl _, Nat.le_refl _⟩) hP hD hS hA (fun x_5 u_5 H locs hw_5 hP hD hS => ?_)
      subst x_5
      refine lv_if_ne (tgt := 29) hx hb dX9_send_24 (by decide) (fun c_6 => ?_) (fun c_6 => ?_)
      · have hF := ob_neg c_6 hF
        refine lv_aload_n hx hb dX9_send_29 rfl (lv_at hl 0 rfl) ?_
        obtain ⟨h_7, e_7, hF⟩ := ob1_some hF
        refine gx_callv (gx_runV (As := []) (rest := []) ⟨hx, hb, hml, hown, hts⟩ (c_X9_keepsStep l G cI cJ cZ cB cT m0 r h_5  h_7 e_7 H.size) (gG_V m_289 m_290 m_291 m_64 m_288) rfl e_X9_keepsStep ⟨Nat.le_of_ble_eq_true rfl, Nat.le_of_ble_eq_true rfl⟩ hK hP hD hE hS hA 0 wM_at0 rfl rfl hl.1 rfl (Nat.le_of_ble_eq_true rfl) dX9_send_30 ⟨Nat.le_refl _, Nat.le_refl _⟩) hP hD hS hA (fun u_7 H locs hw_7 hP hD hS => ?_)
        refine lv_aload_n hx hb dX9_send_33 rfl (lv_at hl 0 rfl) ?_
        refine lv_iload_n hx hb dX9_send_34 rfl (lv_at hl 1 rfl) ?_
        refine lv_iconst (v := 4) hx hb dX9_send_35 (by decide) ?_
        refine lv_iconst (v := 1) hx hb dX9_send_36 (by decide) ?_
        obtain ⟨h_8, e_8, hF⟩ := ob1_some hF
        refine gx_callv (gx_runV (As := [.int p1, .int 4, .int 1]) (rest := []) ⟨hx, hb, hml, hown, hts⟩ (c_X9_puts l G cI cJ cZ cB cT m0 r h_7 p1 4 1 h_8 e_8 H.size) (gG_V m_293 m_294 m_295 m_64 m_292) rfl e_X9_puts ⟨Nat.le_of_ble_eq_true rfl, Nat.le_of_ble_eq_true rfl⟩ hK hP hD hE hS hA 0 wM_at0 rfl rfl hl.1 rfl (Nat.le_of_ble_eq_true rfl) dX9_send_37 ⟨Nat.le_refl _, Nat.le_refl _⟩) hP hD hS hA (fun u_8 H locs hw_8 hP hD hS => ?_)
        refine lv_aload_n hx hb dX9_send_40 rfl (lv_at hl 0 rfl) ?_
        refine lv_iload_n hx hb dX9_send_41 rfl (lv_at hl 1 rfl) ?_
        refine lv_iconst (v := 5) hx hb dX9_send_42 (by decide) ?_
        refine lv_iload_n hx hb dX9_send_43 rfl (lv_at hl 2 rfl) ?_
        obtain ⟨h_9, e_9, hF⟩ := ob1_some hF
        refine gx_callv (gx_runV (As := [.int p1, .int 5, .int p2]) (rest := []) ⟨hx, hb, hml, hown, hts⟩ (c_X9_puts l G cI cJ cZ cB cT m0 r h_8 p1 5 p2 h_9 e_9 H.size) (gG_V m_293 m_294 m_295 m_64 m_292) rfl e_X9_puts ⟨Nat.le_of_ble_eq_true rfl, Nat.le_of_ble_eq_true rfl⟩ hK hP hD hE hS hA 0 wM_at0 rfl rfl hl.1 rfl (Nat.le_of_ble_eq_true rfl) dX9_send_44 ⟨Nat.le_refl _, Nat.le_refl _⟩) hP hD hS hA (fun u_9 H locs hw_9 hP hD hS => ?_)
        refine lv_aload_n hx hb dX9_send_47 rfl (lv_at hl 0 rfl) ?_
        refine lv_iload_n hx hb dX9_send_48 rfl (lv_at hl 1 rfl) ?_
        refine lv_bipush (v := 6) hx hb dX9_send_49 (by decide) ?_
        refine lv_aload_n hx hb dX9_send_51 rfl (lv_at hl 0 rfl) ?_
        refine va_get (D := G) (ci := 9) (v := .ref (r 0)) (C := RX9) (T := TX9) (N := 53) hx hb hts iX9 hown hK hP 0 wM_at0 rfl 0 (by decide) (hts _ m_92) (fun _ h9 => h9) rfl dX9_send_52 ?_
        refine lv_bipush (v := 121) hx hb dX9_send_55 (by decide) ?_
        refine va_iald (D := G) hx hb hK hP 1 0 wM_at1 rfl (vp_in_nI (n := 121) (by decide) (by decide)) dX9_send_57 ?_
        refine gw_topi (y := ((eA h_9 0 0) 121)) rfl ?_
        refine lv_aload_n hx hb dX9_send_58 rfl (lv_at hl 0 rfl) ?_
        refine va_get (D := G) (ci := 9) (v := .ref (r 0)) (C := RX9) (T := TX9) (N := 53) hx hb hts iX9 hown hK hP 0 wM_at0 rfl 0 (by decide) (hts _ m_92) (fun _ h9 => h9) rfl dX9_send_59 ?_
        refine lv_bipush (v := 10) hx hb dX9_send_62 (by decide) ?_
        refine lv_iconst (v := 3) hx hb dX9_send_64 (by decide) ?_
        refine lv_iload_n hx hb dX9_send_65 rfl (lv_at hl 2 rfl) ?_
        refine lv_imul hx hb dX9_send_66 ?_
        refine lv_iadd hx hb dX9_send_67 ?_
        obtain ⟨hi_10, hF⟩ := ob_if hF
        refine va_iald (D := G) hx hb hK hP 1 0 wM_at1 rfl (vp_in_iff.mpr hi_10) dX9_send_68 ?_
        refine gw_topi (y := ((eA h_9 0 0) (((10 + (3 * p2))).toNatClampNeg))) rfl ?_
        refine lv_iadd hx hb dX9_send_69 ?_
        obtain ⟨h_11, e_11, hF⟩ := ob1_some hF
        refine gx_callv (gx_runV (As := [.int p1, .int 6, .int (((eA h_9 0 0) 121) + ((eA h_9 0 0) (((10 + (3 * p2))).toNatClampNeg)))]) (rest := []) ⟨hx, hb, hml, hown, hts⟩ (c_X9_puts l G cI cJ cZ cB cT m0 r h_9 p1 6 (((eA h_9 0 0) 121) + ((eA h_9 0 0) (((10 + (3 * p2))).toNatClampNeg))) h_11 e_11 H.size) (gG_V m_293 m_294 m_295 m_64 m_292) rfl e_X9_puts ⟨Nat.le_of_ble_eq_true rfl, Nat.le_of_ble_eq_true rfl⟩ hK hP hD hE hS hA 0 wM_at0 rfl rfl hl.1 rfl (Nat.le_of_ble_eq_true rfl) dX9_send_70 ⟨Nat.le_refl _, Nat.le_refl _⟩) hP hD hS hA (fun u_11 H locs hw_11 hP hD hS => ?_)
        refine lv_aload_n hx hb dX9_send_73 rfl (lv_at hl 0 rfl) ?_
        refine lv_iload_n hx hb dX9_send_74 rfl (lv_at hl 1 rfl) ?_
        refine lv_bipush (v := 6) hx hb dX9_send_75 (by decide) ?_
        obtain ⟨r_12, h_12, e_12, hF⟩ := ob2_some hF
        refine gx_calli (gx_runV (As := [.int p1, .int 6]) (rest := []) ⟨hx, hb, hml, hown, hts⟩ (c_X9_ofGoose l G cI cJ cZ cB cT m0 r h_11 p1 6 r_12 h_12 e_12 H.size) (gG_V m_103 m_104 m_105 m_64 m_102) rfl e_X9_ofGoose ⟨Nat.le_of_ble_eq_true rfl, Nat.le_of_ble_eq_true rfl⟩ hK hP hD hE hS hA 0 wM_at0 rfl rfl hl.1 rfl (Nat.le_of_ble_eq_true rfl) dX9_send_77 ⟨Nat.le_refl _, Nat.le_refl _⟩) hP hD hS hA (fun x_12 u_12 H locs hw_12 hP hD hS => ?_)
        subst x_12
        obtain ⟨rfl, rfl⟩ := ob_pair hF
        exact gw_iret () hx hb hr hlocks hP hD hS rfl dX9_send_80
      · have hF := ob_pos c_6 hF
        exact hJ_27 h_5 hF H _ ls hP hD hS (lv_sub hl [] rfl)
def f_X9_fatten_29 (h : HS) : Option (Int32 × HS) := (some ((-1), h))
def f_X9_fatten (h : HS) (p1 : Int32) : Option (Int32 × HS) := (ob2 (f_X9_isHome h p1) (fun r_1 h_1 => (if r_1 = 0 then (f_X9_fatten_29 h_1) else (ob2 (f_X9_ofGoose h_1 p1 0) (fun r_3 h_3 => (if r_3 = 20 then (f_X9_fatten_29 h_3) else (if ((eA h_3 0 0) 120) = 0 then (f_X9_fatten_29 h_3) else (ob1 (f_X9_keepsStep h_3) (fun h_6 => (ob2 (f_X9_ofGoose h_6 p1 0) (fun r_7 h_7 => (ob1 (f_X9_puts h_7 p1 0 (r_7 + 1)) (fun h_8 => (ob2 (f_X9_ofGoose (sA h_8 0 0 (upd (eA h_8 0 0) 120 (((eA h_8 0 0) 120) - 1))) p1 0) (fun r_9 h_9 => (some (r_9, h_9)))))))))))))))))
set_option maxHeartbeats 4000000 in
set_option maxRecDepth 100000 in
theorem c_X9_fatten (l : Launch) (G : va_G) (cI cJ cZ cB cT : ClassId) (m0 : Nat) (r : Nat → Nat) (h : HS) (p1 : Int32) (rr : Int32) (hh : HS) (hF : f_X9_fatten h p1 = some (rr, hh)) : gMi l yX9_fatten (gws yX9_fatten cX9_fatten 2 (some .int)) 4 G (gT cI cJ cZ cB cT) [.ref m0, .int p1] (wM m0 r cI cJ cZ cB cT h) (fun x (_ : Unit) => x = rr) (fun (_ : Unit) => (wM m0 r cI cJ cZ cB cT hh)) := by
  intro sz
  refine gM_start (y := yX9_fatten) (av := [.ref m0, .int p1]) (ws := (wM m0 r cI cJ cZ cB cT h)) (Qf := fun A => va_Qi (fun x (_ : Unit) => x = rr) (gB G (fun (_ : Unit) => (wM m0 r cI cJ cZ cB cT hh)) A) A) (cc := cX9_fatten) (maxL := 2) (ret := (some .int)) (by decide) (Nat.le_of_ble_eq_true rfl) ?_
  intro p e s m args below meth c A ls H hx hb hr hts hown hin hlocks hml hP hK hD hA hS hl hE
  have hl : lv_has ls 2 [(0, .ref m0), (1, .int p1)] := hl
  have hJ_29 : ∀ (h : HS), f_X9_fatten_29 h = some (rr, hh) → ∀ (H : Heap) (locs : List Loc) (ls : Array Slot), va_P G vwCl (wM m0 r cI cJ cZ cB cT h) H → va_D A (wM m0 r cI cJ cZ cB cT h) → va_S A s.heap H locs → lv_has ls 2 [] → W p l e (gRm 4) s m args below meth c H locs 0 0 (MQ below (va_Qi (fun x (_ : Unit) => x = rr) (gB G (fun (_ : Unit) => (wM m0 r cI cJ cZ cB cT hh)) A) A) args s 0 0 A) (F0 m 29 ls []) := by
    intro h hF H locs ls hP hD hS hl
    unfold f_X9_fatten_29 at hF
    refine lv_iconst (v := (-1)) hx hb dX9_fatten_29 (by decide) ?_
    obtain ⟨rfl, rfl⟩ := ob_pair hF
    exact gw_iret () hx hb hr hlocks hP hD hS rfl dX9_fatten_30
  unfold f_X9_fatten at hF
  refine lv_aload_n hx hb dX9_fatten_0 rfl (lv_at hl 0 rfl) ?_
  refine lv_iload_n hx hb dX9_fatten_1 rfl (lv_at hl 1 rfl) ?_
  obtain ⟨r_1, h_1, e_1, hF⟩ := ob2_some hF
  refine gx_calli (gx_runV (As := [.int p1]) (rest := []) ⟨hx, hb, hml, hown, hts⟩ (c_X9_isHome l G cI cJ cZ cB cT m0 r h p1 r_1 h_1 e_1 H.size) (gG_V m_285 m_286 m_287 m_64 m_284) rfl e_X9_isHome ⟨Nat.le_of_ble_eq_true rfl, Nat.le_of_ble_eq_true rfl⟩ hK hP hD hE hS hA 0 wM_at0 rfl rfl hl.1 rfl (Nat.le_of_ble_eq_true rfl) dX9_fatten_2 ⟨Nat.le_refl _, Nat.le_refl _⟩) hP hD hS hA (fun x_1 u_1 H locs hw_1 hP hD hS => ?_)
  subst x_1
  refine lv_if_eq (tgt := 29) hx hb dX9_fatten_5 (by decide) (fun c_2 => ?_) (fun c_2 => ?_)
  · have hF := ob_pos c_2 hF
    exact hJ_29 h_1 hF H _ ls hP hD hS (lv_sub hl [] rfl)
  · have hF := ob_neg c_2 hF
    refine lv_aload_n hx hb dX9_fatten_8 rfl (lv_at hl 0 rfl) ?_
    refine lv_iload_n hx hb dX9_fatten_9 rfl (lv_at hl 1 rfl) ?_
    refine lv_iconst (v := 0) hx hb dX9_fatten_10 (by decide) ?_
    obtain ⟨r_3, h_3, e_3, hF⟩ := ob2_some hF
    refine gx_calli (gx_runV (As := [.int p1, .int 0]) (rest := []) ⟨hx, hb, hml, hown, hts⟩ (c_X9_ofGoose l G cI cJ cZ cB cT m0 r h_1 p1 0 r_3 h_3 e_3 H.size) (gG_V m_103 m_104 m_105 m_64 m_102) rfl e_X9_ofGoose ⟨Nat.le_of_ble_eq_true rfl, Nat.le_of_ble_eq_true rfl⟩ hK hP hD hE hS hA 0 wM_at0 rfl rfl hl.1 rfl (Nat.le_of_ble_eq_true rfl) dX9_fatten_11 ⟨Nat.le_refl _, Nat.le_refl _⟩) hP hD hS hA (fun x_3 u_3 H locs hw_3 hP hD hS => ?_)
    subst x_3
    refine lv_bipush (v := 20) hx hb dX9_fatten_14 (by decide) ?_
    refine lv_icmp_eq (tgt := 29) hx hb dX9_fatten_16 (by decide) (fun c_4 => ?_) (fun c_4 => ?_)
    · have hF := ob_pos c_4 hF
      exact hJ_29 h_3 hF H _ ls hP hD hS (lv_sub hl [] rfl)
    · have hF := ob_neg c_4 hF
      refine lv_aload_n hx hb dX9_fatten_19 rfl (lv_at hl 0 rfl) ?_
      refine va_get (D := G) (ci := 9) (v := .ref (r 0)) (C := RX9) (T := TX9) (N := 53) hx hb hts iX9 hown hK hP 0 wM_at0 rfl 0 (by decide) (hts _ m_92) (fun _ h9 => h9) rfl dX9_fatten_20 ?_
      refine lv_bipush (v := 120) hx hb dX9_fatten_23 (by decide) ?_
      refine va_iald (D := G) hx hb hK hP 1 0 wM_at1 rfl (vp_in_nI (n := 120) (by decide) (by decide)) dX9_fatten_25 ?_
      refine gw_topi (y := ((eA h_3 0 0) 120)) rfl ?_
      refine lv_if_ne (tgt := 31) hx hb dX9_fatten_26 (by decide) (fun c_5 => ?_) (fun c_5 => ?_)
      · have hF := ob_neg c_5 hF
        refine lv_aload_n hx hb dX9_fatten_31 rfl (lv_at hl 0 rfl) ?_
        obtain ⟨h_6, e_6, hF⟩ := ob1_some hF
        refine gx_callv (gx_runV (As := []) (rest := []) ⟨hx, hb, hml, hown, hts⟩ (c_X9_keepsStep l G cI cJ cZ cB cT m0 r h_3  h_6 e_6 H.size) (gG_V m_289 m_290 m_291 m_64 m_288) rfl e_X9_keepsStep ⟨Nat.le_of_ble_eq_true rfl, Nat.le_of_ble_eq_true rfl⟩ hK hP hD hE hS hA 0 wM_at0 rfl rfl hl.1 rfl (Nat.le_of_ble_eq_true rfl) dX9_fatten_32 ⟨Nat.le_refl _, Nat.le_refl _⟩) hP hD hS hA (fun u_6 H locs hw_6 hP hD hS => ?_)
        refine lv_aload_n hx hb dX9_fatten_35 rfl (lv_at hl 0 rfl) ?_
        refine lv_iload_n hx hb dX9_fatten_36 rfl (lv_at hl 1 rfl) ?_
        refine lv_iconst (v := 0) hx hb dX9_fatten_37 (by decide) ?_
        refine lv_aload_n hx hb dX9_fatten_38 rfl (lv_at hl 0 rfl) ?_
        refine lv_iload_n hx hb dX9_fatten_39 rfl (lv_at hl 1 rfl) ?_
        refine lv_iconst (v := 0) hx hb dX9_fatten_40 (by decide) ?_
        obtain ⟨r_7, h_7, e_7, hF⟩ := ob2_some hF
        refine gx_calli (gx_runV (As := [.int p1, .int 0]) (rest := [.int 0, .int p1, .ref m0]) ⟨hx, hb, hml, hown, hts⟩ (c_X9_ofGoose l G cI cJ cZ cB cT m0 r h_6 p1 0 r_7 h_7 e_7 H.size) (gG_V m_103 m_104 m_105 m_64 m_102) rfl e_X9_ofGoose ⟨Nat.le_of_ble_eq_true rfl, Nat.le_of_ble_eq_true rfl⟩ hK hP hD hE hS hA 0 wM_at0 rfl rfl hl.1 rfl (Nat.le_of_ble_eq_true rfl) dX9_fatten_41 ⟨Nat.le_refl _, Nat.le_refl _⟩) hP hD hS hA (fun x_7 u_7 H locs hw_7 hP hD hS => ?_)
        subst x_7
        refine lv_iconst (v := 1) hx hb dX9_fatten_44 (by decide) ?_
        refine lv_iadd hx hb dX9_fatten_45 ?_
        obtain ⟨h_8, e_8, hF⟩ := ob1_some hF
        refine gx_callv (gx_runV (As := [.int p1, .int 0, .int (r_7 + 1)]) (rest := []) ⟨hx, hb, hml, hown, hts⟩ (c_X9_puts l G cI cJ cZ cB cT m0 r h_7 p1 0 (r_7 + 1) h_8 e_8 H.size) (gG_V m_293 m_294 m_295 m_64 m_292) rfl e_X9_puts ⟨Nat.le_of_ble_eq_true rfl, Nat.le_of_ble_eq_true rfl⟩ hK hP hD hE hS hA 0 wM_at0 rfl rfl hl.1 rfl (Nat.le_of_ble_eq_true rfl) dX9_fatten_46 ⟨Nat.le_refl _, Nat.le_refl _⟩) hP hD hS hA (fun u_8 H locs hw_8 hP hD hS => ?_)
        refine lv_aload_n hx hb dX9_fatten_49 rfl (lv_at hl 0 rfl) ?_
        refine va_get (D := G) (ci := 9) (v := .ref (r 0)) (C := RX9) (T := TX9) (N := 53) hx hb hts iX9 hown hK hP 0 wM_at0 rfl 0 (by decide) (hts _ m_92) (fun _ h9 => h9) rfl dX9_fatten_50 ?_
        refine lv_bipush (v := 120) hx hb dX9_fatten_53 (by decide) ?_
        refine lv_dup2_11 hx hb dX9_fatten_55 rfl rfl ?_
        refine va_iald (D := G) hx hb hK hP 1 0 wM_at1 rfl (vp_in_nI (n := 120) (by decide) (by decide)) dX9_fatten_56 ?_
        refine gw_topi (y := ((eA h_8 0 0) 120)) rfl ?_
        refine lv_iconst (v := 1) hx hb dX9_fatten_57 (by decide) ?_
        refine lv_isub hx hb dX9_fatten_58 ?_
        refine va_iast (D := G) hx hb hK hP hD hS 1 0 wM_at1 rfl (vp_in_nI (n := 120) (by decide) (by decide)) dX9_fatten_59 (fun H locs hP hD hS => ?_)
        rw [wM_sA1] at hP hD
        have hP : va_P G vwCl (wM m0 r cI cJ cZ cB cT (sA h_8 0 0 (upd (eA h_8 0 0) 120 (((eA h_8 0 0) 120) - 1)))) H := hP
        have hD : va_D A (wM m0 r cI cJ cZ cB cT (sA h_8 0 0 (upd (eA h_8 0 0) 120 (((eA h_8 0 0) 120) - 1)))) := hD
        refine lv_aload_n hx hb dX9_fatten_60 rfl (lv_at hl 0 rfl) ?_
        refine lv_iload_n hx hb dX9_fatten_61 rfl (lv_at hl 1 rfl) ?_
        refine lv_iconst (v := 0) hx hb dX9_fatten_62 (by decide) ?_
        obtain ⟨r_9, h_9, e_9, hF⟩ := ob2_some hF
        refine gx_calli (gx_runV (As := [.int p1, .int 0]) (rest := []) ⟨hx, hb, hml, hown, hts⟩ (c_X9_ofGoose l G cI cJ cZ cB cT m0 r (sA h_8 0 0 (upd (eA h_8 0 0) 120 (((eA h_8 0 0) 120) - 1))) p1 0 r_9 h_9 e_9 H.size) (gG_V m_103 m_104 m_105 m_64 m_102) rfl e_X9_ofGoose ⟨Nat.le_of_ble_eq_true rfl, Nat.le_of_ble_eq_true rfl⟩ hK hP hD hE hS hA 0 wM_at0 rfl rfl hl.1 rfl (Nat.le_of_ble_eq_true rfl) dX9_fatten_63 ⟨Nat.le_refl _, Nat.le_refl _⟩) hP hD hS hA (fun x_9 u_9 H locs hw_9 hP hD hS => ?_)
        subst x_9
        obtain ⟨rfl, rfl⟩ := ob_pair hF
        exact gw_iret () hx hb hr hlocks hP hD hS rfl dX9_fatten_66
      · have hF := ob_pos c_5 hF
        exact hJ_29 h_3 hF H _ ls hP hD hS (lv_sub hl [] rfl)
def f_X9_pluck_17 (h : HS) : Option (Int32 × HS) := (some ((-1), h))
def f_X9_pluck (h : HS) (p1 : Int32) : Option (Int32 × HS) := (ob2 (f_X9_isHome h p1) (fun r_1 h_1 => (if r_1 = 0 then (f_X9_pluck_17 h_1) else (ob2 (f_X9_ofGoose h_1 p1 1) (fun r_3 h_3 => (if r_3 = 0 then (f_X9_pluck_17 h_3) else (ob1 (f_X9_keepsStep h_3) (fun h_5 => (ob2 (f_X9_ofGoose h_5 p1 1) (fun r_6 h_6 => (ob1 (f_X9_puts h_6 p1 1 (r_6 - 1)) (fun h_7 => (ob2 (f_X9_ofGoose h_7 p1 1) (fun r_8 h_8 => (some (r_8, h_8))))))))))))))))
set_option maxHeartbeats 4000000 in
set_option maxRecDepth 100000 in
theorem c_X9_pluck (l : Launch) (G : va_G) (cI cJ cZ cB cT : ClassId) (m0 : Nat) (r : Nat → Nat) (h : HS) (p1 : Int32) (rr : Int32) (hh : HS) (hF : f_X9_pluck h p1 = some (rr, hh)) : gMi l yX9_pluck (gws yX9_pluck cX9_pluck 2 (some .int)) 4 G (gT cI cJ cZ cB cT) [.ref m0, .int p1] (wM m0 r cI cJ cZ cB cT h) (fun x (_ : Unit) => x = rr) (fun (_ : Unit) => (wM m0 r cI cJ cZ cB cT hh)) := by
  intro sz
  refine gM_start (y := yX9_pluck) (av := [.ref m0, .int p1]) (ws := (wM m0 r cI cJ cZ cB cT h)) (Qf := fun A => va_Qi (fun x (_ : Unit) => x = rr) (gB G (fun (_ : Unit) => (wM m0 r cI cJ cZ cB cT hh)) A) A) (cc := cX9_pluck) (maxL := 2) (ret := (some .int)) (by decide) (Nat.le_of_ble_eq_true rfl) ?_
  intro p e s m args below meth c A ls H hx hb hr hts hown hin hlocks hml hP hK hD hA hS hl hE
  have hl : lv_has ls 2 [(0, .ref m0), (1, .int p1)] := hl
  have hJ_17 : ∀ (h : HS), f_X9_pluck_17 h = some (rr, hh) → ∀ (H : Heap) (locs : List Loc) (ls : Array Slot), va_P G vwCl (wM m0 r cI cJ cZ cB cT h) H → va_D A (wM m0 r cI cJ cZ cB cT h) → va_S A s.heap H locs → lv_has ls 2 [] → W p l e (gRm 4) s m args below meth c H locs 0 0 (MQ below (va_Qi (fun x (_ : Unit) => x = rr) (gB G (fun (_ : Unit) => (wM m0 r cI cJ cZ cB cT hh)) A) A) args s 0 0 A) (F0 m 17 ls []) := by
    intro h hF H locs ls hP hD hS hl
    unfold f_X9_pluck_17 at hF
    refine lv_iconst (v := (-1)) hx hb dX9_pluck_17 (by decide) ?_
    obtain ⟨rfl, rfl⟩ := ob_pair hF
    exact gw_iret () hx hb hr hlocks hP hD hS rfl dX9_pluck_18
  unfold f_X9_pluck at hF
  refine lv_aload_n hx hb dX9_pluck_0 rfl (lv_at hl 0 rfl) ?_
  refine lv_iload_n hx hb dX9_pluck_1 rfl (lv_at hl 1 rfl) ?_
  obtain ⟨r_1, h_1, e_1, hF⟩ := ob2_some hF
  refine gx_calli (gx_runV (As := [.int p1]) (rest := []) ⟨hx, hb, hml, hown, hts⟩ (c_X9_isHome l G cI cJ cZ cB cT m0 r h p1 r_1 h_1 e_1 H.size) (gG_V m_285 m_286 m_287 m_64 m_284) rfl e_X9_isHome ⟨Nat.le_of_ble_eq_true rfl, Nat.le_of_ble_eq_true rfl⟩ hK hP hD hE hS hA 0 wM_at0 rfl rfl hl.1 rfl (Nat.le_of_ble_eq_true rfl) dX9_pluck_2 ⟨Nat.le_refl _, Nat.le_refl _⟩) hP hD hS hA (fun x_1 u_1 H locs hw_1 hP hD hS => ?_)
  subst x_1
  refine lv_if_eq (tgt := 17) hx hb dX9_pluck_5 (by decide) (fun c_2 => ?_) (fun c_2 => ?_)
  · have hF := ob_pos c_2 hF
    exact hJ_17 h_1 hF H _ ls hP hD hS (lv_sub hl [] rfl)
  · have hF := ob_neg c_2 hF
    refine lv_aload_n hx hb dX9_pluck_8 rfl (lv_at hl 0 rfl) ?_
    refine lv_iload_n hx hb dX9_pluck_9 rfl (lv_at hl 1 rfl) ?_
    refine lv_iconst (v := 1) hx hb dX9_pluck_10 (by decide) ?_
    obtain ⟨r_3, h_3, e_3, hF⟩ := ob2_some hF
    refine gx_calli (gx_runV (As := [.int p1, .int 1]) (rest := []) ⟨hx, hb, hml, hown, hts⟩ (c_X9_ofGoose l G cI cJ cZ cB cT m0 r h_1 p1 1 r_3 h_3 e_3 H.size) (gG_V m_103 m_104 m_105 m_64 m_102) rfl e_X9_ofGoose ⟨Nat.le_of_ble_eq_true rfl, Nat.le_of_ble_eq_true rfl⟩ hK hP hD hE hS hA 0 wM_at0 rfl rfl hl.1 rfl (Nat.le_of_ble_eq_true rfl) dX9_pluck_11 ⟨Nat.le_refl _, Nat.le_refl _⟩) hP hD hS hA (fun x_3 u_3 H locs hw_3 hP hD hS => ?_)
    subst x_3
    refine lv_if_ne (tgt := 19) hx hb dX9_pluck_14 (by decide) (fun c_4 => ?_) (fun c_4 => ?_)
    · have hF := ob_neg c_4 hF
      refine lv_aload_n hx hb dX9_pluck_19 rfl (lv_at hl 0 rfl) ?_
      obtain ⟨h_5, e_5, hF⟩ := ob1_some hF
      refine gx_callv (gx_runV (As := []) (rest := []) ⟨hx, hb, hml, hown, hts⟩ (c_X9_keepsStep l G cI cJ cZ cB cT m0 r h_3  h_5 e_5 H.size) (gG_V m_289 m_290 m_291 m_64 m_288) rfl e_X9_keepsStep ⟨Nat.le_of_ble_eq_true rfl, Nat.le_of_ble_eq_true rfl⟩ hK hP hD hE hS hA 0 wM_at0 rfl rfl hl.1 rfl (Nat.le_of_ble_eq_true rfl) dX9_pluck_20 ⟨Nat.le_refl _, Nat.le_refl _⟩) hP hD hS hA (fun u_5 H locs hw_5 hP hD hS => ?_)
      refine lv_aload_n hx hb dX9_pluck_23 rfl (lv_at hl 0 rfl) ?_
      refine lv_iload_n hx hb dX9_pluck_24 rfl (lv_at hl 1 rfl) ?_
      refine lv_iconst (v := 1) hx hb dX9_pluck_25 (by decide) ?_
      refine lv_aload_n hx hb dX9_pluck_26 rfl (lv_at hl 0 rfl) ?_
      refine lv_iload_n hx hb dX9_pluck_27 rfl (lv_at hl 1 rfl) ?_
      refine lv_iconst (v := 1) hx hb dX9_pluck_28 (by decide) ?_
      obtain ⟨r_6, h_6, e_6, hF⟩ := ob2_some hF
      refine gx_calli (gx_runV (As := [.int p1, .int 1]) (rest := [.int 1, .int p1, .ref m0]) ⟨hx, hb, hml, hown, hts⟩ (c_X9_ofGoose l G cI cJ cZ cB cT m0 r h_5 p1 1 r_6 h_6 e_6 H.size) (gG_V m_103 m_104 m_105 m_64 m_102) rfl e_X9_ofGoose ⟨Nat.le_of_ble_eq_true rfl, Nat.le_of_ble_eq_true rfl⟩ hK hP hD hE hS hA 0 wM_at0 rfl rfl hl.1 rfl (Nat.le_of_ble_eq_true rfl) dX9_pluck_29 ⟨Nat.le_refl _, Nat.le_refl _⟩) hP hD hS hA (fun x_6 u_6 H locs hw_6 hP hD hS => ?_)
      subst x_6
      refine lv_iconst (v := 1) hx hb dX9_pluck_32 (by decide) ?_
      refine lv_isub hx hb dX9_pluck_33 ?_
      obtain ⟨h_7, e_7, hF⟩ := ob1_some hF
      refine gx_callv (gx_runV (As := [.int p1, .int 1, .int (r_6 - 1)]) (rest := []) ⟨hx, hb, hml, hown, hts⟩ (c_X9_puts l G cI cJ cZ cB cT m0 r h_6 p1 1 (r_6 - 1) h_7 e_7 H.size) (gG_V m_293 m_294 m_295 m_64 m_292) rfl e_X9_puts ⟨Nat.le_of_ble_eq_true rfl, Nat.le_of_ble_eq_true rfl⟩ hK hP hD hE hS hA 0 wM_at0 rfl rfl hl.1 rfl (Nat.le_of_ble_eq_true rfl) dX9_pluck_34 ⟨Nat.le_refl _, Nat.le_refl _⟩) hP hD hS hA (fun u_7 H locs hw_7 hP hD hS => ?_)
      refine lv_aload_n hx hb dX9_pluck_37 rfl (lv_at hl 0 rfl) ?_
      refine lv_iload_n hx hb dX9_pluck_38 rfl (lv_at hl 1 rfl) ?_
      refine lv_iconst (v := 1) hx hb dX9_pluck_39 (by decide) ?_
      obtain ⟨r_8, h_8, e_8, hF⟩ := ob2_some hF
      refine gx_calli (gx_runV (As := [.int p1, .int 1]) (rest := []) ⟨hx, hb, hml, hown, hts⟩ (c_X9_ofGoose l G cI cJ cZ cB cT m0 r h_7 p1 1 r_8 h_8 e_8 H.size) (gG_V m_103 m_104 m_105 m_64 m_102) rfl e_X9_ofGoose ⟨Nat.le_of_ble_eq_true rfl, Nat.le_of_ble_eq_true rfl⟩ hK hP hD hE hS hA 0 wM_at0 rfl rfl hl.1 rfl (Nat.le_of_ble_eq_true rfl) dX9_pluck_40 ⟨Nat.le_refl _, Nat.le_refl _⟩) hP hD hS hA (fun x_8 u_8 H locs hw_8 hP hD hS => ?_)
      subst x_8
      obtain ⟨rfl, rfl⟩ := ob_pair hF
      exact gw_iret () hx hb hr hlocks hP hD hS rfl dX9_pluck_43
    · have hF := ob_pos c_4 hF
      exact hJ_17 h_3 hF H _ ls hP hD hS (lv_sub hl [] rfl)
def f_X9_name_19 (h : HS) : Option (Int32 × HS) := (some (0, h))
def f_X9_name (h : HS) (p1 : Int32) : Option (Int32 × HS) := (ob2 (f_X9_isHome h p1) (fun r_1 h_1 => (if r_1 = 0 then (f_X9_name_19 h_1) else (ob2 (f_X9_ofGoose h_1 p1 8) (fun r_3 h_3 => (if r_3 = 1 then (f_X9_name_19 h_3) else (ob1 (f_X9_keepsStep h_3) (fun h_5 => (ob1 (f_X9_puts h_5 p1 8 1) (fun h_6 => (some (1, h_6))))))))))))
set_option maxHeartbeats 4000000 in
set_option maxRecDepth 100000 in
theorem c_X9_name (l : Launch) (G : va_G) (cI cJ cZ cB cT : ClassId) (m0 : Nat) (r : Nat → Nat) (h : HS) (p1 : Int32) (rr : Int32) (hh : HS) (hF : f_X9_name h p1 = some (rr, hh)) : gMi l yX9_name (gws yX9_name cX9_name 2 (some .boolean)) 4 G (gT cI cJ cZ cB cT) [.ref m0, .int p1] (wM m0 r cI cJ cZ cB cT h) (fun x (_ : Unit) => x = rr) (fun (_ : Unit) => (wM m0 r cI cJ cZ cB cT hh)) := by
  intro sz
  refine gM_start (y := yX9_name) (av := [.ref m0, .int p1]) (ws := (wM m0 r cI cJ cZ cB cT h)) (Qf := fun A => va_Qi (fun x (_ : Unit) => x = rr) (gB G (fun (_ : Unit) => (wM m0 r cI cJ cZ cB cT hh)) A) A) (cc := cX9_name) (maxL := 2) (ret := (some .boolean)) (by decide) (Nat.le_of_ble_eq_true rfl) ?_
  intro p e s m args below meth c A ls H hx hb hr hts hown hin hlocks hml hP hK hD hA hS hl hE
  have hl : lv_has ls 2 [(0, .ref m0), (1, .int p1)] := hl
  have hJ_19 : ∀ (h : HS), f_X9_name_19 h = some (rr, hh) → ∀ (H : Heap) (locs : List Loc) (ls : Array Slot), va_P G vwCl (wM m0 r cI cJ cZ cB cT h) H → va_D A (wM m0 r cI cJ cZ cB cT h) → va_S A s.heap H locs → lv_has ls 2 [] → W p l e (gRm 4) s m args below meth c H locs 0 0 (MQ below (va_Qi (fun x (_ : Unit) => x = rr) (gB G (fun (_ : Unit) => (wM m0 r cI cJ cZ cB cT hh)) A) A) args s 0 0 A) (F0 m 19 ls []) := by
    intro h hF H locs ls hP hD hS hl
    unfold f_X9_name_19 at hF
    refine lv_iconst (v := 0) hx hb dX9_name_19 (by decide) ?_
    obtain ⟨rfl, rfl⟩ := ob_pair hF
    exact gw_zret () hx hb hr hlocks rfl hP hD hS rfl dX9_name_20
  unfold f_X9_name at hF
  refine lv_aload_n hx hb dX9_name_0 rfl (lv_at hl 0 rfl) ?_
  refine lv_iload_n hx hb dX9_name_1 rfl (lv_at hl 1 rfl) ?_
  obtain ⟨r_1, h_1, e_1, hF⟩ := ob2_some hF
  refine gx_calli (gx_runV (As := [.int p1]) (rest := []) ⟨hx, hb, hml, hown, hts⟩ (c_X9_isHome l G cI cJ cZ cB cT m0 r h p1 r_1 h_1 e_1 H.size) (gG_V m_285 m_286 m_287 m_64 m_284) rfl e_X9_isHome ⟨Nat.le_of_ble_eq_true rfl, Nat.le_of_ble_eq_true rfl⟩ hK hP hD hE hS hA 0 wM_at0 rfl rfl hl.1 rfl (Nat.le_of_ble_eq_true rfl) dX9_name_2 ⟨Nat.le_refl _, Nat.le_refl _⟩) hP hD hS hA (fun x_1 u_1 H locs hw_1 hP hD hS => ?_)
  subst x_1
  refine lv_if_eq (tgt := 19) hx hb dX9_name_5 (by decide) (fun c_2 => ?_) (fun c_2 => ?_)
  · have hF := ob_pos c_2 hF
    exact hJ_19 h_1 hF H _ ls hP hD hS (lv_sub hl [] rfl)
  · have hF := ob_neg c_2 hF
    refine lv_aload_n hx hb dX9_name_8 rfl (lv_at hl 0 rfl) ?_
    refine lv_iload_n hx hb dX9_name_9 rfl (lv_at hl 1 rfl) ?_
    refine lv_bipush (v := 8) hx hb dX9_name_10 (by decide) ?_
    obtain ⟨r_3, h_3, e_3, hF⟩ := ob2_some hF
    refine gx_calli (gx_runV (As := [.int p1, .int 8]) (rest := []) ⟨hx, hb, hml, hown, hts⟩ (c_X9_ofGoose l G cI cJ cZ cB cT m0 r h_1 p1 8 r_3 h_3 e_3 H.size) (gG_V m_103 m_104 m_105 m_64 m_102) rfl e_X9_ofGoose ⟨Nat.le_of_ble_eq_true rfl, Nat.le_of_ble_eq_true rfl⟩ hK hP hD hE hS hA 0 wM_at0 rfl rfl hl.1 rfl (Nat.le_of_ble_eq_true rfl) dX9_name_12 ⟨Nat.le_refl _, Nat.le_refl _⟩) hP hD hS hA (fun x_3 u_3 H locs hw_3 hP hD hS => ?_)
    subst x_3
    refine lv_iconst (v := 1) hx hb dX9_name_15 (by decide) ?_
    refine lv_icmp_ne (tgt := 21) hx hb dX9_name_16 (by decide) (fun c_4 => ?_) (fun c_4 => ?_)
    · have hF := ob_neg c_4 hF
      refine lv_aload_n hx hb dX9_name_21 rfl (lv_at hl 0 rfl) ?_
      obtain ⟨h_5, e_5, hF⟩ := ob1_some hF
      refine gx_callv (gx_runV (As := []) (rest := []) ⟨hx, hb, hml, hown, hts⟩ (c_X9_keepsStep l G cI cJ cZ cB cT m0 r h_3  h_5 e_5 H.size) (gG_V m_289 m_290 m_291 m_64 m_288) rfl e_X9_keepsStep ⟨Nat.le_of_ble_eq_true rfl, Nat.le_of_ble_eq_true rfl⟩ hK hP hD hE hS hA 0 wM_at0 rfl rfl hl.1 rfl (Nat.le_of_ble_eq_true rfl) dX9_name_22 ⟨Nat.le_refl _, Nat.le_refl _⟩) hP hD hS hA (fun u_5 H locs hw_5 hP hD hS => ?_)
      refine lv_aload_n hx hb dX9_name_25 rfl (lv_at hl 0 rfl) ?_
      refine lv_iload_n hx hb dX9_name_26 rfl (lv_at hl 1 rfl) ?_
      refine lv_bipush (v := 8) hx hb dX9_name_27 (by decide) ?_
      refine lv_iconst (v := 1) hx hb dX9_name_29 (by decide) ?_
      obtain ⟨h_6, e_6, hF⟩ := ob1_some hF
      refine gx_callv (gx_runV (As := [.int p1, .int 8, .int 1]) (rest := []) ⟨hx, hb, hml, hown, hts⟩ (c_X9_puts l G cI cJ cZ cB cT m0 r h_5 p1 8 1 h_6 e_6 H.size) (gG_V m_293 m_294 m_295 m_64 m_292) rfl e_X9_puts ⟨Nat.le_of_ble_eq_true rfl, Nat.le_of_ble_eq_true rfl⟩ hK hP hD hE hS hA 0 wM_at0 rfl rfl hl.1 rfl (Nat.le_of_ble_eq_true rfl) dX9_name_30 ⟨Nat.le_refl _, Nat.le_refl _⟩) hP hD hS hA (fun u_6 H locs hw_6 hP hD hS => ?_)
      refine lv_iconst (v := 1) hx hb dX9_name_33 (by decide) ?_
      obtain ⟨rfl, rfl⟩ := ob_pair hF
      exact gw_zret () hx hb hr hlocks rfl hP hD hS rfl dX9_name_34
    · have hF := ob_pos c_4 hF
      exact hJ_19 h_3 hF H _ ls hP hD hS (lv_sub hl [] rfl)
def f_X9_marketTells_56 (h : HS) (y0 : Int32) : Option (Int32 × HS) := (some (y0, h))
def f_X9_marketTells (h : HS) (p1 : Int32) (p2 : Int32) (p3 : Int32) (p4 : Int32) (p5 : Int32) (p6 : Int32) : Option (Int32 × HS) := (if 0 ≤ (((10 + (3 * p5)) + 1)).toInt ∧ (((10 + (3 * p5)) + 1)).toInt < 1990 then (if 0 ≤ (((10 + (3 * p5)) + 2)).toInt ∧ (((10 + (3 * p5)) + 2)).toInt < 1990 then (ob2 (f_X9_ordersOf h p1) (fun r_3 h_3 => (if r_3 = (-1) then (if p1 = 0 then (f_X9_marketTells_56 h_3 ((eA h 0 0) ((((10 + (3 * p5)) + 1)).toNatClampNeg))) else (f_X9_marketTells_56 h_3 ((eA h 0 0) ((((10 + (3 * p5)) + 2)).toNatClampNeg)))) else (ob1 (f_X9_names h_3 p2 p3 p4 p6) (fun h_5 => (ob2 (f_X9_saysOf (sA (sA (sA h_5 0 39 (upd (eA h_5 0 39) 6 p5)) 0 39 (upd (upd (eA h_5 0 39) 6 p5) 7 ((eA h 0 0) ((((10 + (3 * p5)) + 1)).toNatClampNeg)))) 0 39 (upd (upd (upd (eA h_5 0 39) 6 p5) 7 ((eA h 0 0) ((((10 + (3 * p5)) + 1)).toNatClampNeg))) 8 ((eA h 0 0) ((((10 + (3 * p5)) + 2)).toNatClampNeg)))) r_3) (fun r_6 h_6 => (ob1 (f_X9_held r_6 0 10) (fun r_7 => (some (r_7, h_6))))))))))) else none) else none)
set_option maxHeartbeats 4000000 in
set_option maxRecDepth 100000 in
theorem c_X9_marketTells (l : Launch) (G : va_G) (cI cJ cZ cB cT : ClassId) (m0 : Nat) (r : Nat → Nat) (h : HS) (p1 : Int32) (p2 : Int32) (p3 : Int32) (p4 : Int32) (p5 : Int32) (p6 : Int32) (rr : Int32) (hh : HS) (hF : f_X9_marketTells h p1 p2 p3 p4 p5 p6 = some (rr, hh)) : gMi l yX9_marketTells (gws yX9_marketTells cX9_marketTells 10 (some .int)) 4 G (gT cI cJ cZ cB cT) [.ref m0, .int p1, .int p2, .int p3, .int p4, .int p5, .int p6] (wM m0 r cI cJ cZ cB cT h) (fun x (_ : Unit) => x = rr) (fun (_ : Unit) => (wM m0 r cI cJ cZ cB cT hh)) := by
  intro sz
  refine gM_start (y := yX9_marketTells) (av := [.ref m0, .int p1, .int p2, .int p3, .int p4, .int p5, .int p6]) (ws := (wM m0 r cI cJ cZ cB cT h)) (Qf := fun A => va_Qi (fun x (_ : Unit) => x = rr) (gB G (fun (_ : Unit) => (wM m0 r cI cJ cZ cB cT hh)) A) A) (cc := cX9_marketTells) (maxL := 10) (ret := (some .int)) (by decide) (Nat.le_of_ble_eq_true rfl) ?_
  intro p e s m args below meth c A ls H hx hb hr hts hown hin hlocks hml hP hK hD hA hS hl hE
  have hl : lv_has ls 10 [(0, .ref m0), (1, .int p1), (2, .int p2), (3, .int p3), (4, .int p4), (5, .int p5), (6, .int p6)] := hl
  have hJ_56 : ∀ (h : HS) (y0 : Int32), f_X9_marketTells_56 h y0 = some (rr, hh) → ∀ (H : Heap) (locs : List Loc) (ls : Array Slot), va_P G vwCl (wM m0 r cI cJ cZ cB cT h) H → va_D A (wM m0 r cI cJ cZ cB cT h) → va_S A s.heap H locs → lv_has ls 10 [] → W p l e (gRm 4) s m args below meth c H locs 0 0 (MQ below (va_Qi (fun x (_ : Unit) => x = rr) (gB G (fun (_ : Unit) => (wM m0 r cI cJ cZ cB cT hh)) A) A) args s 0 0 A) (F0 m 56 ls [.int y0]) := by
    intro h y0 hF H locs ls hP hD hS hl
    unfold f_X9_marketTells_56 at hF
    obtain ⟨rfl, rfl⟩ := ob_pair hF
    exact gw_iret () hx hb hr hlocks hP hD hS rfl dX9_marketTells_56
  unfold f_X9_marketTells at hF
  refine lv_aload_n hx hb dX9_marketTells_0 rfl (lv_at hl 0 rfl) ?_
  refine va_get (D := G) (ci := 9) (v := .ref (r 0)) (C := RX9) (T := TX9) (N := 53) hx hb hts iX9 hown hK hP 0 wM_at0 rfl 0 (by decide) (hts _ m_92) (fun _ h9 => h9) rfl dX9_marketTells_1 ?_
  refine lv_bipush (v := 10) hx hb dX9_marketTells_4 (by decide) ?_
  refine lv_iconst (v := 3) hx hb dX9_marketTells_6 (by decide) ?_
  refine lv_iload hx hb dX9_marketTells_7 (lv_at hl 5 rfl) ?_
  refine lv_imul hx hb dX9_marketTells_9 ?_
  refine lv_iadd hx hb dX9_marketTells_10 ?_
  refine lv_iconst (v := 1) hx hb dX9_marketTells_11 (by decide) ?_
  refine lv_iadd hx hb dX9_marketTells_12 ?_
  obtain ⟨hi_1, hF⟩ := ob_if hF
  refine va_iald (D := G) hx hb hK hP 1 0 wM_at1 rfl (vp_in_iff.mpr hi_1) dX9_marketTells_13 ?_
  refine gw_topi (y := ((eA h 0 0) ((((10 + (3 * p5)) + 1)).toNatClampNeg))) rfl ?_
  refine lv_istore (lv' := [(7, .int ((eA h 0 0) ((((10 + (3 * p5)) + 1)).toNatClampNeg))), (0, .ref m0), (1, .int p1), (2, .int p2), (3, .int p3), (4, .int p4), (5, .int p5), (6, .int p6)]) hx hb dX9_marketTells_14 hl (by decide) rfl (fun ls hl => ?_)
  refine lv_aload_n hx hb dX9_marketTells_16 rfl (lv_at hl 1 rfl) ?_
  refine va_get (D := G) (ci := 9) (v := .ref (r 0)) (C := RX9) (T := TX9) (N := 53) hx hb hts iX9 hown hK hP 0 wM_at0 rfl 0 (by decide) (hts _ m_92) (fun _ h9 => h9) rfl dX9_marketTells_17 ?_
  refine lv_bipush (v := 10) hx hb dX9_marketTells_20 (by decide) ?_
  refine lv_iconst (v := 3) hx hb dX9_marketTells_22 (by decide) ?_
  refine lv_iload hx hb dX9_marketTells_23 (lv_at hl 6 rfl) ?_
  refine lv_imul hx hb dX9_marketTells_25 ?_
  refine lv_iadd hx hb dX9_marketTells_26 ?_
  refine lv_iconst (v := 2) hx hb dX9_marketTells_27 (by decide) ?_
  refine lv_iadd hx hb dX9_marketTells_28 ?_
  obtain ⟨hi_2, hF⟩ := ob_if hF
  refine va_iald (D := G) hx hb hK hP 1 0 wM_at1 rfl (vp_in_iff.mpr hi_2) dX9_marketTells_29 ?_
  refine gw_topi (y := ((eA h 0 0) ((((10 + (3 * p5)) + 2)).toNatClampNeg))) rfl ?_
  refine lv_istore (lv' := [(8, .int ((eA h 0 0) ((((10 + (3 * p5)) + 2)).toNatClampNeg))), (7, .int ((eA h 0 0) ((((10 + (3 * p5)) + 1)).toNatClampNeg))), (0, .ref m0), (1, .int p1), (2, .int p2), (3, .int p3), (4, .int p4), (5, .int p5), (6, .int p6)]) hx hb dX9_marketTells_30 hl (by decide) rfl (fun ls hl => ?_)
  refine lv_aload_n hx hb dX9_marketTells_32 rfl (lv_at hl 2 rfl) ?_
  refine lv_iload_n hx hb dX9_marketTells_33 rfl (lv_at hl 3 rfl) ?_
  obtain ⟨r_3, h_3, e_3, hF⟩ := ob2_some hF
  refine gx_calli (gx_runV (As := [.int p1]) (rest := []) ⟨hx, hb, hml, hown, hts⟩ (c_X9_ordersOf l G cI cJ cZ cB cT m0 r h p1 r_3 h_3 e_3 H.size) (gG_V m_263 m_264 m_265 m_64 m_262) rfl e_X9_ordersOf ⟨Nat.le_of_ble_eq_true rfl, Nat.le_of_ble_eq_true rfl⟩ hK hP hD hE hS hA 0 wM_at0 rfl rfl hl.1 rfl (Nat.le_of_ble_eq_true rfl) dX9_marketTells_34 ⟨Nat.le_refl _, Nat.le_refl _⟩) hP hD hS hA (fun x_3 u_3 H locs hw_3 hP hD hS => ?_)
  subst x_3
  refine lv_istore (lv' := [(9, .int r_3), (8, .int ((eA h 0 0) ((((10 + (3 * p5)) + 2)).toNatClampNeg))), (7, .int ((eA h 0 0) ((((10 + (3 * p5)) + 1)).toNatClampNeg))), (0, .ref m0), (1, .int p1), (2, .int p2), (3, .int p3), (4, .int p4), (5, .int p5), (6, .int p6)]) hx hb dX9_marketTells_37 hl (by decide) rfl (fun ls hl => ?_)
  refine lv_iload hx hb dX9_marketTells_39 (lv_at hl 0 rfl) ?_
  refine lv_iconst (v := (-1)) hx hb dX9_marketTells_41 (by decide) ?_
  refine lv_icmp_ne (tgt := 57) hx hb dX9_marketTells_42 (by decide) (fun c_4 => ?_) (fun c_4 => ?_)
  · have hF := ob_neg c_4 hF
    refine lv_aload_n hx hb dX9_marketTells_57 rfl (lv_at hl 3 rfl) ?_
    refine lv_iload_n hx hb dX9_marketTells_58 rfl (lv_at hl 5 rfl) ?_
    refine lv_iload_n hx hb dX9_marketTells_59 rfl (lv_at hl 6 rfl) ?_
    refine lv_iload hx hb dX9_marketTells_60 (lv_at hl 7 rfl) ?_
    refine lv_iload hx hb dX9_marketTells_62 (lv_at hl 9 rfl) ?_
    obtain ⟨h_5, e_5, hF⟩ := ob1_some hF
    refine gx_callv (gx_runV (As := [.int p2, .int p3, .int p4, .int p6]) (rest := []) ⟨hx, hb, hml, hown, hts⟩ (c_X9_names l G cI cJ cZ cB cT m0 r h_3 p2 p3 p4 p6 h_5 e_5 H.size) (gG_V m_267 m_268 m_269 m_64 m_266) rfl e_X9_names ⟨Nat.le_of_ble_eq_true rfl, Nat.le_of_ble_eq_true rfl⟩ hK hP hD hE hS hA 0 wM_at0 rfl rfl hl.1 rfl (Nat.le_of_ble_eq_true rfl) dX9_marketTells_64 ⟨Nat.le_refl _, Nat.le_refl _⟩) hP hD hS hA (fun u_5 H locs hw_5 hP hD hS => ?_)
    refine lv_aload_n hx hb dX9_marketTells_67 rfl (lv_at hl 3 rfl) ?_
    refine va_get (D := G) (ci := 9) (v := .ref (r 39)) (C := RX9) (T := TX9) (N := 53) hx hb hts iX9 hown hK hP 0 wM_at0 rfl 39 (by decide) (hts _ m_261) (fun _ h9 => h9) rfl dX9_marketTells_68 ?_
    refine lv_bipush (v := 6) hx hb dX9_marketTells_71 (by decide) ?_
    refine lv_iload hx hb dX9_marketTells_73 (lv_at hl 8 rfl) ?_
    refine va_iast (D := G) hx hb hK hP hD hS 23 0 wM_at23 rfl (vp_in_nI (n := 6) (by decide) (by decide)) dX9_marketTells_75 (fun H locs hP hD hS => ?_)
    rw [wM_sA23] at hP hD
    have hP : va_P G vwCl (wM m0 r cI cJ cZ cB cT (sA h_5 0 39 (upd (eA h_5 0 39) 6 p5))) H := hP
    have hD : va_D A (wM m0 r cI cJ cZ cB cT (sA h_5 0 39 (upd (eA h_5 0 39) 6 p5))) := hD
    refine lv_aload_n hx hb dX9_marketTells_76 rfl (lv_at hl 3 rfl) ?_
    refine va_get (D := G) (ci := 9) (v := .ref (r 39)) (C := RX9) (T := TX9) (N := 53) hx hb hts iX9 hown hK hP 0 wM_at0 rfl 39 (by decide) (hts _ m_261) (fun _ h9 => h9) rfl dX9_marketTells_77 ?_
    refine lv_bipush (v := 7) hx hb dX9_marketTells_80 (by decide) ?_
    refine lv_iload hx hb dX9_marketTells_82 (lv_at hl 2 rfl) ?_
    refine va_iast (D := G) hx hb hK hP hD hS 23 0 wM_at23 rfl (vp_in_nI (n := 7) (by decide) (by decide)) dX9_marketTells_84 (fun H locs hP hD hS => ?_)
    rw [wM_sA23] at hP hD
    have hP : va_P G vwCl (wM m0 r cI cJ cZ cB cT (sA (sA h_5 0 39 (upd (eA h_5 0 39) 6 p5)) 0 39 (upd (upd (eA h_5 0 39) 6 p5) 7 ((eA h 0 0) ((((10 + (3 * p5)) + 1)).toNatClampNeg))))) H := hP
    have hD : va_D A (wM m0 r cI cJ cZ cB cT (sA (sA h_5 0 39 (upd (eA h_5 0 39) 6 p5)) 0 39 (upd (upd (eA h_5 0 39) 6 p5) 7 ((eA h 0 0) ((((10 + (3 * p5)) + 1)).toNatClampNeg))))) := hD
    refine lv_aload_n hx hb dX9_marketTells_85 rfl (lv_at hl 3 rfl) ?_
    refine va_get (D := G) (ci := 9) (v := .ref (r 39)) (C := RX9) (T := TX9) (N := 53) hx hb hts iX9 hown hK hP 0 wM_at0 rfl 39 (by decide) (hts _ m_261) (fun _ h9 => h9) rfl dX9_marketTells_86 ?_
    refine lv_bipush (v := 8) hx hb dX9_marketTells_89 (by decide) ?_
    refine lv_iload hx hb dX9_marketTells_91 (lv_at hl 1 rfl) ?_
    refine va_iast (D := G) hx hb hK hP hD hS 23 0 wM_at23 rfl (vp_in_nI (n := 8) (by decide) (by decide)) dX9_marketTells_93 (fun H locs hP hD hS => ?_)
    rw [wM_sA23] at hP hD
    have hP : va_P G vwCl (wM m0 r cI cJ cZ cB cT (sA (sA (sA h_5 0 39 (upd (eA h_5 0 39) 6 p5)) 0 39 (upd (upd (eA h_5 0 39) 6 p5) 7 ((eA h 0 0) ((((10 + (3 * p5)) + 1)).toNatClampNeg)))) 0 39 (upd (upd (upd (eA h_5 0 39) 6 p5) 7 ((eA h 0 0) ((((10 + (3 * p5)) + 1)).toNatClampNeg))) 8 ((eA h 0 0) ((((10 + (3 * p5)) + 2)).toNatClampNeg))))) H := hP
    have hD : va_D A (wM m0 r cI cJ cZ cB cT (sA (sA (sA h_5 0 39 (upd (eA h_5 0 39) 6 p5)) 0 39 (upd (upd (eA h_5 0 39) 6 p5) 7 ((eA h 0 0) ((((10 + (3 * p5)) + 1)).toNatClampNeg)))) 0 39 (upd (upd (upd (eA h_5 0 39) 6 p5) 7 ((eA h 0 0) ((((10 + (3 * p5)) + 1)).toNatClampNeg))) 8 ((eA h 0 0) ((((10 + (3 * p5)) + 2)).toNatClampNeg))))) := hD
    refine lv_aload_n hx hb dX9_marketTells_94 rfl (lv_at hl 3 rfl) ?_
    refine lv_iload hx hb dX9_marketTells_95 (lv_at hl 0 rfl) ?_
    obtain ⟨r_6, h_6, e_6, hF⟩ := ob2_some hF
    refine gx_calll (gx_runV (As := [.int r_3]) (rest := []) ⟨hx, hb, hml, hown, hts⟩ (c_X9_saysOf l G cI cJ cZ cB cT m0 r (sA (sA (sA h_5 0 39 (upd (eA h_5 0 39) 6 p5)) 0 39 (upd (upd (eA h_5 0 39) 6 p5) 7 ((eA h 0 0) ((((10 + (3 * p5)) + 1)).toNatClampNeg)))) 0 39 (upd (upd (upd (eA h_5 0 39) 6 p5) 7 ((eA h 0 0) ((((10 + (3 * p5)) + 1)).toNatClampNeg))) 8 ((eA h 0 0) ((((10 + (3 * p5)) + 2)).toNatClampNeg)))) r_3 r_6 h_6 e_6 H.size) (gG_V m_271 m_272 m_273 m_64 m_270) rfl e_X9_saysOf ⟨Nat.le_of_ble_eq_true rfl, Nat.le_of_ble_eq_true rfl⟩ hK hP hD hE hS hA 0 wM_at0 rfl rfl hl.1 rfl (Nat.le_of_ble_eq_true rfl) dX9_marketTells_97 ⟨Nat.le_refl _, Nat.le_refl _⟩) hP hD hS hA (fun x_6 u_6 H locs hw_6 hP hD hS => ?_)
    subst x_6
    refine lv_iconst (v := 0) hx hb dX9_marketTells_100 (by decide) ?_
    refine lv_bipush (v := 10) hx hb dX9_marketTells_101 (by decide) ?_
    obtain ⟨r_7, e_7, hF⟩ := ob1_some hF
    refine gx_calli0 (gx_runS0 (As := [.long r_6, .int 0, .int 10]) (rest := []) ⟨hx, hb, hml, hown, hts⟩ (c_X9_held l G cI cJ cZ cB cT   r_6 0 10 r_7 e_7 H.size) (gG_S m_275 m_276 m_64 m_274) rfl e_X9_held ⟨Nat.le_of_ble_eq_true rfl, Nat.le_of_ble_eq_true rfl⟩ hK hE hS hA rfl hl.1 rfl (Nat.le_of_ble_eq_true rfl) dX9_marketTells_103 ⟨Nat.le_refl _, Nat.le_refl _⟩) hP hD hS hA (fun x_7 u_7 H locs hw_7 hP hD hS => ?_)
    subst x_7
    obtain ⟨rfl, rfl⟩ := ob_pair hF
    exact gw_iret () hx hb hr hlocks hP hD hS rfl dX9_marketTells_106
  · have hF := ob_pos c_4 hF
    refine lv_iload_n hx hb dX9_marketTells_45 rfl (lv_at hl 4 rfl) ?_
    refine lv_if_ne (tgt := 54) hx hb dX9_marketTells_46 (by decide) (fun c_8 => ?_) (fun c_8 => ?_)
    · have hF := ob_neg c_8 hF
      refine lv_iload hx hb dX9_marketTells_54 (lv_at hl 1 rfl) ?_
      exact hJ_56 h_3 ((eA h 0 0) ((((10 + (3 * p5)) + 2)).toNatClampNeg)) hF H _ ls hP hD hS (lv_sub hl [] rfl)
    · have hF := ob_pos c_8 hF
      refine lv_iload hx hb dX9_marketTells_49 (lv_at hl 2 rfl) ?_
      refine lv_goto (tgt := 56) hx hb dX9_marketTells_51 (by decide) ?_
      exact hJ_56 h_3 ((eA h 0 0) ((((10 + (3 * p5)) + 1)).toNatClampNeg)) hF H _ ls hP hD hS (lv_sub hl [] rfl)
def f_X9_marketOf (h : HS) (p1 : Int32) (p2 : Int32) : Option (Int32 × HS) := (ob2 (f_X9_ofGoose h p2 2) (fun r_1 h_1 => (ob2 (f_X9_ofGoose h_1 p2 3) (fun r_2 h_2 => (ob2 (f_X9_ofGoose h_2 p2 5) (fun r_3 h_3 => (ob2 (f_X9_ofGoose h_3 p2 6) (fun r_4 h_4 => (ob2 (f_X9_marketTells h_4 p1 p2 r_1 r_2 r_3 r_4) (fun r_5 h_5 => (some (r_5, h_5))))))))))))
theorem e_X9_marketTells : yX9_marketTells.cls = RX9 ∧ yX9_marketTells.cls ≠ "java/lang/invoke/MethodHandle" ∧ yX9_marketTells.cls ≠ "java/lang/invoke/VarHandle" ∧ (parseMethodDescriptor yX9_marketTells.desc).map (fun d => d.parameters.length) = some 6 := by decide +kernel
set_option maxHeartbeats 4000000 in
set_option maxRecDepth 100000 in
theorem c_X9_marketOf (l : Launch) (G : va_G) (cI cJ cZ cB cT : ClassId) (m0 : Nat) (r : Nat → Nat) (h : HS) (p1 : Int32) (p2 : Int32) (rr : Int32) (hh : HS) (hF : f_X9_marketOf h p1 p2 = some (rr, hh)) : gMi l yX9_marketOf (gws yX9_marketOf cX9_marketOf 3 (some .int)) 5 G (gT cI cJ cZ cB cT) [.ref m0, .int p1, .int p2] (wM m0 r cI cJ cZ cB cT h) (fun x (_ : Unit) => x = rr) (fun (_ : Unit) => (wM m0 r cI cJ cZ cB cT hh)) := by
  intro sz
  refine gM_start (y := yX9_marketOf) (av := [.ref m0, .int p1, .int p2]) (ws := (wM m0 r cI cJ cZ cB cT h)) (Qf := fun A => va_Qi (fun x (_ : Unit) => x = rr) (gB G (fun (_ : Unit) => (wM m0 r cI cJ cZ cB cT hh)) A) A) (cc := cX9_marketOf) (maxL := 3) (ret := (some .int)) (by decide) (Nat.le_of_ble_eq_true rfl) ?_
  intro p e s m args below meth c A ls H hx hb hr hts hown hin hlocks hml hP hK hD hA hS hl hE
  have hl : lv_has ls 3 [(0, .ref m0), (1, .int p1), (2, .int p2)] := hl
  unfold f_X9_marketOf at hF
  refine lv_aload_n hx hb dX9_marketOf_0 rfl (lv_at hl 0 rfl) ?_
  refine lv_iload_n hx hb dX9_marketOf_1 rfl (lv_at hl 1 rfl) ?_
  refine lv_iload_n hx hb dX9_marketOf_2 rfl (lv_at hl 2 rfl) ?_
  refine lv_aload_n hx hb dX9_marketOf_3 rfl (lv_at hl 0 rfl) ?_
  refine lv_iload_n hx hb dX9_marketOf_4 rfl (lv_at hl 2 rfl) ?_
  refine lv_iconst (v := 2) hx hb dX9_marketOf_5 (by decide) ?_
  obtain ⟨r_1, h_1, e_1, hF⟩ := ob2_some hF
  refine gx_calli (gx_runV (As := [.int p2, .int 2]) (rest := [.int p2, .int p1, .ref m0]) ⟨hx, hb, hml, hown, hts⟩ (c_X9_ofGoose l G cI cJ cZ cB cT m0 r h p2 2 r_1 h_1 e_1 H.size) (gG_V m_103 m_104 m_105 m_64 m_102) rfl e_X9_ofGoose ⟨Nat.le_of_ble_eq_true rfl, Nat.le_of_ble_eq_true rfl⟩ hK hP hD hE hS hA 0 wM_at0 rfl rfl hl.1 rfl (Nat.le_of_ble_eq_true rfl) dX9_marketOf_6 ⟨Nat.le_refl _, Nat.le_refl _⟩) hP hD hS hA (fun x_1 u_1 H locs hw_1 hP hD hS => ?_)
  subst x_1
  refine lv_aload_n hx hb dX9_marketOf_9 rfl (lv_at hl 0 rfl) ?_
  refine lv_iload_n hx hb dX9_marketOf_10 rfl (lv_at hl 2 rfl) ?_
  refine lv_iconst (v := 3) hx hb dX9_marketOf_11 (by decide) ?_
  obtain ⟨r_2, h_2, e_2, hF⟩ := ob2_some hF
  refine gx_calli (gx_runV (As := [.int p2, .int 3]) (rest := [.int r_1, .int p2, .int p1, .ref m0]) ⟨hx, hb, hml, hown, hts⟩ (c_X9_ofGoose l G cI cJ cZ cB cT m0 r h_1 p2 3 r_2 h_2 e_2 H.size) (gG_V m_103 m_104 m_105 m_64 m_102) rfl e_X9_ofGoose ⟨Nat.le_of_ble_eq_true rfl, Nat.le_of_ble_eq_true rfl⟩ hK hP hD hE hS hA 0 wM_at0 rfl rfl hl.1 rfl (Nat.le_of_ble_eq_true rfl) dX9_marketOf_12 ⟨Nat.le_refl _, Nat.le_refl _⟩) hP hD hS hA (fun x_2 u_2 H locs hw_2 hP hD hS => ?_)
  subst x_2
  refine lv_aload_n hx hb dX9_marketOf_15 rfl (lv_at hl 0 rfl) ?_
  refine lv_iload_n hx hb dX9_marketOf_16 rfl (lv_at hl 2 rfl) ?_
  refine lv_iconst (v := 5) hx hb dX9_marketOf_17 (by decide) ?_
  obtain ⟨r_3, h_3, e_3, hF⟩ := ob2_some hF
  refine gx_calli (gx_runV (As := [.int p2, .int 5]) (rest := [.int r_2, .int r_1, .int p2, .int p1, .ref m0]) ⟨hx, hb, hml, hown, hts⟩ (c_X9_ofGoose l G cI cJ cZ cB cT m0 r h_2 p2 5 r_3 h_3 e_3 H.size) (gG_V m_103 m_104 m_105 m_64 m_102) rfl e_X9_ofGoose ⟨Nat.le_of_ble_eq_true rfl, Nat.le_of_ble_eq_true rfl⟩ hK hP hD hE hS hA 0 wM_at0 rfl rfl hl.1 rfl (Nat.le_of_ble_eq_true rfl) dX9_marketOf_18 ⟨Nat.le_refl _, Nat.le_refl _⟩) hP hD hS hA (fun x_3 u_3 H locs hw_3 hP hD hS => ?_)
  subst x_3
  refine lv_aload_n hx hb dX9_marketOf_21 rfl (lv_at hl 0 rfl) ?_
  refine lv_iload_n hx hb dX9_marketOf_22 rfl (lv_at hl 2 rfl) ?_
  refine lv_bipush (v := 6) hx hb dX9_marketOf_23 (by decide) ?_
  obtain ⟨r_4, h_4, e_4, hF⟩ := ob2_some hF
  refine gx_calli (gx_runV (As := [.int p2, .int 6]) (rest := [.int r_3, .int r_2, .int r_1, .int p2, .int p1, .ref m0]) ⟨hx, hb, hml, hown, hts⟩ (c_X9_ofGoose l G cI cJ cZ cB cT m0 r h_3 p2 6 r_4 h_4 e_4 H.size) (gG_V m_103 m_104 m_105 m_64 m_102) rfl e_X9_ofGoose ⟨Nat.le_of_ble_eq_true rfl, Nat.le_of_ble_eq_true rfl⟩ hK hP hD hE hS hA 0 wM_at0 rfl rfl hl.1 rfl (Nat.le_of_ble_eq_true rfl) dX9_marketOf_25 ⟨Nat.le_refl _, Nat.le_refl _⟩) hP hD hS hA (fun x_4 u_4 H locs hw_4 hP hD hS => ?_)
  subst x_4
  obtain ⟨r_5, h_5, e_5, hF⟩ := ob2_some hF
  refine gx_calli (gx_runV (As := [.int p1, .int p2, .int r_1, .int r_2, .int r_3, .int r_4]) (rest := []) ⟨hx, hb, hml, hown, hts⟩ (c_X9_marketTells l G cI cJ cZ cB cT m0 r h_4 p1 p2 r_1 r_2 r_3 r_4 r_5 h_5 e_5 H.size) (gG_V m_297 m_298 m_299 m_64 m_296) rfl e_X9_marketTells ⟨Nat.le_of_ble_eq_true rfl, Nat.le_of_ble_eq_true rfl⟩ hK hP hD hE hS hA 0 wM_at0 rfl rfl hl.1 rfl (Nat.le_of_ble_eq_true rfl) dX9_marketOf_28 ⟨Nat.le_refl _, Nat.le_refl _⟩) hP hD hS hA (fun x_5 u_5 H locs hw_5 hP hD hS => ?_)
  subst x_5
  obtain ⟨rfl, rfl⟩ := ob_pair hF
  exact gw_iret () hx hb hr hlocks hP hD hS rfl dX9_marketOf_31
def f_X9_isTrueBy_53 (h : HS) (y0 : Int32) : Option (Int32 × HS) := (if y0 = 0 ∨ y0 = 1 then (some (y0, h)) else none)
def f_X9_isTrueBy (h : HS) (p1 : Int32) (p2 : Int32) (p3 : Int32) (p4 : Int32) : Option (Int32 × HS) := (ob2 (f_X9_ordersOf h 3) (fun r_1 h_1 => (if r_1 = (-1) then (some (1, h_1)) else (ob1 (f_X9_names h_1 p1 p2 p3 ((eA h_1 0 0) 121)) (fun h_3 => (ob2 (f_X9_saysOf (sA h_3 0 39 (upd (eA h_3 0 39) 2 p4)) r_1) (fun r_4 h_4 => (if (lg_cmp r_4 0) ≤ 0 then (f_X9_isTrueBy_53 h_4 0) else (f_X9_isTrueBy_53 h_4 1)))))))))
set_option maxHeartbeats 4000000 in
set_option maxRecDepth 100000 in
theorem c_X9_isTrueBy (l : Launch) (G : va_G) (cI cJ cZ cB cT : ClassId) (m0 : Nat) (r : Nat → Nat) (h : HS) (p1 : Int32) (p2 : Int32) (p3 : Int32) (p4 : Int32) (rr : Int32) (hh : HS) (hF : f_X9_isTrueBy h p1 p2 p3 p4 = some (rr, hh)) : gMi l yX9_isTrueBy (gws yX9_isTrueBy cX9_isTrueBy 6 (some .boolean)) 4 G (gT cI cJ cZ cB cT) [.ref m0, .int p1, .int p2, .int p3, .int p4] (wM m0 r cI cJ cZ cB cT h) (fun x (_ : Unit) => x = rr) (fun (_ : Unit) => (wM m0 r cI cJ cZ cB cT hh)) := by
  intro sz
  refine gM_start (y := yX9_isTrueBy) (av := [.ref m0, .int p1, .int p2, .int p3, .int p4]) (ws := (wM m0 r cI cJ cZ cB cT h)) (Qf := fun A => va_Qi (fun x (_ : Unit) => x = rr) (gB G (fun (_ : Unit) => (wM m0 r cI cJ cZ cB cT hh)) A) A) (cc := cX9_isTrueBy) (maxL := 6) (ret := (some .boolean)) (by decide) (Nat.le_of_ble_eq_true rfl) ?_
  intro p e s m args below meth c A ls H hx hb hr hts hown hin hlocks hml hP hK hD hA hS hl hE
  have hl : lv_has ls 6 [(0, .ref m0), (1, .int p1), (2, .int p2), (3, .int p3), (4, .int p4)] := hl
  have hJ_53 : ∀ (h : HS) (y0 : Int32), f_X9_isTrueBy_53 h y0 = some (rr, hh) → ∀ (H : Heap) (locs : List Loc) (ls : Array Slot), va_P G vwCl (wM m0 r cI cJ cZ cB cT h) H → va_D A (wM m0 r cI cJ cZ cB cT h) → va_S A s.heap H locs → lv_has ls 6 [] → W p l e (gRm 4) s m args below meth c H locs 0 0 (MQ below (va_Qi (fun x (_ : Unit) => x = rr) (gB G (fun (_ : Unit) => (wM m0 r cI cJ cZ cB cT hh)) A) A) args s 0 0 A) (F0 m 53 ls [.int y0]) := by
    intro h y0 hF H locs ls hP hD hS hl
    unfold f_X9_isTrueBy_53 at hF
    obtain ⟨hz_6, hF⟩ := ob_if hF
    obtain ⟨rfl, rfl⟩ := ob_pair hF
    exact gw_zret () hx hb hr hlocks (gz hz_6) hP hD hS rfl dX9_isTrueBy_53
  unfold f_X9_isTrueBy at hF
  refine lv_aload_n hx hb dX9_isTrueBy_0 rfl (lv_at hl 0 rfl) ?_
  refine lv_iconst (v := 3) hx hb dX9_isTrueBy_1 (by decide) ?_
  obtain ⟨r_1, h_1, e_1, hF⟩ := ob2_some hF
  refine gx_calli (gx_runV (As := [.int 3]) (rest := []) ⟨hx, hb, hml, hown, hts⟩ (c_X9_ordersOf l G cI cJ cZ cB cT m0 r h 3 r_1 h_1 e_1 H.size) (gG_V m_263 m_264 m_265 m_64 m_262) rfl e_X9_ordersOf ⟨Nat.le_of_ble_eq_true rfl, Nat.le_of_ble_eq_true rfl⟩ hK hP hD hE hS hA 0 wM_at0 rfl rfl hl.1 rfl (Nat.le_of_ble_eq_true rfl) dX9_isTrueBy_2 ⟨Nat.le_refl _, Nat.le_refl _⟩) hP hD hS hA (fun x_1 u_1 H locs hw_1 hP hD hS => ?_)
  subst x_1
  refine lv_istore (lv' := [(5, .int r_1), (0, .ref m0), (1, .int p1), (2, .int p2), (3, .int p3), (4, .int p4)]) hx hb dX9_isTrueBy_5 hl (by decide) rfl (fun ls hl => ?_)
  refine lv_iload hx hb dX9_isTrueBy_7 (lv_at hl 0 rfl) ?_
  refine lv_iconst (v := (-1)) hx hb dX9_isTrueBy_9 (by decide) ?_
  refine lv_icmp_ne (tgt := 15) hx hb dX9_isTrueBy_10 (by decide) (fun c_2 => ?_) (fun c_2 => ?_)
  · have hF := ob_neg c_2 hF
    refine lv_aload_n hx hb dX9_isTrueBy_15 rfl (lv_at hl 1 rfl) ?_
    refine lv_iload_n hx hb dX9_isTrueBy_16 rfl (lv_at hl 2 rfl) ?_
    refine lv_iload_n hx hb dX9_isTrueBy_17 rfl (lv_at hl 3 rfl) ?_
    refine lv_iload_n hx hb dX9_isTrueBy_18 rfl (lv_at hl 4 rfl) ?_
    refine lv_aload_n hx hb dX9_isTrueBy_19 rfl (lv_at hl 1 rfl) ?_
    refine va_get (D := G) (ci := 9) (v := .ref (r 0)) (C := RX9) (T := TX9) (N := 53) hx hb hts iX9 hown hK hP 0 wM_at0 rfl 0 (by decide) (hts _ m_92) (fun _ h9 => h9) rfl dX9_isTrueBy_20 ?_
    refine lv_bipush (v := 121) hx hb dX9_isTrueBy_23 (by decide) ?_
    refine va_iald (D := G) hx hb hK hP 1 0 wM_at1 rfl (vp_in_nI (n := 121) (by decide) (by decide)) dX9_isTrueBy_25 ?_
    refine gw_topi (y := ((eA h_1 0 0) 121)) rfl ?_
    obtain ⟨h_3, e_3, hF⟩ := ob1_some hF
    refine gx_callv (gx_runV (As := [.int p1, .int p2, .int p3, .int ((eA h_1 0 0) 121)]) (rest := []) ⟨hx, hb, hml, hown, hts⟩ (c_X9_names l G cI cJ cZ cB cT m0 r h_1 p1 p2 p3 ((eA h_1 0 0) 121) h_3 e_3 H.size) (gG_V m_267 m_268 m_269 m_64 m_266) rfl e_X9_names ⟨Nat.le_of_ble_eq_true rfl, Nat.le_of_ble_eq_true rfl⟩ hK hP hD hE hS hA 0 wM_at0 rfl rfl hl.1 rfl (Nat.le_of_ble_eq_true rfl) dX9_isTrueBy_26 ⟨Nat.le_refl _, Nat.le_refl _⟩) hP hD hS hA (fun u_3 H locs hw_3 hP hD hS => ?_)
    refine lv_aload_n hx hb dX9_isTrueBy_29 rfl (lv_at hl 1 rfl) ?_
    refine va_get (D := G) (ci := 9) (v := .ref (r 39)) (C := RX9) (T := TX9) (N := 53) hx hb hts iX9 hown hK hP 0 wM_at0 rfl 39 (by decide) (hts _ m_261) (fun _ h9 => h9) rfl dX9_isTrueBy_30 ?_
    refine lv_iconst (v := 2) hx hb dX9_isTrueBy_33 (by decide) ?_
    refine lv_iload hx hb dX9_isTrueBy_34 (lv_at hl 5 rfl) ?_
    refine va_iast (D := G) hx hb hK hP hD hS 23 0 wM_at23 rfl (vp_in_nI (n := 2) (by decide) (by decide)) dX9_isTrueBy_36 (fun H locs hP hD hS => ?_)
    rw [wM_sA23] at hP hD
    have hP : va_P G vwCl (wM m0 r cI cJ cZ cB cT (sA h_3 0 39 (upd (eA h_3 0 39) 2 p4))) H := hP
    have hD : va_D A (wM m0 r cI cJ cZ cB cT (sA h_3 0 39 (upd (eA h_3 0 39) 2 p4))) := hD
    refine lv_aload_n hx hb dX9_isTrueBy_37 rfl (lv_at hl 1 rfl) ?_
    refine lv_iload hx hb dX9_isTrueBy_38 (lv_at hl 0 rfl) ?_
    obtain ⟨r_4, h_4, e_4, hF⟩ := ob2_some hF
    refine gx_calll (gx_runV (As := [.int r_1]) (rest := []) ⟨hx, hb, hml, hown, hts⟩ (c_X9_saysOf l G cI cJ cZ cB cT m0 r (sA h_3 0 39 (upd (eA h_3 0 39) 2 p4)) r_1 r_4 h_4 e_4 H.size) (gG_V m_271 m_272 m_273 m_64 m_270) rfl e_X9_saysOf ⟨Nat.le_of_ble_eq_true rfl, Nat.le_of_ble_eq_true rfl⟩ hK hP hD hE hS hA 0 wM_at0 rfl rfl hl.1 rfl (Nat.le_of_ble_eq_true rfl) dX9_isTrueBy_40 ⟨Nat.le_refl _, Nat.le_refl _⟩) hP hD hS hA (fun x_4 u_4 H locs hw_4 hP hD hS => ?_)
    subst x_4
    refine lv_lconst (v := 0) hx hb dX9_isTrueBy_43 (by decide) ?_
    refine W.lcmp hx hb dX9_isTrueBy_44 ?_
    refine lv_if_le (tgt := 52) hx hb dX9_isTrueBy_45 (by decide) (fun c_5 => ?_) (fun c_5 => ?_)
    · have hF := ob_pos c_5 hF
      refine lv_iconst (v := 0) hx hb dX9_isTrueBy_52 (by decide) ?_
      exact hJ_53 h_4 0 hF H _ ls hP hD hS (lv_sub hl [] rfl)
    · have hF := ob_neg c_5 hF
      refine lv_iconst (v := 1) hx hb dX9_isTrueBy_48 (by decide) ?_
      refine lv_goto (tgt := 53) hx hb dX9_isTrueBy_49 (by decide) ?_
      exact hJ_53 h_4 1 hF H _ ls hP hD hS (lv_sub hl [] rfl)
  · have hF := ob_pos c_2 hF
    refine lv_iconst (v := 1) hx hb dX9_isTrueBy_13 (by decide) ?_
    obtain ⟨rfl, rfl⟩ := ob_pair hF
    exact gw_zret () hx hb hr hlocks rfl hP hD hS rfl dX9_isTrueBy_14
def f_X9_isTrue (h : HS) (p1 : Int32) : Option (Int32 × HS) := (ob2 (f_X9_ofGoose h p1 2) (fun r_1 h_1 => (ob2 (f_X9_ofGoose h_1 p1 3) (fun r_2 h_2 => (ob2 (f_X9_ofGoose h_2 p1 1) (fun r_3 h_3 => (ob2 (f_X9_isTrueBy h_3 p1 r_1 r_2 r_3) (fun r_4 h_4 => (if r_4 = 0 ∨ r_4 = 1 then (some (r_4, h_4)) else none)))))))))
theorem e_X9_isTrueBy : yX9_isTrueBy.cls = RX9 ∧ yX9_isTrueBy.cls ≠ "java/lang/invoke/MethodHandle" ∧ yX9_isTrueBy.cls ≠ "java/lang/invoke/VarHandle" ∧ (parseMethodDescriptor yX9_isTrueBy.desc).map (fun d => d.parameters.length) = some 4 := by decide +kernel
set_option maxHeartbeats 4000000 in
set_option maxRecDepth 100000 in
theorem c_X9_isTrue (l : Launch) (G : va_G) (cI cJ cZ cB cT : ClassId) (m0 : Nat) (r : Nat → Nat) (h : HS) (p1 : Int32) (rr : Int32) (hh : HS) (hF : f_X9_isTrue h p1 = some (rr, hh)) : gMi l yX9_isTrue (gws yX9_isTrue cX9_isTrue 2 (some .boolean)) 5 G (gT cI cJ cZ cB cT) [.ref m0, .int p1] (wM m0 r cI cJ cZ cB cT h) (fun x (_ : Unit) => x = rr) (fun (_ : Unit) => (wM m0 r cI cJ cZ cB cT hh)) := by
  intro sz
  refine gM_start (y := yX9_isTrue) (av := [.ref m0, .int p1]) (ws := (wM m0 r cI cJ cZ cB cT h)) (Qf := fun A => va_Qi (fun x (_ : Unit) => x = rr) (gB G (fun (_ : Unit) => (wM m0 r cI cJ cZ cB cT hh)) A) A) (cc := cX9_isTrue) (maxL := 2) (ret := (some .boolean)) (by decide) (Nat.le_of_ble_eq_true rfl) ?_
  intro p e s m args below meth c A ls H hx hb hr hts hown hin hlocks hml hP hK hD hA hS hl hE
  have hl : lv_has ls 2 [(0, .ref m0), (1, .int p1)] := hl
  unfold f_X9_isTrue at hF
  refine lv_aload_n hx hb dX9_isTrue_0 rfl (lv_at hl 0 rfl) ?_
  refine lv_iload_n hx hb dX9_isTrue_1 rfl (lv_at hl 1 rfl) ?_
  refine lv_aload_n hx hb dX9_isTrue_2 rfl (lv_at hl 0 rfl) ?_
  refine lv_iload_n hx hb dX9_isTrue_3 rfl (lv_at hl 1 rfl) ?_
  refine lv_iconst (v := 2) hx hb dX9_isTrue_4 (by decide) ?_
  obtain ⟨r_1, h_1, e_1, hF⟩ := ob2_some hF
  refine gx_calli (gx_runV (As := [.int p1, .int 2]) (rest := [.int p1, .ref m0]) ⟨hx, hb, hml, hown, hts⟩ (c_X9_ofGoose l G cI cJ cZ cB cT m0 r h p1 2 r_1 h_1 e_1 H.size) (gG_V m_103 m_104 m_105 m_64 m_102) rfl e_X9_ofGoose ⟨Nat.le_of_ble_eq_true rfl, Nat.le_of_ble_eq_true rfl⟩ hK hP hD hE hS hA 0 wM_at0 rfl rfl hl.1 rfl (Nat.le_of_ble_eq_true rfl) dX9_isTrue_5 ⟨Nat.le_refl _, Nat.le_refl _⟩) hP hD hS hA (fun x_1 u_1 H locs hw_1 hP hD hS => ?_)
  subst x_1
  refine lv_aload_n hx hb dX9_isTrue_8 rfl (lv_at hl 0 rfl) ?_
  refine lv_iload_n hx hb dX9_isTrue_9 rfl (lv_at hl 1 rfl) ?_
  refine lv_iconst (v := 3) hx hb dX9_isTrue_10 (by decide) ?_
  obtain ⟨r_2, h_2, e_2, hF⟩ := ob2_some hF
  refine gx_calli (gx_runV (As := [.int p1, .int 3]) (rest := [.int r_1, .int p1, .ref m0]) ⟨hx, hb, hml, hown, hts⟩ (c_X9_ofGoose l G cI cJ cZ cB cT m0 r h_1 p1 3 r_2 h_2 e_2 H.size) (gG_V m_103 m_104 m_105 m_64 m_102) rfl e_X9_ofGoose ⟨Nat.le_of_ble_eq_true rfl, Nat.le_of_ble_eq_true rfl⟩ hK hP hD hE hS hA 0 wM_at0 rfl rfl hl.1 rfl (Nat.le_of_ble_eq_true rfl) dX9_isTrue_11 ⟨Nat.le_refl _, Nat.le_refl _⟩) hP hD hS hA (fun x_2 u_2 H locs hw_2 hP hD hS => ?_)
  subst x_2
  refine lv_aload_n hx hb dX9_isTrue_14 rfl (lv_at hl 0 rfl) ?_
  refine lv_iload_n hx hb dX9_isTrue_15 rfl (lv_at hl 1 rfl) ?_
  refine lv_iconst (v := 1) hx hb dX9_isTrue_16 (by decide) ?_
  obtain ⟨r_3, h_3, e_3, hF⟩ := ob2_some hF
  refine gx_calli (gx_runV (As := [.int p1, .int 1]) (rest := [.int r_2, .int r_1, .int p1, .ref m0]) ⟨hx, hb, hml, hown, hts⟩ (c_X9_ofGoose l G cI cJ cZ cB cT m0 r h_2 p1 1 r_3 h_3 e_3 H.size) (gG_V m_103 m_104 m_105 m_64 m_102) rfl e_X9_ofGoose ⟨Nat.le_of_ble_eq_true rfl, Nat.le_of_ble_eq_true rfl⟩ hK hP hD hE hS hA 0 wM_at0 rfl rfl hl.1 rfl (Nat.le_of_ble_eq_true rfl) dX9_isTrue_17 ⟨Nat.le_refl _, Nat.le_refl _⟩) hP hD hS hA (fun x_3 u_3 H locs hw_3 hP hD hS => ?_)
  subst x_3
  obtain ⟨r_4, h_4, e_4, hF⟩ := ob2_some hF
  refine gx_calli (gx_runV (As := [.int p1, .int r_1, .int r_2, .int r_3]) (rest := []) ⟨hx, hb, hml, hown, hts⟩ (c_X9_isTrueBy l G cI cJ cZ cB cT m0 r h_3 p1 r_1 r_2 r_3 r_4 h_4 e_4 H.size) (gG_V m_301 m_302 m_303 m_64 m_300) rfl e_X9_isTrueBy ⟨Nat.le_of_ble_eq_true rfl, Nat.le_of_ble_eq_true rfl⟩ hK hP hD hE hS hA 0 wM_at0 rfl rfl hl.1 rfl (Nat.le_of_ble_eq_true rfl) dX9_isTrue_20 ⟨Nat.le_refl _, Nat.le_refl _⟩) hP hD hS hA (fun x_4 u_4 H locs hw_4 hP hD hS => ?_)
  subst x_4
  obtain ⟨hz_5, hF⟩ := ob_if hF
  obtain ⟨rfl, rfl⟩ := ob_pair hF
  exact gw_zret () hx hb hr hlocks (gz hz_5) hP hD hS rfl dX9_isTrue_23
def f_X9_comesThere_50 (h : HS) (x1 : Int32) (x2 : Int32) : Option HS := (ob1 (f_X9_puts h x1 4 x2) (fun h_9 => (ob1 (f_X9_puts h_9 x1 7 ((eA h_9 0 0) 121)) (fun h_10 => (some h_10)))))
def f_X9_comesThere_49 (h : HS) (x1 : Int32) (y0 : Int32) : Option HS := (f_X9_comesThere_50 h x1 y0)
def f_X9_comesThere (h : HS) (p1 : Int32) : Option HS := (ob2 (f_X9_draw h) (fun r_1 h_1 => (ob2 (f_X9_marketOf h_1 0 p1) (fun r_2 h_2 => (if r_2 ≤ r_1 then (f_X9_comesThere_50 h_2 p1 2) else (ob2 (f_X9_ofGoose h_2 p1 2) (fun r_4 h_4 => (if r_4 = (-1) then (f_X9_comesThere_50 h_4 p1 3) else (ob2 (f_X9_draw h_4) (fun r_6 h_6 => (ob2 (f_X9_marketOf h_6 1 p1) (fun r_7 h_7 => (if r_7 ≤ r_6 then (f_X9_comesThere_49 h_7 p1 3) else (f_X9_comesThere_49 h_7 p1 4))))))))))))))
theorem e_X9_draw : yX9_draw.cls = RX9 ∧ yX9_draw.cls ≠ "java/lang/invoke/MethodHandle" ∧ yX9_draw.cls ≠ "java/lang/invoke/VarHandle" ∧ (parseMethodDescriptor yX9_draw.desc).map (fun d => d.parameters.length) = some 0 := by decide +kernel
theorem e_X9_marketOf : yX9_marketOf.cls = RX9 ∧ yX9_marketOf.cls ≠ "java/lang/invoke/MethodHandle" ∧ yX9_marketOf.cls ≠ "java/lang/invoke/VarHandle" ∧ (parseMethodDescriptor yX9_marketOf.desc).map (fun d => d.parameters.length) = some 2 := by decide +kernel
set_option maxHeartbeats 4000000 in
set_option maxRecDepth 100000 in
theorem c_X9_comesThere (l : Launch) (G : va_G) (cI cJ cZ cB cT : ClassId) (m0 : Nat) (r : Nat → Nat) (h : HS) (p1 : Int32) (hh : HS) (hF : f_X9_comesThere h p1 = some hh) : gMv l yX9_comesThere (gws yX9_comesThere cX9_comesThere 4 none) 6 G (gT cI cJ cZ cB cT) [.ref m0, .int p1] (wM m0 r cI cJ cZ cB cT h) (fun (_ : Unit) => True) (fun (_ : Unit) => (wM m0 r cI cJ cZ cB cT hh)) := by
  intro sz
  refine gM_start (y := yX9_comesThere) (av := [.ref m0, .int p1]) (ws := (wM m0 r cI cJ cZ cB cT h)) (Qf := fun A => va_Qv (fun (_ : Unit) => True) (gB G (fun (_ : Unit) => (wM m0 r cI cJ cZ cB cT hh)) A) A) (cc := cX9_comesThere) (maxL := 4) (ret := none) (by decide) (Nat.le_of_ble_eq_true rfl) ?_
  intro p e s m args below meth c A ls H hx hb hr hts hown hin hlocks hml hP hK hD hA hS hl hE
  have hl : lv_has ls 4 [(0, .ref m0), (1, .int p1)] := hl
  have hJ_50 : ∀ (h : HS) (x1 : Int32) (x2 : Int32), f_X9_comesThere_50 h x1 x2 = some hh → ∀ (H : Heap) (locs : List Loc) (ls : Array Slot), va_P G vwCl (wM m0 r cI cJ cZ cB cT h) H → va_D A (wM m0 r cI cJ cZ cB cT h) → va_S A s.heap H locs → lv_has ls 4 [(0, .ref m0), (1, .int x1), (2, .int x2)] → W p l e (gRm 6) s m args below meth c H locs 0 0 (MQ below (va_Qv (fun (_ : Unit) => True) (gB G (fun (_ : Unit) => (wM m0 r cI cJ cZ cB cT hh)) A) A) args s 0 0 A) (F0 m 50 ls []) := by
    intro h x1 x2 hF H locs ls hP hD hS hl
    unfold f_X9_comesThere_50 at hF
    refine lv_aload_n hx hb dX9_comesThere_50 rfl (lv_at hl 0 rfl) ?_
    refine lv_iload_n hx hb dX9_comesThere_51 rfl (lv_at hl 1 rfl) ?_
    refine lv_iconst (v := 4) hx hb dX9_comesThere_52 (by decide) ?_
    refine lv_iload_n hx hb dX9_comesThere_53 rfl (lv_at hl 2 rfl) ?_
    obtain ⟨h_9, e_9, hF⟩ := ob1_some hF
    refine gx_callv (gx_runV (As := [.int x1, .int 4, .int x2]) (rest := []) ⟨hx, hb, hml, hown, hts⟩ (c_X9_puts l G cI cJ cZ cB cT m0 r h x1 4 x2 h_9 e_9 H.size) (gG_V m_293 m_294 m_295 m_64 m_292) rfl e_X9_puts ⟨Nat.le_of_ble_eq_true rfl, Nat.le_of_ble_eq_true rfl⟩ hK hP hD hE hS hA 0 wM_at0 rfl rfl hl.1 rfl (Nat.le_of_ble_eq_true rfl) dX9_comesThere_54 ⟨Nat.le_refl _, Nat.le_refl _⟩) hP hD hS hA (fun u_9 H locs hw_9 hP hD hS => ?_)
    refine lv_aload_n hx hb dX9_comesThere_57 rfl (lv_at hl 0 rfl) ?_
    refine lv_iload_n hx hb dX9_comesThere_58 rfl (lv_at hl 1 rfl) ?_
    refine lv_bipush (v := 7) hx hb dX9_comesThere_59 (by decide) ?_
    refine lv_aload_n hx hb dX9_comesThere_61 rfl (lv_at hl 0 rfl) ?_
    refine va_get (D := G) (ci := 9) (v := .ref (r 0)) (C := RX9) (T := TX9) (N := 53) hx hb hts iX9 hown hK hP 0 wM_at0 rfl 0 (by decide) (hts _ m_92) (fun _ h9 => h9) rfl dX9_comesThere_62 ?_
    refine lv_bipush (v := 121) hx hb dX9_comesThere_65 (by decide) ?_
    refine va_iald (D := G) hx hb hK hP 1 0 wM_at1 rfl (vp_in_nI (n := 121) (by decide) (by decide)) dX9_comesThere_67 ?_
    refine gw_topi (y := ((eA h_9 0 0) 121)) rfl ?_
    obtain ⟨h_10, e_10, hF⟩ := ob1_some hF
    refine gx_callv (gx_runV (As := [.int x1, .int 7, .int ((eA h_9 0 0) 121)]) (rest := []) ⟨hx, hb, hml, hown, hts⟩ (c_X9_puts l G cI cJ cZ cB cT m0 r h_9 x1 7 ((eA h_9 0 0) 121) h_10 e_10 H.size) (gG_V m_293 m_294 m_295 m_64 m_292) rfl e_X9_puts ⟨Nat.le_of_ble_eq_true rfl, Nat.le_of_ble_eq_true rfl⟩ hK hP hD hE hS hA 0 wM_at0 rfl rfl hl.1 rfl (Nat.le_of_ble_eq_true rfl) dX9_comesThere_68 ⟨Nat.le_refl _, Nat.le_refl _⟩) hP hD hS hA (fun u_10 H locs hw_10 hP hD hS => ?_)
    obtain rfl := ob_one hF
    exact gw_vret () hx hb hr hlocks hP hD hS trivial dX9_comesThere_71
  have hJ_49 : ∀ (h : HS) (x1 : Int32) (y0 : Int32), f_X9_comesThere_49 h x1 y0 = some hh → ∀ (H : Heap) (locs : List Loc) (ls : Array Slot), va_P G vwCl (wM m0 r cI cJ cZ cB cT h) H → va_D A (wM m0 r cI cJ cZ cB cT h) → va_S A s.heap H locs → lv_has ls 4 [(0, .ref m0), (1, .int x1)] → W p l e (gRm 6) s m args below meth c H locs 0 0 (MQ below (va_Qv (fun (_ : Unit) => True) (gB G (fun (_ : Unit) => (wM m0 r cI cJ cZ cB cT hh)) A) A) args s 0 0 A) (F0 m 49 ls [.int y0]) := by
    intro h x1 y0 hF H locs ls hP hD hS hl
    unfold f_X9_comesThere_49 at hF
    refine lv_istore_n (lv' := [(2, .int y0), (0, .ref m0), (1, .int x1)]) hx hb dX9_comesThere_49 rfl hl (by decide) rfl (fun ls hl => ?_)
    exact hJ_50 h x1 y0 hF H _ ls hP hD hS (lv_sub hl [1, 2, 0] rfl)
  unfold f_X9_comesThere at hF
  refine lv_iconst (v := 2) hx hb dX9_comesThere_0 (by decide) ?_
  refine lv_istore_n (lv' := [(2, .int 2), (0, .ref m0), (1, .int p1)]) hx hb dX9_comesThere_1 rfl hl (by decide) rfl (fun ls hl => ?_)
  refine lv_aload_n hx hb dX9_comesThere_2 rfl (lv_at hl 1 rfl) ?_
  obtain ⟨r_1, h_1, e_1, hF⟩ := ob2_some hF
  refine gx_calli (gx_runV (As := []) (rest := []) ⟨hx, hb, hml, hown, hts⟩ (c_X9_draw l G cI cJ cZ cB cT m0 r h  r_1 h_1 e_1 H.size) (gG_V m_305 m_306 m_307 m_64 m_304) rfl e_X9_draw ⟨Nat.le_of_ble_eq_true rfl, Nat.le_of_ble_eq_true rfl⟩ hK hP hD hE hS hA 0 wM_at0 rfl rfl hl.1 rfl (Nat.le_of_ble_eq_true rfl) dX9_comesThere_3 ⟨Nat.le_refl _, Nat.le_refl _⟩) hP hD hS hA (fun x_1 u_1 H locs hw_1 hP hD hS => ?_)
  subst x_1
  refine lv_istore_n (lv' := [(3, .int r_1), (2, .int 2), (0, .ref m0), (1, .int p1)]) hx hb dX9_comesThere_6 rfl hl (by decide) rfl (fun ls hl => ?_)
  refine lv_iload_n hx hb dX9_comesThere_7 rfl (lv_at hl 0 rfl) ?_
  refine lv_aload_n hx hb dX9_comesThere_8 rfl (lv_at hl 2 rfl) ?_
  refine lv_iconst (v := 0) hx hb dX9_comesThere_9 (by decide) ?_
  refine lv_iload_n hx hb dX9_comesThere_10 rfl (lv_at hl 3 rfl) ?_
  obtain ⟨r_2, h_2, e_2, hF⟩ := ob2_some hF
  refine gx_calli (gx_runV (As := [.int 0, .int p1]) (rest := [.int r_1]) ⟨hx, hb, hml, hown, hts⟩ (c_X9_marketOf l G cI cJ cZ cB cT m0 r h_1 0 p1 r_2 h_2 e_2 H.size) (gG_V m_309 m_310 m_311 m_64 m_308) rfl e_X9_marketOf ⟨Nat.le_of_ble_eq_true rfl, Nat.le_of_ble_eq_true rfl⟩ hK hP hD hE hS hA 0 wM_at0 rfl rfl hl.1 rfl (Nat.le_of_ble_eq_true rfl) dX9_comesThere_11 ⟨Nat.le_refl _, Nat.le_refl _⟩) hP hD hS hA (fun x_2 u_2 H locs hw_2 hP hD hS => ?_)
  subst x_2
  refine lv_icmp_ge (tgt := 50) hx hb dX9_comesThere_14 (by decide) (fun c_3 => ?_) (fun c_3 => ?_)
  · have hF := ob_pos c_3 hF
    exact hJ_50 h_2 p1 2 hF H _ ls hP hD hS (lv_sub hl [2, 3, 1] rfl)
  · have hF := ob_neg c_3 hF
    refine lv_iconst (v := 3) hx hb dX9_comesThere_17 (by decide) ?_
    refine lv_istore_n (lv' := [(2, .int 3), (3, .int r_1), (0, .ref m0), (1, .int p1)]) hx hb dX9_comesThere_18 rfl hl (by decide) rfl (fun ls hl => ?_)
    refine lv_aload_n hx hb dX9_comesThere_19 rfl (lv_at hl 2 rfl) ?_
    refine lv_iload_n hx hb dX9_comesThere_20 rfl (lv_at hl 3 rfl) ?_
    refine lv_iconst (v := 2) hx hb dX9_comesThere_21 (by decide) ?_
    obtain ⟨r_4, h_4, e_4, hF⟩ := ob2_some hF
    refine gx_calli (gx_runV (As := [.int p1, .int 2]) (rest := []) ⟨hx, hb, hml, hown, hts⟩ (c_X9_ofGoose l G cI cJ cZ cB cT m0 r h_2 p1 2 r_4 h_4 e_4 H.size) (gG_V m_103 m_104 m_105 m_64 m_102) rfl e_X9_ofGoose ⟨Nat.le_of_ble_eq_true rfl, Nat.le_of_ble_eq_true rfl⟩ hK hP hD hE hS hA 0 wM_at0 rfl rfl hl.1 rfl (Nat.le_of_ble_eq_true rfl) dX9_comesThere_22 ⟨Nat.le_refl _, Nat.le_refl _⟩) hP hD hS hA (fun x_4 u_4 H locs hw_4 hP hD hS => ?_)
    subst x_4
    refine lv_iconst (v := (-1)) hx hb dX9_comesThere_25 (by decide) ?_
    refine lv_icmp_eq (tgt := 50) hx hb dX9_comesThere_26 (by decide) (fun c_5 => ?_) (fun c_5 => ?_)
    · have hF := ob_pos c_5 hF
      exact hJ_50 h_4 p1 3 hF H _ ls hP hD hS (lv_sub hl [2, 3, 0] rfl)
    · have hF := ob_neg c_5 hF
      refine lv_aload_n hx hb dX9_comesThere_29 rfl (lv_at hl 2 rfl) ?_
      obtain ⟨r_6, h_6, e_6, hF⟩ := ob2_some hF
      refine gx_calli (gx_runV (As := []) (rest := []) ⟨hx, hb, hml, hown, hts⟩ (c_X9_draw l G cI cJ cZ cB cT m0 r h_4  r_6 h_6 e_6 H.size) (gG_V m_305 m_306 m_307 m_64 m_304) rfl e_X9_draw ⟨Nat.le_of_ble_eq_true rfl, Nat.le_of_ble_eq_true rfl⟩ hK hP hD hE hS hA 0 wM_at0 rfl rfl hl.1 rfl (Nat.le_of_ble_eq_true rfl) dX9_comesThere_30 ⟨Nat.le_refl _, Nat.le_refl _⟩) hP hD hS hA (fun x_6 u_6 H locs hw_6 hP hD hS => ?_)
      subst x_6
      refine lv_istore_n (lv' := [(3, .int r_6), (2, .int 3), (0, .ref m0), (1, .int p1)]) hx hb dX9_comesThere_33 rfl hl (by decide) rfl (fun ls hl => ?_)
      refine lv_iload_n hx hb dX9_comesThere_34 rfl (lv_at hl 0 rfl) ?_
      refine lv_aload_n hx hb dX9_comesThere_35 rfl (lv_at hl 2 rfl) ?_
      refine lv_iconst (v := 1) hx hb dX9_comesThere_36 (by decide) ?_
      refine lv_iload_n hx hb dX9_comesThere_37 rfl (lv_at hl 3 rfl) ?_
      obtain ⟨r_7, h_7, e_7, hF⟩ := ob2_some hF
      refine gx_calli (gx_runV (As := [.int 1, .int p1]) (rest := [.int r_6]) ⟨hx, hb, hml, hown, hts⟩ (c_X9_marketOf l G cI cJ cZ cB cT m0 r h_6 1 p1 r_7 h_7 e_7 H.size) (gG_V m_309 m_310 m_311 m_64 m_308) rfl e_X9_marketOf ⟨Nat.le_of_ble_eq_true rfl, Nat.le_of_ble_eq_true rfl⟩ hK hP hD hE hS hA 0 wM_at0 rfl rfl hl.1 rfl (Nat.le_of_ble_eq_true rfl) dX9_comesThere_38 ⟨Nat.le_refl _, Nat.le_refl _⟩) hP hD hS hA (fun x_7 u_7 H locs hw_7 hP hD hS => ?_)
      subst x_7
      refine lv_icmp_ge (tgt := 48) hx hb dX9_comesThere_41 (by decide) (fun c_8 => ?_) (fun c_8 => ?_)
      · have hF := ob_pos c_8 hF
        refine lv_iconst (v := 3) hx hb dX9_comesThere_48 (by decide) ?_
        exact hJ_49 h_7 p1 3 hF H _ ls hP hD hS (lv_sub hl [2, 3] rfl)
      · have hF := ob_neg c_8 hF
        refine lv_iconst (v := 4) hx hb dX9_comesThere_44 (by decide) ?_
        refine lv_goto (tgt := 49) hx hb dX9_comesThere_45 (by decide) ?_
        exact hJ_49 h_7 p1 4 hF H _ ls hP hD hS (lv_sub hl [2, 3] rfl)
def f_X9_hungers_132 (h : HS) : Option HS := (some h)
def f_X9_hungers_100 (h : HS) (x2 : Int32) (y0 : Int32) (y1 : Int32) : Option HS := (if 0 ≤ (y1).toInt ∧ (y1).toInt < 1990 then (if ((upd (eA h 0 0) ((y1).toNatClampNeg) y0) 1) ≤ x2 then (f_X9_hungers_132 (sA h 0 0 (upd (eA h 0 0) ((y1).toNatClampNeg) y0))) else (ob1 (f_X9_puts (sA h 0 0 (upd (eA h 0 0) ((y1).toNatClampNeg) y0)) x2 4 5) (fun h_12 => (ob1 (f_X9_puts h_12 x2 7 ((eA h_12 0 0) 121)) (fun h_13 => (f_X9_hungers_132 h_13)))))) else none)
def f_X9_hungers_74 (h : HS) (x2 : Int32) : Option HS := (if ((eA h 0 0) 1) ≤ x2 then (f_X9_hungers_100 h x2 0 120) else (ob2 (f_X9_ofGoose h x2 0) (fun r_9 h_9 => (f_X9_hungers_100 h_9 x2 r_9 120))))
def f_X9_hungers_68 (k38 : HS → Int32 → Option HS) (h : HS) (x2 : Int32) : Option HS := (k38 h (x2 + 1))
def f_X9_hungers_38 : Nat → HS → Int32 → Option HS
  | 0, _, _ => none
  | n + 1, h, x2 => (if ((eA h 0 0) 1) ≤ x2 then (f_X9_hungers_74 h x2) else (ob2 (f_X9_ofGoose h x2 4) (fun r_4 h_4 => (if r_4 = 0 then (ob2 (f_X9_ofGoose h_4 x2 8) (fun r_6 h_6 => (if r_6 = 1 then (f_X9_hungers_68 (f_X9_hungers_38 n) h_6 x2) else (f_X9_hungers_74 h_6 x2)))) else (f_X9_hungers_68 (f_X9_hungers_38 n) h_4 x2)))))
theorem f_X9_hungers_38_s (n : Nat) (h : HS) (x2 : Int32) : f_X9_hungers_38 (n + 1) h x2 = (if ((eA h 0 0) 1) ≤ x2 then (f_X9_hungers_74 h x2) else (ob2 (f_X9_ofGoose h x2 4) (fun r_4 h_4 => (if r_4 = 0 then (ob2 (f_X9_ofGoose h_4 x2 8) (fun r_6 h_6 => (if r_6 = 1 then (f_X9_hungers_68 (f_X9_hungers_38 n) h_6 x2) else (f_X9_hungers_74 h_6 x2)))) else (f_X9_hungers_68 (f_X9_hungers_38 n) h_4 x2))))) := rfl
def f_X9_hungers (h : HS) : Option HS := (ob2 (f_X9_geeseOf h 0) (fun r_1 h_1 => (if ((eA h_1 0 0) 120) < (((eA h 0 0) 2) + r_1) then (f_X9_hungers_38 8589934592 h_1 0) else (some (sA h_1 0 0 (upd (eA h_1 0 0) 120 (((eA h_1 0 0) 120) - (((eA h 0 0) 2) + r_1))))))))
set_option maxHeartbeats 4000000 in
set_option maxRecDepth 100000 in
theorem c_X9_hungers (l : Launch) (G : va_G) (cI cJ cZ cB cT : ClassId) (m0 : Nat) (r : Nat → Nat) (h : HS)  (hh : HS) (hF : f_X9_hungers h = some hh) : gMv l yX9_hungers (gws yX9_hungers cX9_hungers 3 none) 3 G (gT cI cJ cZ cB cT) [.ref m0] (wM m0 r cI cJ cZ cB cT h) (fun (_ : Unit) => True) (fun (_ : Unit) => (wM m0 r cI cJ cZ cB cT hh)) := by
  intro sz
  refine gM_start (y := yX9_hungers) (av := [.ref m0]) (ws := (wM m0 r cI cJ cZ cB cT h)) (Qf := fun A => va_Qv (fun (_ : Unit) => True) (gB G (fun (_ : Unit) => (wM m0 r cI cJ cZ cB cT hh)) A) A) (cc := cX9_hungers) (maxL := 3) (ret := none) (by decide) (Nat.le_of_ble_eq_true rfl) ?_
  intro p e s m args below meth c A ls H hx hb hr hts hown hin hlocks hml hP hK hD hA hS hl hE
  have hl : lv_has ls 3 [(0, .ref m0)] := hl
  have hJ_132 : ∀ (h : HS), f_X9_hungers_132 h = some hh → ∀ (H : Heap) (locs : List Loc) (ls : Array Slot), va_P G vwCl (wM m0 r cI cJ cZ cB cT h) H → va_D A (wM m0 r cI cJ cZ cB cT h) → va_S A s.heap H locs → lv_has ls 3 [] → W p l e (gRm 3) s m args below meth c H locs 0 0 (MQ below (va_Qv (fun (_ : Unit) => True) (gB G (fun (_ : Unit) => (wM m0 r cI cJ cZ cB cT hh)) A) A) args s 0 0 A) (F0 m 132 ls []) := by
    intro h hF H locs ls hP hD hS hl
    unfold f_X9_hungers_132 at hF
    obtain rfl := ob_one hF
    exact gw_vret () hx hb hr hlocks hP hD hS trivial dX9_hungers_132
  have hJ_100 : ∀ (h : HS) (x2 : Int32) (y0 : Int32) (y1 : Int32), f_X9_hungers_100 h x2 y0 y1 = some hh → ∀ (H : Heap) (locs : List Loc) (ls : Array Slot), va_P G vwCl (wM m0 r cI cJ cZ cB cT h) H → va_D A (wM m0 r cI cJ cZ cB cT h) → va_S A s.heap H locs → lv_has ls 3 [(0, .ref m0), (2, .int x2)] → W p l e (gRm 3) s m args below meth c H locs 0 0 (MQ below (va_Qv (fun (_ : Unit) => True) (gB G (fun (_ : Unit) => (wM m0 r cI cJ cZ cB cT hh)) A) A) args s 0 0 A) (F0 m 100 ls [.int y0, .int y1, .ref (r 0)]) := by
    intro h x2 y0 y1 hF H locs ls hP hD hS hl
    unfold f_X9_hungers_100 at hF
    obtain ⟨hi_10, hF⟩ := ob_if hF
    refine va_iast (D := G) hx hb hK hP hD hS 1 0 wM_at1 rfl (vp_in_iff.mpr hi_10) dX9_hungers_100 (fun H locs hP hD hS => ?_)
    rw [wM_sA1] at hP hD
    have hP : va_P G vwCl (wM m0 r cI cJ cZ cB cT (sA h 0 0 (upd (eA h 0 0) ((y1).toNatClampNeg) y0))) H := hP
    have hD : va_D A (wM m0 r cI cJ cZ cB cT (sA h 0 0 (upd (eA h 0 0) ((y1).toNatClampNeg) y0))) := hD
    refine lv_iload_n hx hb dX9_hungers_101 rfl (lv_at hl 1 rfl) ?_
    refine lv_aload_n hx hb dX9_hungers_102 rfl (lv_at hl 0 rfl) ?_
    refine va_get (D := G) (ci := 9) (v := .ref (r 0)) (C := RX9) (T := TX9) (N := 53) hx hb hts iX9 hown hK hP 0 wM_at0 rfl 0 (by decide) (hts _ m_92) (fun _ h9 => h9) rfl dX9_hungers_103 ?_
    refine lv_iconst (v := 1) hx hb dX9_hungers_106 (by decide) ?_
    refine va_iald (D := G) hx hb hK hP 1 0 wM_at1 rfl (vp_in_nI (n := 1) (by decide) (by decide)) dX9_hungers_107 ?_
    refine gw_topi (y := ((upd (eA h 0 0) ((y1).toNatClampNeg) y0) 1)) rfl ?_
    refine lv_icmp_ge (tgt := 132) hx hb dX9_hungers_108 (by decide) (fun c_11 => ?_) (fun c_11 => ?_)
    · have hF := ob_pos c_11 hF
      exact hJ_132 (sA h 0 0 (upd (eA h 0 0) ((y1).toNatClampNeg) y0)) hF H _ ls hP hD hS (lv_sub hl [] rfl)
    · have hF := ob_neg c_11 hF
      refine lv_aload_n hx hb dX9_hungers_111 rfl (lv_at hl 0 rfl) ?_
      refine lv_iload_n hx hb dX9_hungers_112 rfl (lv_at hl 1 rfl) ?_
      refine lv_iconst (v := 4) hx hb dX9_hungers_113 (by decide) ?_
      refine lv_iconst (v := 5) hx hb dX9_hungers_114 (by decide) ?_
      obtain ⟨h_12, e_12, hF⟩ := ob1_some hF
      refine gx_callv (gx_runV (As := [.int x2, .int 4, .int 5]) (rest := []) ⟨hx, hb, hml, hown, hts⟩ (c_X9_puts l G cI cJ cZ cB cT m0 r (sA h 0 0 (upd (eA h 0 0) ((y1).toNatClampNeg) y0)) x2 4 5 h_12 e_12 H.size) (gG_V m_293 m_294 m_295 m_64 m_292) rfl e_X9_puts ⟨Nat.le_of_ble_eq_true rfl, Nat.le_of_ble_eq_true rfl⟩ hK hP hD hE hS hA 0 wM_at0 rfl rfl hl.1 rfl (Nat.le_of_ble_eq_true rfl) dX9_hungers_115 ⟨Nat.le_refl _, Nat.le_refl _⟩) hP hD hS hA (fun u_12 H locs hw_12 hP hD hS => ?_)
      refine lv_aload_n hx hb dX9_hungers_118 rfl (lv_at hl 0 rfl) ?_
      refine lv_iload_n hx hb dX9_hungers_119 rfl (lv_at hl 1 rfl) ?_
      refine lv_bipush (v := 7) hx hb dX9_hungers_120 (by decide) ?_
      refine lv_aload_n hx hb dX9_hungers_122 rfl (lv_at hl 0 rfl) ?_
      refine va_get (D := G) (ci := 9) (v := .ref (r 0)) (C := RX9) (T := TX9) (N := 53) hx hb hts iX9 hown hK hP 0 wM_at0 rfl 0 (by decide) (hts _ m_92) (fun _ h9 => h9) rfl dX9_hungers_123 ?_
      refine lv_bipush (v := 121) hx hb dX9_hungers_126 (by decide) ?_
      refine va_iald (D := G) hx hb hK hP 1 0 wM_at1 rfl (vp_in_nI (n := 121) (by decide) (by decide)) dX9_hungers_128 ?_
      refine gw_topi (y := ((eA h_12 0 0) 121)) rfl ?_
      obtain ⟨h_13, e_13, hF⟩ := ob1_some hF
      refine gx_callv (gx_runV (As := [.int x2, .int 7, .int ((eA h_12 0 0) 121)]) (rest := []) ⟨hx, hb, hml, hown, hts⟩ (c_X9_puts l G cI cJ cZ cB cT m0 r h_12 x2 7 ((eA h_12 0 0) 121) h_13 e_13 H.size) (gG_V m_293 m_294 m_295 m_64 m_292) rfl e_X9_puts ⟨Nat.le_of_ble_eq_true rfl, Nat.le_of_ble_eq_true rfl⟩ hK hP hD hE hS hA 0 wM_at0 rfl rfl hl.1 rfl (Nat.le_of_ble_eq_true rfl) dX9_hungers_129 ⟨Nat.le_refl _, Nat.le_refl _⟩) hP hD hS hA (fun u_13 H locs hw_13 hP hD hS => ?_)
      exact hJ_132 h_13 hF H _ ls hP hD hS (lv_sub hl [] rfl)
  have hJ_74 : ∀ (h : HS) (x2 : Int32), f_X9_hungers_74 h x2 = some hh → ∀ (H : Heap) (locs : List Loc) (ls : Array Slot), va_P G vwCl (wM m0 r cI cJ cZ cB cT h) H → va_D A (wM m0 r cI cJ cZ cB cT h) → va_S A s.heap H locs → lv_has ls 3 [(0, .ref m0), (2, .int x2)] → W p l e (gRm 3) s m args below meth c H locs 0 0 (MQ below (va_Qv (fun (_ : Unit) => True) (gB G (fun (_ : Unit) => (wM m0 r cI cJ cZ cB cT hh)) A) A) args s 0 0 A) (F0 m 74 ls []) := by
    intro h x2 hF H locs ls hP hD hS hl
    unfold f_X9_hungers_74 at hF
    refine lv_aload_n hx hb dX9_hungers_74 rfl (lv_at hl 0 rfl) ?_
    refine va_get (D := G) (ci := 9) (v := .ref (r 0)) (C := RX9) (T := TX9) (N := 53) hx hb hts iX9 hown hK hP 0 wM_at0 rfl 0 (by decide) (hts _ m_92) (fun _ h9 => h9) rfl dX9_hungers_75 ?_
    refine lv_bipush (v := 120) hx hb dX9_hungers_78 (by decide) ?_
    refine lv_iload_n hx hb dX9_hungers_80 rfl (lv_at hl 1 rfl) ?_
    refine lv_aload_n hx hb dX9_hungers_81 rfl (lv_at hl 0 rfl) ?_
    refine va_get (D := G) (ci := 9) (v := .ref (r 0)) (C := RX9) (T := TX9) (N := 53) hx hb hts iX9 hown hK hP 0 wM_at0 rfl 0 (by decide) (hts _ m_92) (fun _ h9 => h9) rfl dX9_hungers_82 ?_
    refine lv_iconst (v := 1) hx hb dX9_hungers_85 (by decide) ?_
    refine va_iald (D := G) hx hb hK hP 1 0 wM_at1 rfl (vp_in_nI (n := 1) (by decide) (by decide)) dX9_hungers_86 ?_
    refine gw_topi (y := ((eA h 0 0) 1)) rfl ?_
    refine lv_icmp_ge (tgt := 99) hx hb dX9_hungers_87 (by decide) (fun c_8 => ?_) (fun c_8 => ?_)
    · have hF := ob_pos c_8 hF
      refine lv_iconst (v := 0) hx hb dX9_hungers_99 (by decide) ?_
      exact hJ_100 h x2 0 120 hF H _ ls hP hD hS (lv_sub hl [0, 1] rfl)
    · have hF := ob_neg c_8 hF
      refine lv_aload_n hx hb dX9_hungers_90 rfl (lv_at hl 0 rfl) ?_
      refine lv_iload_n hx hb dX9_hungers_91 rfl (lv_at hl 1 rfl) ?_
      refine lv_iconst (v := 0) hx hb dX9_hungers_92 (by decide) ?_
      obtain ⟨r_9, h_9, e_9, hF⟩ := ob2_some hF
      refine gx_calli (gx_runV (As := [.int x2, .int 0]) (rest := [.int 120, .ref (r 0)]) ⟨hx, hb, hml, hown, hts⟩ (c_X9_ofGoose l G cI cJ cZ cB cT m0 r h x2 0 r_9 h_9 e_9 H.size) (gG_V m_103 m_104 m_105 m_64 m_102) rfl e_X9_ofGoose ⟨Nat.le_of_ble_eq_true rfl, Nat.le_of_ble_eq_true rfl⟩ hK hP hD hE hS hA 0 wM_at0 rfl rfl hl.1 rfl (Nat.le_of_ble_eq_true rfl) dX9_hungers_93 ⟨Nat.le_refl _, Nat.le_refl _⟩) hP hD hS hA (fun x_9 u_9 H locs hw_9 hP hD hS => ?_)
      subst x_9
      refine lv_goto (tgt := 100) hx hb dX9_hungers_96 (by decide) ?_
      exact hJ_100 h_9 x2 r_9 120 hF H _ ls hP hD hS (lv_sub hl [0, 1] rfl)
  have hJ_38 : ∀ (n_38 : Nat) (h : HS) (x2 : Int32), f_X9_hungers_38 n_38 h x2 = some hh → ∀ (H : Heap) (locs : List Loc) (ls : Array Slot), va_P G vwCl (wM m0 r cI cJ cZ cB cT h) H → va_D A (wM m0 r cI cJ cZ cB cT h) → va_S A s.heap H locs → lv_has ls 3 [(0, .ref m0), (2, .int x2)] → W p l e (gRm 3) s m args below meth c H locs 0 0 (MQ below (va_Qv (fun (_ : Unit) => True) (gB G (fun (_ : Unit) => (wM m0 r cI cJ cZ cB cT hh)) A) A) args s 0 0 A) (F0 m 38 ls []) := by
    intro n_38
    induction n_38 with
    | zero =>
      intro h x2 hF
      exact absurd hF (by simp [f_X9_hungers_38])
    | succ n_38 ih_38 =>
      have hJ_68 : ∀ (h : HS) (x2 : Int32), f_X9_hungers_68 (f_X9_hungers_38 n_38) h x2 = some hh → ∀ (H : Heap) (locs : List Loc) (ls : Array Slot), va_P G vwCl (wM m0 r cI cJ cZ cB cT h) H → va_D A (wM m0 r cI cJ cZ cB cT h) → va_S A s.heap H locs → lv_has ls 3 [(0, .ref m0), (2, .int x2)] → W p l e (gRm 3) s m args below meth c H locs 0 0 (MQ below (va_Qv (fun (_ : Unit) => True) (gB G (fun (_ : Unit) => (wM m0 r cI cJ cZ cB cT hh)) A) A) args s 0 0 A) (F0 m 68 ls []) := by
        intro h x2 hF H locs ls hP hD hS hl
        unfold f_X9_hungers_68 at hF
        refine lv_iinc (v := (x2 + 1)) (lv' := [(2, .int (x2 + 1)), (0, .ref m0)]) hx hb dX9_hungers_68 hl (k := 1) rfl rfl (by decide) rfl (fun ls hl => ?_)
        refine lv_goto (tgt := 38) hx hb dX9_hungers_71 (by decide) ?_
        exact ih_38 h (x2 + 1) hF H _ ls hP hD hS (lv_sub hl [1, 0] rfl)
      intro h x2 hF H locs ls hP hD hS hl
      rw [f_X9_hungers_38_s] at hF
      refine lv_iload_n hx hb dX9_hungers_38 rfl (lv_at hl 1 rfl) ?_
      refine lv_aload_n hx hb dX9_hungers_39 rfl (lv_at hl 0 rfl) ?_
      refine va_get (D := G) (ci := 9) (v := .ref (r 0)) (C := RX9) (T := TX9) (N := 53) hx hb hts iX9 hown hK hP 0 wM_at0 rfl 0 (by decide) (hts _ m_92) (fun _ h9 => h9) rfl dX9_hungers_40 ?_
      refine lv_iconst (v := 1) hx hb dX9_hungers_43 (by decide) ?_
      refine va_iald (D := G) hx hb hK hP 1 0 wM_at1 rfl (vp_in_nI (n := 1) (by decide) (by decide)) dX9_hungers_44 ?_
      refine gw_topi (y := ((eA h 0 0) 1)) rfl ?_
      refine lv_icmp_ge (tgt := 74) hx hb dX9_hungers_45 (by decide) (fun c_3 => ?_) (fun c_3 => ?_)
      · have hF := ob_pos c_3 hF
        exact hJ_74 h x2 hF H _ ls hP hD hS (lv_sub hl [0, 1] rfl)
      · have hF := ob_neg c_3 hF
        refine lv_aload_n hx hb dX9_hungers_48 rfl (lv_at hl 0 rfl) ?_
        refine lv_iload_n hx hb dX9_hungers_49 rfl (lv_at hl 1 rfl) ?_
        refine lv_iconst (v := 4) hx hb dX9_hungers_50 (by decide) ?_
        obtain ⟨r_4, h_4, e_4, hF⟩ := ob2_some hF
        refine gx_calli (gx_runV (As := [.int x2, .int 4]) (rest := []) ⟨hx, hb, hml, hown, hts⟩ (c_X9_ofGoose l G cI cJ cZ cB cT m0 r h x2 4 r_4 h_4 e_4 H.size) (gG_V m_103 m_104 m_105 m_64 m_102) rfl e_X9_ofGoose ⟨Nat.le_of_ble_eq_true rfl, Nat.le_of_ble_eq_true rfl⟩ hK hP hD hE hS hA 0 wM_at0 rfl rfl hl.1 rfl (Nat.le_of_ble_eq_true rfl) dX9_hungers_51 ⟨Nat.le_refl _, Nat.le_refl _⟩) hP hD hS hA (fun x_4 u_4 H locs hw_4 hP hD hS => ?_)
        subst x_4
        refine lv_if_ne (tgt := 68) hx hb dX9_hungers_54 (by decide) (fun c_5 => ?_) (fun c_5 => ?_)
        · have hF := ob_neg c_5 hF
          exact hJ_68 h_4 x2 hF H _ ls hP hD hS (lv_sub hl [0, 1] rfl)
        · have hF := ob_pos c_5 hF
          refine lv_aload_n hx hb dX9_hungers_57 rfl (lv_at hl 0 rfl) ?_
          refine lv_iload_n hx hb dX9_hungers_58 rfl (lv_at hl 1 rfl) ?_
          refine lv_bipush (v := 8) hx hb dX9_hungers_59 (by decide) ?_
          obtain ⟨r_6, h_6, e_6, hF⟩ := ob2_some hF
          refine gx_calli (gx_runV (As := [.int x2, .int 8]) (rest := []) ⟨hx, hb, hml, hown, hts⟩ (c_X9_ofGoose l G cI cJ cZ cB cT m0 r h_4 x2 8 r_6 h_6 e_6 H.size) (gG_V m_103 m_104 m_105 m_64 m_102) rfl e_X9_ofGoose ⟨Nat.le_of_ble_eq_true rfl, Nat.le_of_ble_eq_true rfl⟩ hK hP hD hE hS hA 0 wM_at0 rfl rfl hl.1 rfl (Nat.le_of_ble_eq_true rfl) dX9_hungers_61 ⟨Nat.le_refl _, Nat.le_refl _⟩) hP hD hS hA (fun x_6 u_6 H locs hw_6 hP hD hS => ?_)
          subst x_6
          refine lv_iconst (v := 1) hx hb dX9_hungers_64 (by decide) ?_
          refine lv_icmp_ne (tgt := 74) hx hb dX9_hungers_65 (by decide) (fun c_7 => ?_) (fun c_7 => ?_)
          · have hF := ob_neg c_7 hF
            exact hJ_74 h_6 x2 hF H _ ls hP hD hS (lv_sub hl [0, 1] rfl)
          · have hF := ob_pos c_7 hF
            exact hJ_68 h_6 x2 hF H _ ls hP hD hS (lv_sub hl [0, 1] rfl)
  unfold f_X9_hungers at hF
  refine lv_aload_n hx hb dX9_hungers_0 rfl (lv_at hl 0 rfl) ?_
  refine va_get (D := G) (ci := 9) (v := .ref (r 0)) (C := RX9) (T := TX9) (N := 53) hx hb hts iX9 hown hK hP 0 wM_at0 rfl 0 (by decide) (hts _ m_92) (fun _ h9 => h9) rfl dX9_hungers_1 ?_
  refine lv_iconst (v := 2) hx hb dX9_hungers_4 (by decide) ?_
  refine va_iald (D := G) hx hb hK hP 1 0 wM_at1 rfl (vp_in_nI (n := 2) (by decide) (by decide)) dX9_hungers_5 ?_
  refine gw_topi (y := ((eA h 0 0) 2)) rfl ?_
  refine lv_aload_n hx hb dX9_hungers_6 rfl (lv_at hl 0 rfl) ?_
  refine lv_iconst (v := 0) hx hb dX9_hungers_7 (by decide) ?_
  obtain ⟨r_1, h_1, e_1, hF⟩ := ob2_some hF
  refine gx_calli (gx_runV (As := [.int 0]) (rest := [.int ((eA h 0 0) 2)]) ⟨hx, hb, hml, hown, hts⟩ (c_X9_geeseOf l G cI cJ cZ cB cT m0 r h 0 r_1 h_1 e_1 H.size) (gG_V m_121 m_122 m_123 m_64 m_120) rfl e_X9_geeseOf ⟨Nat.le_of_ble_eq_true rfl, Nat.le_of_ble_eq_true rfl⟩ hK hP hD hE hS hA 0 wM_at0 rfl rfl hl.1 rfl (Nat.le_of_ble_eq_true rfl) dX9_hungers_8 ⟨Nat.le_refl _, Nat.le_refl _⟩) hP hD hS hA (fun x_1 u_1 H locs hw_1 hP hD hS => ?_)
  subst x_1
  refine lv_iadd hx hb dX9_hungers_11 ?_
  refine lv_istore_n (lv' := [(1, .int (((eA h 0 0) 2) + r_1)), (0, .ref m0)]) hx hb dX9_hungers_12 rfl hl (by decide) rfl (fun ls hl => ?_)
  refine lv_aload_n hx hb dX9_hungers_13 rfl (lv_at hl 1 rfl) ?_
  refine va_get (D := G) (ci := 9) (v := .ref (r 0)) (C := RX9) (T := TX9) (N := 53) hx hb hts iX9 hown hK hP 0 wM_at0 rfl 0 (by decide) (hts _ m_92) (fun _ h9 => h9) rfl dX9_hungers_14 ?_
  refine lv_bipush (v := 120) hx hb dX9_hungers_17 (by decide) ?_
  refine va_iald (D := G) hx hb hK hP 1 0 wM_at1 rfl (vp_in_nI (n := 120) (by decide) (by decide)) dX9_hungers_19 ?_
  refine gw_topi (y := ((eA h_1 0 0) 120)) rfl ?_
  refine lv_iload_n hx hb dX9_hungers_20 rfl (lv_at hl 0 rfl) ?_
  refine lv_icmp_lt (tgt := 36) hx hb dX9_hungers_21 (by decide) (fun c_2 => ?_) (fun c_2 => ?_)
  · have hF := ob_pos c_2 hF
    refine lv_iconst (v := 0) hx hb dX9_hungers_36 (by decide) ?_
    refine lv_istore_n (lv' := [(2, .int 0), (1, .int (((eA h 0 0) 2) + r_1)), (0, .ref m0)]) hx hb dX9_hungers_37 rfl hl (by decide) rfl (fun ls hl => ?_)
    exact hJ_38 8589934592 h_1 0 hF H _ ls hP hD hS (lv_sub hl [2, 0] rfl)
  · have hF := ob_neg c_2 hF
    refine lv_aload_n hx hb dX9_hungers_24 rfl (lv_at hl 1 rfl) ?_
    refine va_get (D := G) (ci := 9) (v := .ref (r 0)) (C := RX9) (T := TX9) (N := 53) hx hb hts iX9 hown hK hP 0 wM_at0 rfl 0 (by decide) (hts _ m_92) (fun _ h9 => h9) rfl dX9_hungers_25 ?_
    refine lv_bipush (v := 120) hx hb dX9_hungers_28 (by decide) ?_
    refine lv_dup2_11 hx hb dX9_hungers_30 rfl rfl ?_
    refine va_iald (D := G) hx hb hK hP 1 0 wM_at1 rfl (vp_in_nI (n := 120) (by decide) (by decide)) dX9_hungers_31 ?_
    refine gw_topi (y := ((eA h_1 0 0) 120)) rfl ?_
    refine lv_iload_n hx hb dX9_hungers_32 rfl (lv_at hl 0 rfl) ?_
    refine lv_isub hx hb dX9_hungers_33 ?_
    refine va_iast (D := G) hx hb hK hP hD hS 1 0 wM_at1 rfl (vp_in_nI (n := 120) (by decide) (by decide)) dX9_hungers_34 (fun H locs hP hD hS => ?_)
    rw [wM_sA1] at hP hD
    have hP : va_P G vwCl (wM m0 r cI cJ cZ cB cT (sA h_1 0 0 (upd (eA h_1 0 0) 120 (((eA h_1 0 0) 120) - (((eA h 0 0) 2) + r_1))))) H := hP
    have hD : va_D A (wM m0 r cI cJ cZ cB cT (sA h_1 0 0 (upd (eA h_1 0 0) 120 (((eA h_1 0 0) 120) - (((eA h 0 0) 2) + r_1))))) := hD
    obtain rfl := ob_one hF
    exact gw_vret () hx hb hr hlocks hP hD hS trivial dX9_hungers_35
def f_X9_pass_25 (h : HS) : Option (Int32 × HS) := (some ((-1), h))
def f_X9_pass_93 (k33 : HS → Int32 → Int32 → Option (Int32 × HS)) (k51 : HS → Int32 → Int32 → Int32 → Option (Int32 × HS)) (h : HS) (x1 : Int32) (x2 : Int32) (x3 : Int32) : Option (Int32 × HS) := (k51 h x1 x2 (x3 + 1))
def f_X9_pass_51 (k33 : HS → Int32 → Int32 → Option (Int32 × HS)) : Nat → HS → Int32 → Int32 → Int32 → Option (Int32 × HS)
  | 0, _, _, _, _ => none
  | n + 1, h, x1, x2, x3 => (if ((eA h 0 0) 1) ≤ x3 then (ob1 (f_X9_hungers h) (fun h_7 => (k33 h_7 x1 (x2 + 1)))) else (ob2 (f_X9_ofGoose h x3 4) (fun r_8 h_8 => (if r_8 = 1 then (ob2 (f_X9_ofGoose h_8 x3 6) (fun r_10 h_10 => (if r_10 = ((eA h_10 0 0) 121) then (ob1 (f_X9_comesThere h_10 x3) (fun h_12 => (f_X9_pass_93 k33 (f_X9_pass_51 k33 n) h_12 x1 x2 x3))) else (f_X9_pass_93 k33 (f_X9_pass_51 k33 n) h_10 x1 x2 x3)))) else (f_X9_pass_93 k33 (f_X9_pass_51 k33 n) h_8 x1 x2 x3)))))
theorem f_X9_pass_51_s (k33 : HS → Int32 → Int32 → Option (Int32 × HS)) (n : Nat) (h : HS) (x1 : Int32) (x2 : Int32) (x3 : Int32) : f_X9_pass_51 k33 (n + 1) h x1 x2 x3 = (if ((eA h 0 0) 1) ≤ x3 then (ob1 (f_X9_hungers h) (fun h_7 => (k33 h_7 x1 (x2 + 1)))) else (ob2 (f_X9_ofGoose h x3 4) (fun r_8 h_8 => (if r_8 = 1 then (ob2 (f_X9_ofGoose h_8 x3 6) (fun r_10 h_10 => (if r_10 = ((eA h_10 0 0) 121) then (ob1 (f_X9_comesThere h_10 x3) (fun h_12 => (f_X9_pass_93 k33 (f_X9_pass_51 k33 n) h_12 x1 x2 x3))) else (f_X9_pass_93 k33 (f_X9_pass_51 k33 n) h_10 x1 x2 x3)))) else (f_X9_pass_93 k33 (f_X9_pass_51 k33 n) h_8 x1 x2 x3))))) := rfl
def f_X9_pass_33 : Nat → HS → Int32 → Int32 → Option (Int32 × HS)
  | 0, _, _, _ => none
  | n + 1, h, x1, x2 => (if x1 ≤ x2 then (some (((eA h 0 0) 121), h)) else (f_X9_pass_51 (f_X9_pass_33 n) 8589934592 (sA h 0 0 (upd (eA h 0 0) 121 (((eA h 0 0) 121) + 1))) x1 x2 0))
theorem f_X9_pass_33_s (n : Nat) (h : HS) (x1 : Int32) (x2 : Int32) : f_X9_pass_33 (n + 1) h x1 x2 = (if x1 ≤ x2 then (some (((eA h 0 0) 121), h)) else (f_X9_pass_51 (f_X9_pass_33 n) 8589934592 (sA h 0 0 (upd (eA h 0 0) 121 (((eA h 0 0) 121) + 1))) x1 x2 0)) := rfl
def f_X9_pass (h : HS) (p1 : Int32) : Option (Int32 × HS) := (ob1 (f_X9_in p1 1 99) (fun r_1 => (if r_1 = 0 then (f_X9_pass_25 h) else (if (((eA h 0 0) 121) + p1) ≤ 999 then (ob1 (f_X9_keepsStep h) (fun h_4 => (f_X9_pass_33 8589934592 h_4 p1 0))) else (f_X9_pass_25 h)))))
theorem e_X9_comesThere : yX9_comesThere.cls = RX9 ∧ yX9_comesThere.cls ≠ "java/lang/invoke/MethodHandle" ∧ yX9_comesThere.cls ≠ "java/lang/invoke/VarHandle" ∧ (parseMethodDescriptor yX9_comesThere.desc).map (fun d => d.parameters.length) = some 1 := by decide +kernel
theorem e_X9_hungers : yX9_hungers.cls = RX9 ∧ yX9_hungers.cls ≠ "java/lang/invoke/MethodHandle" ∧ yX9_hungers.cls ≠ "java/lang/invoke/VarHandle" ∧ (parseMethodDescriptor yX9_hungers.desc).map (fun d => d.parameters.length) = some 0 := by decide +kernel
set_option maxHeartbeats 4000000 in
set_option maxRecDepth 100000 in
theorem c_X9_pass (l : Launch) (G : va_G) (cI cJ cZ cB cT : ClassId) (m0 : Nat) (r : Nat → Nat) (h : HS) (p1 : Int32) (rr : Int32) (hh : HS) (hF : f_X9_pass h p1 = some (rr, hh)) : gMi l yX9_pass (gws yX9_pass cX9_pass 4 (some .int)) 7 G (gT cI cJ cZ cB cT) [.ref m0, .int p1] (wM m0 r cI cJ cZ cB cT h) (fun x (_ : Unit) => x = rr) (fun (_ : Unit) => (wM m0 r cI cJ cZ cB cT hh)) := by
  intro sz
  refine gM_start (y := yX9_pass) (av := [.ref m0, .int p1]) (ws := (wM m0 r cI cJ cZ cB cT h)) (Qf := fun A => va_Qi (fun x (_ : Unit) => x = rr) (gB G (fun (_ : Unit) => (wM m0 r cI cJ cZ cB cT hh)) A) A) (cc := cX9_pass) (maxL := 4) (ret := (some .int)) (by decide) (Nat.le_of_ble_eq_true rfl) ?_
  intro p e s m args below meth c A ls H hx hb hr hts hown hin hlocks hml hP hK hD hA hS hl hE
  have hl : lv_has ls 4 [(0, .ref m0), (1, .int p1)] := hl
  have hJ_25 : ∀ (h : HS), f_X9_pass_25 h = some (rr, hh) → ∀ (H : Heap) (locs : List Loc) (ls : Array Slot), va_P G vwCl (wM m0 r cI cJ cZ cB cT h) H → va_D A (wM m0 r cI cJ cZ cB cT h) → va_S A s.heap H locs → lv_has ls 4 [] → W p l e (gRm 7) s m args below meth c H locs 0 0 (MQ below (va_Qi (fun x (_ : Unit) => x = rr) (gB G (fun (_ : Unit) => (wM m0 r cI cJ cZ cB cT hh)) A) A) args s 0 0 A) (F0 m 25 ls []) := by
    intro h hF H locs ls hP hD hS hl
    unfold f_X9_pass_25 at hF
    refine lv_iconst (v := (-1)) hx hb dX9_pass_25 (by decide) ?_
    obtain ⟨rfl, rfl⟩ := ob_pair hF
    exact gw_iret () hx hb hr hlocks hP hD hS rfl dX9_pass_26
  have hJ_33 : ∀ (n_33 : Nat) (h : HS) (x1 : Int32) (x2 : Int32), f_X9_pass_33 n_33 h x1 x2 = some (rr, hh) → ∀ (H : Heap) (locs : List Loc) (ls : Array Slot), va_P G vwCl (wM m0 r cI cJ cZ cB cT h) H → va_D A (wM m0 r cI cJ cZ cB cT h) → va_S A s.heap H locs → lv_has ls 4 [(0, .ref m0), (1, .int x1), (2, .int x2)] → W p l e (gRm 7) s m args below meth c H locs 0 0 (MQ below (va_Qi (fun x (_ : Unit) => x = rr) (gB G (fun (_ : Unit) => (wM m0 r cI cJ cZ cB cT hh)) A) A) args s 0 0 A) (F0 m 33 ls []) := by
    intro n_33
    induction n_33 with
    | zero =>
      intro h x1 x2 hF
      exact absurd hF (by simp [f_X9_pass_33])
    | succ n_33 ih_33 =>
      have hJ_51 : ∀ (n_51 : Nat) (h : HS) (x1 : Int32) (x2 : Int32) (x3 : Int32), f_X9_pass_51 (f_X9_pass_33 n_33) n_51 h x1 x2 x3 = some (rr, hh) → ∀ (H : Heap) (locs : List Loc) (ls : Array Slot), va_P G vwCl (wM m0 r cI cJ cZ cB cT h) H → va_D A (wM m0 r cI cJ cZ cB cT h) → va_S A s.heap H locs → lv_has ls 4 [(0, .ref m0), (1, .int x1), (2, .int x2), (3, .int x3)] → W p l e (gRm 7) s m args below meth c H locs 0 0 (MQ below (va_Qi (fun x (_ : Unit) => x = rr) (gB G (fun (_ : Unit) => (wM m0 r cI cJ cZ cB cT hh)) A) A) args s 0 0 A) (F0 m 51 ls []) := by
        intro n_51
        induction n_51 with
        | zero =>
          intro h x1 x2 x3 hF
          exact absurd hF (by simp [f_X9_pass_51])
        | succ n_51 ih_51 =>
          have hJ_93 : ∀ (h : HS) (x1 : Int32) (x2 : Int32) (x3 : Int32), f_X9_pass_93 (f_X9_pass_33 n_33) (f_X9_pass_51 (f_X9_pass_33 n_33) n_51) h x1 x2 x3 = some (rr, hh) → ∀ (H : Heap) (locs : List Loc) (ls : Array Slot), va_P G vwCl (wM m0 r cI cJ cZ cB cT h) H → va_D A (wM m0 r cI cJ cZ cB cT h) → va_S A s.heap H locs → lv_has ls 4 [(0, .ref m0), (1, .int x1), (2, .int x2), (3, .int x3)] → W p l e (gRm 7) s m args below meth c H locs 0 0 (MQ below (va_Qi (fun x (_ : Unit) => x = rr) (gB G (fun (_ : Unit) => (wM m0 r cI cJ cZ cB cT hh)) A) A) args s 0 0 A) (F0 m 93 ls []) := by
            intro h x1 x2 x3 hF H locs ls hP hD hS hl
            unfold f_X9_pass_93 at hF
            refine lv_iinc (v := (x3 + 1)) (lv' := [(3, .int (x3 + 1)), (0, .ref m0), (1, .int x1), (2, .int x2)]) hx hb dX9_pass_93 hl (k := 3) rfl rfl (by decide) rfl (fun ls hl => ?_)
            refine lv_goto (tgt := 51) hx hb dX9_pass_96 (by decide) ?_
            exact ih_51 h x1 x2 (x3 + 1) hF H _ ls hP hD hS (lv_sub hl [1, 2, 3, 0] rfl)
          intro h x1 x2 x3 hF H locs ls hP hD hS hl
          rw [f_X9_pass_51_s] at hF
          refine lv_iload_n hx hb dX9_pass_51 rfl (lv_at hl 3 rfl) ?_
          refine lv_aload_n hx hb dX9_pass_52 rfl (lv_at hl 0 rfl) ?_
          refine va_get (D := G) (ci := 9) (v := .ref (r 0)) (C := RX9) (T := TX9) (N := 53) hx hb hts iX9 hown hK hP 0 wM_at0 rfl 0 (by decide) (hts _ m_92) (fun _ h9 => h9) rfl dX9_pass_53 ?_
          refine lv_iconst (v := 1) hx hb dX9_pass_56 (by decide) ?_
          refine va_iald (D := G) hx hb hK hP 1 0 wM_at1 rfl (vp_in_nI (n := 1) (by decide) (by decide)) dX9_pass_57 ?_
          refine gw_topi (y := ((eA h 0 0) 1)) rfl ?_
          refine lv_icmp_ge (tgt := 99) hx hb dX9_pass_58 (by decide) (fun c_6 => ?_) (fun c_6 => ?_)
          · have hF := ob_pos c_6 hF
            refine lv_aload_n hx hb dX9_pass_99 rfl (lv_at hl 0 rfl) ?_
            obtain ⟨h_7, e_7, hF⟩ := ob1_some hF
            refine gx_callv (gx_runV (As := []) (rest := []) ⟨hx, hb, hml, hown, hts⟩ (c_X9_hungers l G cI cJ cZ cB cT m0 r h  h_7 e_7 H.size) (gG_V m_313 m_314 m_315 m_64 m_312) rfl e_X9_hungers ⟨Nat.le_of_ble_eq_true rfl, Nat.le_of_ble_eq_true rfl⟩ hK hP hD hE hS hA 0 wM_at0 rfl rfl hl.1 rfl (Nat.le_of_ble_eq_true rfl) dX9_pass_100 ⟨Nat.le_refl _, Nat.le_refl _⟩) hP hD hS hA (fun u_7 H locs hw_7 hP hD hS => ?_)
            refine lv_iinc (v := (x2 + 1)) (lv' := [(2, .int (x2 + 1)), (0, .ref m0), (1, .int x1), (3, .int x3)]) hx hb dX9_pass_103 hl (k := 2) rfl rfl (by decide) rfl (fun ls hl => ?_)
            refine lv_goto (tgt := 33) hx hb dX9_pass_106 (by decide) ?_
            exact ih_33 h_7 x1 (x2 + 1) hF H _ ls hP hD hS (lv_sub hl [1, 2, 0] rfl)
          · have hF := ob_neg c_6 hF
            refine lv_aload_n hx hb dX9_pass_61 rfl (lv_at hl 0 rfl) ?_
            refine lv_iload_n hx hb dX9_pass_62 rfl (lv_at hl 3 rfl) ?_
            refine lv_iconst (v := 4) hx hb dX9_pass_63 (by decide) ?_
            obtain ⟨r_8, h_8, e_8, hF⟩ := ob2_some hF
            refine gx_calli (gx_runV (As := [.int x3, .int 4]) (rest := []) ⟨hx, hb, hml, hown, hts⟩ (c_X9_ofGoose l G cI cJ cZ cB cT m0 r h x3 4 r_8 h_8 e_8 H.size) (gG_V m_103 m_104 m_105 m_64 m_102) rfl e_X9_ofGoose ⟨Nat.le_of_ble_eq_true rfl, Nat.le_of_ble_eq_true rfl⟩ hK hP hD hE hS hA 0 wM_at0 rfl rfl hl.1 rfl (Nat.le_of_ble_eq_true rfl) dX9_pass_64 ⟨Nat.le_refl _, Nat.le_refl _⟩) hP hD hS hA (fun x_8 u_8 H locs hw_8 hP hD hS => ?_)
            subst x_8
            refine lv_iconst (v := 1) hx hb dX9_pass_67 (by decide) ?_
            refine lv_icmp_ne (tgt := 93) hx hb dX9_pass_68 (by decide) (fun c_9 => ?_) (fun c_9 => ?_)
            · have hF := ob_neg c_9 hF
              exact hJ_93 h_8 x1 x2 x3 hF H _ ls hP hD hS (lv_sub hl [0, 1, 2, 3] rfl)
            · have hF := ob_pos c_9 hF
              refine lv_aload_n hx hb dX9_pass_71 rfl (lv_at hl 0 rfl) ?_
              refine lv_iload_n hx hb dX9_pass_72 rfl (lv_at hl 3 rfl) ?_
              refine lv_bipush (v := 6) hx hb dX9_pass_73 (by decide) ?_
              obtain ⟨r_10, h_10, e_10, hF⟩ := ob2_some hF
              refine gx_calli (gx_runV (As := [.int x3, .int 6]) (rest := []) ⟨hx, hb, hml, hown, hts⟩ (c_X9_ofGoose l G cI cJ cZ cB cT m0 r h_8 x3 6 r_10 h_10 e_10 H.size) (gG_V m_103 m_104 m_105 m_64 m_102) rfl e_X9_ofGoose ⟨Nat.le_of_ble_eq_true rfl, Nat.le_of_ble_eq_true rfl⟩ hK hP hD hE hS hA 0 wM_at0 rfl rfl hl.1 rfl (Nat.le_of_ble_eq_true rfl) dX9_pass_75 ⟨Nat.le_refl _, Nat.le_refl _⟩) hP hD hS hA (fun x_10 u_10 H locs hw_10 hP hD hS => ?_)
              subst x_10
              refine lv_aload_n hx hb dX9_pass_78 rfl (lv_at hl 0 rfl) ?_
              refine va_get (D := G) (ci := 9) (v := .ref (r 0)) (C := RX9) (T := TX9) (N := 53) hx hb hts iX9 hown hK hP 0 wM_at0 rfl 0 (by decide) (hts _ m_92) (fun _ h9 => h9) rfl dX9_pass_79 ?_
              refine lv_bipush (v := 121) hx hb dX9_pass_82 (by decide) ?_
              refine va_iald (D := G) hx hb hK hP 1 0 wM_at1 rfl (vp_in_nI (n := 121) (by decide) (by decide)) dX9_pass_84 ?_
              refine gw_topi (y := ((eA h_10 0 0) 121)) rfl ?_
              refine lv_icmp_ne (tgt := 93) hx hb dX9_pass_85 (by decide) (fun c_11 => ?_) (fun c_11 => ?_)
              · have hF := ob_neg c_11 hF
                exact hJ_93 h_10 x1 x2 x3 hF H _ ls hP hD hS (lv_sub hl [0, 1, 2, 3] rfl)
              · have hF := ob_pos c_11 hF
                refine lv_aload_n hx hb dX9_pass_88 rfl (lv_at hl 0 rfl) ?_
                refine lv_iload_n hx hb dX9_pass_89 rfl (lv_at hl 3 rfl) ?_
                obtain ⟨h_12, e_12, hF⟩ := ob1_some hF
                refine gx_callv (gx_runV (As := [.int x3]) (rest := []) ⟨hx, hb, hml, hown, hts⟩ (c_X9_comesThere l G cI cJ cZ cB cT m0 r h_10 x3 h_12 e_12 H.size) (gG_V m_317 m_318 m_319 m_64 m_316) rfl e_X9_comesThere ⟨Nat.le_of_ble_eq_true rfl, Nat.le_of_ble_eq_true rfl⟩ hK hP hD hE hS hA 0 wM_at0 rfl rfl hl.1 rfl (Nat.le_of_ble_eq_true rfl) dX9_pass_90 ⟨Nat.le_refl _, Nat.le_refl _⟩) hP hD hS hA (fun u_12 H locs hw_12 hP hD hS => ?_)
                exact hJ_93 h_12 x1 x2 x3 hF H _ ls hP hD hS (lv_sub hl [0, 1, 2, 3] rfl)
      intro h x1 x2 hF H locs ls hP hD hS hl
      rw [f_X9_pass_33_s] at hF
      refine lv_iload_n hx hb dX9_pass_33 rfl (lv_at hl 2 rfl) ?_
      refine lv_iload_n hx hb dX9_pass_34 rfl (lv_at hl 1 rfl) ?_
      refine lv_icmp_ge (tgt := 109) hx hb dX9_pass_35 (by decide) (fun c_5 => ?_) (fun c_5 => ?_)
      · have hF := ob_pos c_5 hF
        refine lv_aload_n hx hb dX9_pass_109 rfl (lv_at hl 0 rfl) ?_
        refine va_get (D := G) (ci := 9) (v := .ref (r 0)) (C := RX9) (T := TX9) (N := 53) hx hb hts iX9 hown hK hP 0 wM_at0 rfl 0 (by decide) (hts _ m_92) (fun _ h9 => h9) rfl dX9_pass_110 ?_
        refine lv_bipush (v := 121) hx hb dX9_pass_113 (by decide) ?_
        refine va_iald (D := G) hx hb hK hP 1 0 wM_at1 rfl (vp_in_nI (n := 121) (by decide) (by decide)) dX9_pass_115 ?_
        refine gw_topi (y := ((eA h 0 0) 121)) rfl ?_
        obtain ⟨rfl, rfl⟩ := ob_pair hF
        exact gw_iret () hx hb hr hlocks hP hD hS rfl dX9_pass_116
      · have hF := ob_neg c_5 hF
        refine lv_aload_n hx hb dX9_pass_38 rfl (lv_at hl 0 rfl) ?_
        refine va_get (D := G) (ci := 9) (v := .ref (r 0)) (C := RX9) (T := TX9) (N := 53) hx hb hts iX9 hown hK hP 0 wM_at0 rfl 0 (by decide) (hts _ m_92) (fun _ h9 => h9) rfl dX9_pass_39 ?_
        refine lv_bipush (v := 121) hx hb dX9_pass_42 (by decide) ?_
        refine lv_dup2_11 hx hb dX9_pass_44 rfl rfl ?_
        refine va_iald (D := G) hx hb hK hP 1 0 wM_at1 rfl (vp_in_nI (n := 121) (by decide) (by decide)) dX9_pass_45 ?_
        refine gw_topi (y := ((eA h 0 0) 121)) rfl ?_
        refine lv_iconst (v := 1) hx hb dX9_pass_46 (by decide) ?_
        refine lv_iadd hx hb dX9_pass_47 ?_
        refine va_iast (D := G) hx hb hK hP hD hS 1 0 wM_at1 rfl (vp_in_nI (n := 121) (by decide) (by decide)) dX9_pass_48 (fun H locs hP hD hS => ?_)
        rw [wM_sA1] at hP hD
        have hP : va_P G vwCl (wM m0 r cI cJ cZ cB cT (sA h 0 0 (upd (eA h 0 0) 121 (((eA h 0 0) 121) + 1)))) H := hP
        have hD : va_D A (wM m0 r cI cJ cZ cB cT (sA h 0 0 (upd (eA h 0 0) 121 (((eA h 0 0) 121) + 1)))) := hD
        refine lv_iconst (v := 0) hx hb dX9_pass_49 (by decide) ?_
        refine lv_istore_n (lv' := [(3, .int 0), (0, .ref m0), (1, .int x1), (2, .int x2)]) hx hb dX9_pass_50 rfl hl (by decide) rfl (fun ls hl => ?_)
        exact hJ_51 8589934592 (sA h 0 0 (upd (eA h 0 0) 121 (((eA h 0 0) 121) + 1))) x1 x2 0 hF H _ ls hP hD hS (lv_sub hl [1, 2, 3, 0] rfl)
  unfold f_X9_pass at hF
  refine lv_iload_n hx hb dX9_pass_0 rfl (lv_at hl 1 rfl) ?_
  refine lv_iconst (v := 1) hx hb dX9_pass_1 (by decide) ?_
  refine lv_bipush (v := 99) hx hb dX9_pass_2 (by decide) ?_
  obtain ⟨r_1, e_1, hF⟩ := ob1_some hF
  refine gx_calli0 (gx_runS0 (As := [.int p1, .int 1, .int 99]) (rest := []) ⟨hx, hb, hml, hown, hts⟩ (c_X9_in l G cI cJ cZ cB cT   p1 1 99 r_1 e_1 H.size) (gG_S m_62 m_63 m_64 m_61) rfl e_X9_in ⟨Nat.le_of_ble_eq_true rfl, Nat.le_of_ble_eq_true rfl⟩ hK hE hS hA rfl hl.1 rfl (Nat.le_of_ble_eq_true rfl) dX9_pass_4 ⟨Nat.le_refl _, Nat.le_refl _⟩) hP hD hS hA (fun x_1 u_1 H locs hw_1 hP hD hS => ?_)
  subst x_1
  refine lv_if_eq (tgt := 25) hx hb dX9_pass_7 (by decide) (fun c_2 => ?_) (fun c_2 => ?_)
  · have hF := ob_pos c_2 hF
    exact hJ_25 h hF H _ ls hP hD hS (lv_sub hl [] rfl)
  · have hF := ob_neg c_2 hF
    refine lv_aload_n hx hb dX9_pass_10 rfl (lv_at hl 0 rfl) ?_
    refine va_get (D := G) (ci := 9) (v := .ref (r 0)) (C := RX9) (T := TX9) (N := 53) hx hb hts iX9 hown hK hP 0 wM_at0 rfl 0 (by decide) (hts _ m_92) (fun _ h9 => h9) rfl dX9_pass_11 ?_
    refine lv_bipush (v := 121) hx hb dX9_pass_14 (by decide) ?_
    refine va_iald (D := G) hx hb hK hP 1 0 wM_at1 rfl (vp_in_nI (n := 121) (by decide) (by decide)) dX9_pass_16 ?_
    refine gw_topi (y := ((eA h 0 0) 121)) rfl ?_
    refine lv_iload_n hx hb dX9_pass_17 rfl (lv_at hl 1 rfl) ?_
    refine lv_iadd hx hb dX9_pass_18 ?_
    refine lv_sipush (v := 999) hx hb dX9_pass_19 (by decide) ?_
    refine lv_icmp_le (tgt := 27) hx hb dX9_pass_22 (by decide) (fun c_3 => ?_) (fun c_3 => ?_)
    · have hF := ob_pos c_3 hF
      refine lv_aload_n hx hb dX9_pass_27 rfl (lv_at hl 0 rfl) ?_
      obtain ⟨h_4, e_4, hF⟩ := ob1_some hF
      refine gx_callv (gx_runV (As := []) (rest := []) ⟨hx, hb, hml, hown, hts⟩ (c_X9_keepsStep l G cI cJ cZ cB cT m0 r h  h_4 e_4 H.size) (gG_V m_289 m_290 m_291 m_64 m_288) rfl e_X9_keepsStep ⟨Nat.le_of_ble_eq_true rfl, Nat.le_of_ble_eq_true rfl⟩ hK hP hD hE hS hA 0 wM_at0 rfl rfl hl.1 rfl (Nat.le_of_ble_eq_true rfl) dX9_pass_28 ⟨Nat.le_refl _, Nat.le_refl _⟩) hP hD hS hA (fun u_4 H locs hw_4 hP hD hS => ?_)
      refine lv_iconst (v := 0) hx hb dX9_pass_31 (by decide) ?_
      refine lv_istore_n (lv' := [(2, .int 0), (0, .ref m0), (1, .int p1)]) hx hb dX9_pass_32 rfl hl (by decide) rfl (fun ls hl => ?_)
      exact hJ_33 8589934592 h_4 p1 0 hF H _ ls hP hD hS (lv_sub hl [1, 2, 0] rfl)
    · have hF := ob_neg c_3 hF
      exact hJ_25 h hF H _ ls hP hD hS (lv_sub hl [] rfl)
def f_X9_played_154 (k21 : HS → Int32 → Int32 → Option (Int32 × HS)) (h : HS) (x1 : Int32) (x2 : Int32) (x4 : Int32) : Option (Int32 × HS) := (if x4 = (-1) then (some (x2, h)) else (k21 h x1 (x2 + 1)))
def f_X9_played_21 : Nat → HS → Int32 → Int32 → Option (Int32 × HS)
  | 0, _, _, _ => none
  | n + 1, h, x1, x2 => (if 0 ≤ (x1).toInt ∧ (x1).toInt < 4 then (if ((eA h 0 6) ((x1).toNatClampNeg)) ≤ x2 then (some ((-1), h)) else (if 0 ≤ (((24 * x1) + x2)).toInt ∧ (((24 * x1) + x2)).toInt < 96 then (if ((eA h 0 7) ((((24 * x1) + x2)).toNatClampNeg)) = 4 then (if 0 ≤ (((24 * x1) + x2)).toInt ∧ (((24 * x1) + x2)).toInt < 96 then (if 0 ≤ (((24 * x1) + x2)).toInt ∧ (((24 * x1) + x2)).toInt < 96 then (if 0 ≤ (((24 * x1) + x2)).toInt ∧ (((24 * x1) + x2)).toInt < 96 then (ob2 (f_X9_fill h ((eA h 0 9) ((((24 * x1) + x2)).toNatClampNeg)) ((eA h 0 10) ((((24 * x1) + x2)).toNatClampNeg)) ((eA h 0 11) ((((24 * x1) + x2)).toNatClampNeg))) (fun r_10 h_10 => (f_X9_played_154 (f_X9_played_21 n) h_10 x1 x2 r_10))) else none) else none) else none) else (if ((eA h 0 7) ((((24 * x1) + x2)).toNatClampNeg)) = 5 then (if 0 ≤ (((24 * x1) + x2)).toInt ∧ (((24 * x1) + x2)).toInt < 96 then (if 0 ≤ (((24 * x1) + x2)).toInt ∧ (((24 * x1) + x2)).toInt < 96 then (ob2 (f_X9_send h ((eA h 0 9) ((((24 * x1) + x2)).toNatClampNeg)) ((eA h 0 10) ((((24 * x1) + x2)).toNatClampNeg))) (fun r_14 h_14 => (f_X9_played_154 (f_X9_played_21 n) h_14 x1 x2 r_14))) else none) else none) else (if ((eA h 0 7) ((((24 * x1) + x2)).toNatClampNeg)) = 6 then (if 0 ≤ (((24 * x1) + x2)).toInt ∧ (((24 * x1) + x2)).toInt < 96 then (ob2 (f_X9_fatten h ((eA h 0 9) ((((24 * x1) + x2)).toNatClampNeg))) (fun r_17 h_17 => (f_X9_played_154 (f_X9_played_21 n) h_17 x1 x2 r_17))) else none) else (if ((eA h 0 7) ((((24 * x1) + x2)).toNatClampNeg)) = 7 then (if 0 ≤ (((24 * x1) + x2)).toInt ∧ (((24 * x1) + x2)).toInt < 96 then (ob2 (f_X9_pass h ((eA h 0 9) ((((24 * x1) + x2)).toNatClampNeg))) (fun r_20 h_20 => (f_X9_played_154 (f_X9_played_21 n) h_20 x1 x2 r_20))) else none) else (f_X9_played_154 (f_X9_played_21 n) h x1 x2 0))))) else none)) else none)
theorem f_X9_played_21_s (n : Nat) (h : HS) (x1 : Int32) (x2 : Int32) : f_X9_played_21 (n + 1) h x1 x2 = (if 0 ≤ (x1).toInt ∧ (x1).toInt < 4 then (if ((eA h 0 6) ((x1).toNatClampNeg)) ≤ x2 then (some ((-1), h)) else (if 0 ≤ (((24 * x1) + x2)).toInt ∧ (((24 * x1) + x2)).toInt < 96 then (if ((eA h 0 7) ((((24 * x1) + x2)).toNatClampNeg)) = 4 then (if 0 ≤ (((24 * x1) + x2)).toInt ∧ (((24 * x1) + x2)).toInt < 96 then (if 0 ≤ (((24 * x1) + x2)).toInt ∧ (((24 * x1) + x2)).toInt < 96 then (if 0 ≤ (((24 * x1) + x2)).toInt ∧ (((24 * x1) + x2)).toInt < 96 then (ob2 (f_X9_fill h ((eA h 0 9) ((((24 * x1) + x2)).toNatClampNeg)) ((eA h 0 10) ((((24 * x1) + x2)).toNatClampNeg)) ((eA h 0 11) ((((24 * x1) + x2)).toNatClampNeg))) (fun r_10 h_10 => (f_X9_played_154 (f_X9_played_21 n) h_10 x1 x2 r_10))) else none) else none) else none) else (if ((eA h 0 7) ((((24 * x1) + x2)).toNatClampNeg)) = 5 then (if 0 ≤ (((24 * x1) + x2)).toInt ∧ (((24 * x1) + x2)).toInt < 96 then (if 0 ≤ (((24 * x1) + x2)).toInt ∧ (((24 * x1) + x2)).toInt < 96 then (ob2 (f_X9_send h ((eA h 0 9) ((((24 * x1) + x2)).toNatClampNeg)) ((eA h 0 10) ((((24 * x1) + x2)).toNatClampNeg))) (fun r_14 h_14 => (f_X9_played_154 (f_X9_played_21 n) h_14 x1 x2 r_14))) else none) else none) else (if ((eA h 0 7) ((((24 * x1) + x2)).toNatClampNeg)) = 6 then (if 0 ≤ (((24 * x1) + x2)).toInt ∧ (((24 * x1) + x2)).toInt < 96 then (ob2 (f_X9_fatten h ((eA h 0 9) ((((24 * x1) + x2)).toNatClampNeg))) (fun r_17 h_17 => (f_X9_played_154 (f_X9_played_21 n) h_17 x1 x2 r_17))) else none) else (if ((eA h 0 7) ((((24 * x1) + x2)).toNatClampNeg)) = 7 then (if 0 ≤ (((24 * x1) + x2)).toInt ∧ (((24 * x1) + x2)).toInt < 96 then (ob2 (f_X9_pass h ((eA h 0 9) ((((24 * x1) + x2)).toNatClampNeg))) (fun r_20 h_20 => (f_X9_played_154 (f_X9_played_21 n) h_20 x1 x2 r_20))) else none) else (f_X9_played_154 (f_X9_played_21 n) h x1 x2 0))))) else none)) else none) := rfl
def f_X9_played (h : HS) (p1 : Int32) : Option (Int32 × HS) := (ob1 (f_X9_in p1 0 (((eA h 0 0) 3) - 1)) (fun r_1 => (if r_1 = 0 then (some ((-2), h)) else (f_X9_played_21 8589934592 h p1 0))))
theorem e_X9_fatten : yX9_fatten.cls = RX9 ∧ yX9_fatten.cls ≠ "java/lang/invoke/MethodHandle" ∧ yX9_fatten.cls ≠ "java/lang/invoke/VarHandle" ∧ (parseMethodDescriptor yX9_fatten.desc).map (fun d => d.parameters.length) = some 1 := by decide +kernel
theorem e_X9_fill : yX9_fill.cls = RX9 ∧ yX9_fill.cls ≠ "java/lang/invoke/MethodHandle" ∧ yX9_fill.cls ≠ "java/lang/invoke/VarHandle" ∧ (parseMethodDescriptor yX9_fill.desc).map (fun d => d.parameters.length) = some 3 := by decide +kernel
theorem e_X9_pass : yX9_pass.cls = RX9 ∧ yX9_pass.cls ≠ "java/lang/invoke/MethodHandle" ∧ yX9_pass.cls ≠ "java/lang/invoke/VarHandle" ∧ (parseMethodDescriptor yX9_pass.desc).map (fun d => d.parameters.length) = some 1 := by decide +kernel
theorem e_X9_send : yX9_send.cls = RX9 ∧ yX9_send.cls ≠ "java/lang/invoke/MethodHandle" ∧ yX9_send.cls ≠ "java/lang/invoke/VarHandle" ∧ (parseMethodDescriptor yX9_send.desc).map (fun d => d.parameters.length) = some 2 := by decide +kernel
set_option maxHeartbeats 4000000 in
set_option maxRecDepth 100000 in
theorem c_X9_played (l : Launch) (G : va_G) (cI cJ cZ cB cT : ClassId) (m0 : Nat) (r : Nat → Nat) (h : HS) (p1 : Int32) (rr : Int32) (hh : HS) (hF : f_X9_played h p1 = some (rr, hh)) : gMi l yX9_played (gws yX9_played cX9_played 5 (some .int)) 8 G (gT cI cJ cZ cB cT) [.ref m0, .int p1] (wM m0 r cI cJ cZ cB cT h) (fun x (_ : Unit) => x = rr) (fun (_ : Unit) => (wM m0 r cI cJ cZ cB cT hh)) := by
  intro sz
  refine gM_start (y := yX9_played) (av := [.ref m0, .int p1]) (ws := (wM m0 r cI cJ cZ cB cT h)) (Qf := fun A => va_Qi (fun x (_ : Unit) => x = rr) (gB G (fun (_ : Unit) => (wM m0 r cI cJ cZ cB cT hh)) A) A) (cc := cX9_played) (maxL := 5) (ret := (some .int)) (by decide) (Nat.le_of_ble_eq_true rfl) ?_
  intro p e s m args below meth c A ls H hx hb hr hts hown hin hlocks hml hP hK hD hA hS hl hE
  have hl : lv_has ls 5 [(0, .ref m0), (1, .int p1)] := hl
  have hJ_21 : ∀ (n_21 : Nat) (h : HS) (x1 : Int32) (x2 : Int32), f_X9_played_21 n_21 h x1 x2 = some (rr, hh) → ∀ (H : Heap) (locs : List Loc) (ls : Array Slot), va_P G vwCl (wM m0 r cI cJ cZ cB cT h) H → va_D A (wM m0 r cI cJ cZ cB cT h) → va_S A s.heap H locs → lv_has ls 5 [(0, .ref m0), (1, .int x1), (2, .int x2)] → W p l e (gRm 8) s m args below meth c H locs 0 0 (MQ below (va_Qi (fun x (_ : Unit) => x = rr) (gB G (fun (_ : Unit) => (wM m0 r cI cJ cZ cB cT hh)) A) A) args s 0 0 A) (F0 m 21 ls []) := by
    intro n_21
    induction n_21 with
    | zero =>
      intro h x1 x2 hF
      exact absurd hF (by simp [f_X9_played_21])
    | succ n_21 ih_21 =>
      have hJ_154 : ∀ (h : HS) (x1 : Int32) (x2 : Int32) (x4 : Int32), f_X9_played_154 (f_X9_played_21 n_21) h x1 x2 x4 = some (rr, hh) → ∀ (H : Heap) (locs : List Loc) (ls : Array Slot), va_P G vwCl (wM m0 r cI cJ cZ cB cT h) H → va_D A (wM m0 r cI cJ cZ cB cT h) → va_S A s.heap H locs → lv_has ls 5 [(0, .ref m0), (1, .int x1), (2, .int x2), (4, .int x4)] → W p l e (gRm 8) s m args below meth c H locs 0 0 (MQ below (va_Qi (fun x (_ : Unit) => x = rr) (gB G (fun (_ : Unit) => (wM m0 r cI cJ cZ cB cT hh)) A) A) args s 0 0 A) (F0 m 154 ls []) := by
        intro h x1 x2 x4 hF H locs ls hP hD hS hl
        unfold f_X9_played_154 at hF
        refine lv_iload hx hb dX9_played_154 (lv_at hl 3 rfl) ?_
        refine lv_iconst (v := (-1)) hx hb dX9_played_156 (by decide) ?_
        refine lv_icmp_ne (tgt := 162) hx hb dX9_played_157 (by decide) (fun c_21 => ?_) (fun c_21 => ?_)
        · have hF := ob_neg c_21 hF
          refine lv_iinc (v := (x2 + 1)) (lv' := [(2, .int (x2 + 1)), (0, .ref m0), (1, .int x1), (4, .int x4)]) hx hb dX9_played_162 hl (k := 2) rfl rfl (by decide) rfl (fun ls hl => ?_)
          refine lv_goto (tgt := 21) hx hb dX9_played_165 (by decide) ?_
          exact ih_21 h x1 (x2 + 1) hF H _ ls hP hD hS (lv_sub hl [1, 2, 0] rfl)
        · have hF := ob_pos c_21 hF
          refine lv_iload_n hx hb dX9_played_160 rfl (lv_at hl 2 rfl) ?_
          obtain ⟨rfl, rfl⟩ := ob_pair hF
          exact gw_iret () hx hb hr hlocks hP hD hS rfl dX9_played_161
      intro h x1 x2 hF H locs ls hP hD hS hl
      rw [f_X9_played_21_s] at hF
      refine lv_iload_n hx hb dX9_played_21 rfl (lv_at hl 2 rfl) ?_
      refine lv_aload_n hx hb dX9_played_22 rfl (lv_at hl 0 rfl) ?_
      refine va_get (D := G) (ci := 9) (v := .ref (r 6)) (C := RX9) (T := TX9) (N := 53) hx hb hts iX9 hown hK hP 0 wM_at0 rfl 6 (by decide) (hts _ m_229) (fun _ h9 => h9) rfl dX9_played_23 ?_
      refine lv_iload_n hx hb dX9_played_26 rfl (lv_at hl 1 rfl) ?_
      obtain ⟨hi_3, hF⟩ := ob_if hF
      refine va_iald (D := G) hx hb hK hP 4 0 wM_at4 rfl (vp_in_iff.mpr hi_3) dX9_played_27 ?_
      refine gw_topi (y := ((eA h 0 6) ((x1).toNatClampNeg))) rfl ?_
      refine lv_icmp_ge (tgt := 168) hx hb dX9_played_28 (by decide) (fun c_4 => ?_) (fun c_4 => ?_)
      · have hF := ob_pos c_4 hF
        refine lv_iconst (v := (-1)) hx hb dX9_played_168 (by decide) ?_
        obtain ⟨rfl, rfl⟩ := ob_pair hF
        exact gw_iret () hx hb hr hlocks hP hD hS rfl dX9_played_169
      · have hF := ob_neg c_4 hF
        refine lv_bipush (v := 24) hx hb dX9_played_31 (by decide) ?_
        refine lv_iload_n hx hb dX9_played_33 rfl (lv_at hl 1 rfl) ?_
        refine lv_imul hx hb dX9_played_34 ?_
        refine lv_iload_n hx hb dX9_played_35 rfl (lv_at hl 2 rfl) ?_
        refine lv_iadd hx hb dX9_played_36 ?_
        refine lv_istore_n (lv' := [(3, .int ((24 * x1) + x2)), (0, .ref m0), (1, .int x1), (2, .int x2)]) hx hb dX9_played_37 rfl hl (by decide) rfl (fun ls hl => ?_)
        refine lv_iconst (v := 0) hx hb dX9_played_38 (by decide) ?_
        refine lv_istore (lv' := [(4, .int 0), (3, .int ((24 * x1) + x2)), (0, .ref m0), (1, .int x1), (2, .int x2)]) hx hb dX9_played_39 hl (by decide) rfl (fun ls hl => ?_)
        refine lv_aload_n hx hb dX9_played_41 rfl (lv_at hl 2 rfl) ?_
        refine va_get (D := G) (ci := 9) (v := .ref (r 7)) (C := RX9) (T := TX9) (N := 53) hx hb hts iX9 hown hK hP 0 wM_at0 rfl 7 (by decide) (hts _ m_250) (fun _ h9 => h9) rfl dX9_played_42 ?_
        refine lv_iload_n hx hb dX9_played_45 rfl (lv_at hl 1 rfl) ?_
        obtain ⟨hi_5, hF⟩ := ob_if hF
        refine va_iald (D := G) hx hb hK hP 5 0 wM_at5 rfl (vp_in_iff.mpr hi_5) dX9_played_46 ?_
        refine gw_topi (y := ((eA h 0 7) ((((24 * x1) + x2)).toNatClampNeg))) rfl ?_
        by_cases c_6 : ((eA h 0 7) ((((24 * x1) + x2)).toNatClampNeg)) = 4
        · have hF := ob_pos c_6 hF
          refine lv_tableIn (tgt := 76) (off := 29) hx hb dX9_played_47 (by rw [c_6]; decide) (by rw [c_6]; decide) (by rw [c_6]; decide) (by decide) ?_
          refine lv_aload_n hx hb dX9_played_76 rfl (lv_at hl 2 rfl) ?_
          refine lv_aload_n hx hb dX9_played_77 rfl (lv_at hl 2 rfl) ?_
          refine va_get (D := G) (ci := 9) (v := .ref (r 9)) (C := RX9) (T := TX9) (N := 53) hx hb hts iX9 hown hK hP 0 wM_at0 rfl 9 (by decide) (hts _ m_252) (fun _ h9 => h9) rfl dX9_played_78 ?_
          refine lv_iload_n hx hb dX9_played_81 rfl (lv_at hl 1 rfl) ?_
          obtain ⟨hi_7, hF⟩ := ob_if hF
          refine va_iald (D := G) hx hb hK hP 7 0 wM_at7 rfl (vp_in_iff.mpr hi_7) dX9_played_82 ?_
          refine gw_topi (y := ((eA h 0 9) ((((24 * x1) + x2)).toNatClampNeg))) rfl ?_
          refine lv_aload_n hx hb dX9_played_83 rfl (lv_at hl 2 rfl) ?_
          refine va_get (D := G) (ci := 9) (v := .ref (r 10)) (C := RX9) (T := TX9) (N := 53) hx hb hts iX9 hown hK hP 0 wM_at0 rfl 10 (by decide) (hts _ m_253) (fun _ h9 => h9) rfl dX9_played_84 ?_
          refine lv_iload_n hx hb dX9_played_87 rfl (lv_at hl 1 rfl) ?_
          obtain ⟨hi_8, hF⟩ := ob_if hF
          refine va_iald (D := G) hx hb hK hP 8 0 wM_at8 rfl (vp_in_iff.mpr hi_8) dX9_played_88 ?_
          refine gw_topi (y := ((eA h 0 10) ((((24 * x1) + x2)).toNatClampNeg))) rfl ?_
          refine lv_aload_n hx hb dX9_played_89 rfl (lv_at hl 2 rfl) ?_
          refine va_get (D := G) (ci := 9) (v := .ref (r 11)) (C := RX9) (T := TX9) (N := 53) hx hb hts iX9 hown hK hP 0 wM_at0 rfl 11 (by decide) (hts _ m_254) (fun _ h9 => h9) rfl dX9_played_90 ?_
          refine lv_iload_n hx hb dX9_played_93 rfl (lv_at hl 1 rfl) ?_
          obtain ⟨hi_9, hF⟩ := ob_if hF
          refine va_iald (D := G) hx hb hK hP 9 0 wM_at9 rfl (vp_in_iff.mpr hi_9) dX9_played_94 ?_
          refine gw_topi (y := ((eA h 0 11) ((((24 * x1) + x2)).toNatClampNeg))) rfl ?_
          obtain ⟨r_10, h_10, e_10, hF⟩ := ob2_some hF
          refine gx_calli (gx_runV (As := [.int ((eA h 0 9) ((((24 * x1) + x2)).toNatClampNeg)), .int ((eA h 0 10) ((((24 * x1) + x2)).toNatClampNeg)), .int ((eA h 0 11) ((((24 * x1) + x2)).toNatClampNeg))]) (rest := []) ⟨hx, hb, hml, hown, hts⟩ (c_X9_fill l G cI cJ cZ cB cT m0 r h ((eA h 0 9) ((((24 * x1) + x2)).toNatClampNeg)) ((eA h 0 10) ((((24 * x1) + x2)).toNatClampNeg)) ((eA h 0 11) ((((24 * x1) + x2)).toNatClampNeg)) r_10 h_10 e_10 H.size) (gG_V m_321 m_322 m_323 m_64 m_320) rfl e_X9_fill ⟨Nat.le_of_ble_eq_true rfl, Nat.le_of_ble_eq_true rfl⟩ hK hP hD hE hS hA 0 wM_at0 rfl rfl hl.1 rfl (Nat.le_of_ble_eq_true rfl) dX9_played_95 ⟨Nat.le_refl _, Nat.le_refl _⟩) hP hD hS hA (fun x_10 u_10 H locs hw_10 hP hD hS => ?_)
          subst x_10
          refine lv_istore (lv' := [(4, .int r_10), (3, .int ((24 * x1) + x2)), (0, .ref m0), (1, .int x1), (2, .int x2)]) hx hb dX9_played_98 hl (by decide) rfl (fun ls hl => ?_)
          refine lv_goto (tgt := 154) hx hb dX9_played_100 (by decide) ?_
          exact hJ_154 h_10 x1 x2 r_10 hF H _ ls hP hD hS (lv_sub hl [2, 3, 4, 0] rfl)
        have hF := ob_neg c_6 hF
        by_cases c_11 : ((eA h 0 7) ((((24 * x1) + x2)).toNatClampNeg)) = 5
        · have hF := ob_pos c_11 hF
          refine lv_tableIn (tgt := 103) (off := 56) hx hb dX9_played_47 (by rw [c_11]; decide) (by rw [c_11]; decide) (by rw [c_11]; decide) (by decide) ?_
          refine lv_aload_n hx hb dX9_played_103 rfl (lv_at hl 2 rfl) ?_
          refine lv_aload_n hx hb dX9_played_104 rfl (lv_at hl 2 rfl) ?_
          refine va_get (D := G) (ci := 9) (v := .ref (r 9)) (C := RX9) (T := TX9) (N := 53) hx hb hts iX9 hown hK hP 0 wM_at0 rfl 9 (by decide) (hts _ m_252) (fun _ h9 => h9) rfl dX9_played_105 ?_
          refine lv_iload_n hx hb dX9_played_108 rfl (lv_at hl 1 rfl) ?_
          obtain ⟨hi_12, hF⟩ := ob_if hF
          refine va_iald (D := G) hx hb hK hP 7 0 wM_at7 rfl (vp_in_iff.mpr hi_12) dX9_played_109 ?_
          refine gw_topi (y := ((eA h 0 9) ((((24 * x1) + x2)).toNatClampNeg))) rfl ?_
          refine lv_aload_n hx hb dX9_played_110 rfl (lv_at hl 2 rfl) ?_
          refine va_get (D := G) (ci := 9) (v := .ref (r 10)) (C := RX9) (T := TX9) (N := 53) hx hb hts iX9 hown hK hP 0 wM_at0 rfl 10 (by decide) (hts _ m_253) (fun _ h9 => h9) rfl dX9_played_111 ?_
          refine lv_iload_n hx hb dX9_played_114 rfl (lv_at hl 1 rfl) ?_
          obtain ⟨hi_13, hF⟩ := ob_if hF
          refine va_iald (D := G) hx hb hK hP 8 0 wM_at8 rfl (vp_in_iff.mpr hi_13) dX9_played_115 ?_
          refine gw_topi (y := ((eA h 0 10) ((((24 * x1) + x2)).toNatClampNeg))) rfl ?_
          obtain ⟨r_14, h_14, e_14, hF⟩ := ob2_some hF
          refine gx_calli (gx_runV (As := [.int ((eA h 0 9) ((((24 * x1) + x2)).toNatClampNeg)), .int ((eA h 0 10) ((((24 * x1) + x2)).toNatClampNeg))]) (rest := []) ⟨hx, hb, hml, hown, hts⟩ (c_X9_send l G cI cJ cZ cB cT m0 r h ((eA h 0 9) ((((24 * x1) + x2)).toNatClampNeg)) ((eA h 0 10) ((((24 * x1) + x2)).toNatClampNeg)) r_14 h_14 e_14 H.size) (gG_V m_325 m_326 m_327 m_64 m_324) rfl e_X9_send ⟨Nat.le_of_ble_eq_true rfl, Nat.le_of_ble_eq_true rfl⟩ hK hP hD hE hS hA 0 wM_at0 rfl rfl hl.1 rfl (Nat.le_of_ble_eq_true rfl) dX9_played_116 ⟨Nat.le_refl _, Nat.le_refl _⟩) hP hD hS hA (fun x_14 u_14 H locs hw_14 hP hD hS => ?_)
          subst x_14
          refine lv_istore (lv' := [(4, .int r_14), (3, .int ((24 * x1) + x2)), (0, .ref m0), (1, .int x1), (2, .int x2)]) hx hb dX9_played_119 hl (by decide) rfl (fun ls hl => ?_)
          refine lv_goto (tgt := 154) hx hb dX9_played_121 (by decide) ?_
          exact hJ_154 h_14 x1 x2 r_14 hF H _ ls hP hD hS (lv_sub hl [2, 3, 4, 0] rfl)
        have hF := ob_neg c_11 hF
        by_cases c_15 : ((eA h 0 7) ((((24 * x1) + x2)).toNatClampNeg)) = 6
        · have hF := ob_pos c_15 hF
          refine lv_tableIn (tgt := 124) (off := 77) hx hb dX9_played_47 (by rw [c_15]; decide) (by rw [c_15]; decide) (by rw [c_15]; decide) (by decide) ?_
          refine lv_aload_n hx hb dX9_played_124 rfl (lv_at hl 2 rfl) ?_
          refine lv_aload_n hx hb dX9_played_125 rfl (lv_at hl 2 rfl) ?_
          refine va_get (D := G) (ci := 9) (v := .ref (r 9)) (C := RX9) (T := TX9) (N := 53) hx hb hts iX9 hown hK hP 0 wM_at0 rfl 9 (by decide) (hts _ m_252) (fun _ h9 => h9) rfl dX9_played_126 ?_
          refine lv_iload_n hx hb dX9_played_129 rfl (lv_at hl 1 rfl) ?_
          obtain ⟨hi_16, hF⟩ := ob_if hF
          refine va_iald (D := G) hx hb hK hP 7 0 wM_at7 rfl (vp_in_iff.mpr hi_16) dX9_played_130 ?_
          refine gw_topi (y := ((eA h 0 9) ((((24 * x1) + x2)).toNatClampNeg))) rfl ?_
          obtain ⟨r_17, h_17, e_17, hF⟩ := ob2_some hF
          refine gx_calli (gx_runV (As := [.int ((eA h 0 9) ((((24 * x1) + x2)).toNatClampNeg))]) (rest := []) ⟨hx, hb, hml, hown, hts⟩ (c_X9_fatten l G cI cJ cZ cB cT m0 r h ((eA h 0 9) ((((24 * x1) + x2)).toNatClampNeg)) r_17 h_17 e_17 H.size) (gG_V m_329 m_330 m_331 m_64 m_328) rfl e_X9_fatten ⟨Nat.le_of_ble_eq_true rfl, Nat.le_of_ble_eq_true rfl⟩ hK hP hD hE hS hA 0 wM_at0 rfl rfl hl.1 rfl (Nat.le_of_ble_eq_true rfl) dX9_played_131 ⟨Nat.le_refl _, Nat.le_refl _⟩) hP hD hS hA (fun x_17 u_17 H locs hw_17 hP hD hS => ?_)
          subst x_17
          refine lv_istore (lv' := [(4, .int r_17), (3, .int ((24 * x1) + x2)), (0, .ref m0), (1, .int x1), (2, .int x2)]) hx hb dX9_played_134 hl (by decide) rfl (fun ls hl => ?_)
          refine lv_goto (tgt := 154) hx hb dX9_played_136 (by decide) ?_
          exact hJ_154 h_17 x1 x2 r_17 hF H _ ls hP hD hS (lv_sub hl [2, 3, 4, 0] rfl)
        have hF := ob_neg c_15 hF
        by_cases c_18 : ((eA h 0 7) ((((24 * x1) + x2)).toNatClampNeg)) = 7
        · have hF := ob_pos c_18 hF
          refine lv_tableIn (tgt := 139) (off := 92) hx hb dX9_played_47 (by rw [c_18]; decide) (by rw [c_18]; decide) (by rw [c_18]; decide) (by decide) ?_
          refine lv_aload_n hx hb dX9_played_139 rfl (lv_at hl 2 rfl) ?_
          refine lv_aload_n hx hb dX9_played_140 rfl (lv_at hl 2 rfl) ?_
          refine va_get (D := G) (ci := 9) (v := .ref (r 9)) (C := RX9) (T := TX9) (N := 53) hx hb hts iX9 hown hK hP 0 wM_at0 rfl 9 (by decide) (hts _ m_252) (fun _ h9 => h9) rfl dX9_played_141 ?_
          refine lv_iload_n hx hb dX9_played_144 rfl (lv_at hl 1 rfl) ?_
          obtain ⟨hi_19, hF⟩ := ob_if hF
          refine va_iald (D := G) hx hb hK hP 7 0 wM_at7 rfl (vp_in_iff.mpr hi_19) dX9_played_145 ?_
          refine gw_topi (y := ((eA h 0 9) ((((24 * x1) + x2)).toNatClampNeg))) rfl ?_
          obtain ⟨r_20, h_20, e_20, hF⟩ := ob2_some hF
          refine gx_calli (gx_runV (As := [.int ((eA h 0 9) ((((24 * x1) + x2)).toNatClampNeg))]) (rest := []) ⟨hx, hb, hml, hown, hts⟩ (c_X9_pass l G cI cJ cZ cB cT m0 r h ((eA h 0 9) ((((24 * x1) + x2)).toNatClampNeg)) r_20 h_20 e_20 H.size) (gG_V m_333 m_334 m_335 m_64 m_332) rfl e_X9_pass ⟨Nat.le_of_ble_eq_true rfl, Nat.le_of_ble_eq_true rfl⟩ hK hP hD hE hS hA 0 wM_at0 rfl rfl hl.1 rfl (Nat.le_of_ble_eq_true rfl) dX9_played_146 ⟨Nat.le_refl _, Nat.le_refl _⟩) hP hD hS hA (fun x_20 u_20 H locs hw_20 hP hD hS => ?_)
          subst x_20
          refine lv_istore (lv' := [(4, .int r_20), (3, .int ((24 * x1) + x2)), (0, .ref m0), (1, .int x1), (2, .int x2)]) hx hb dX9_played_149 hl (by decide) rfl (fun ls hl => ?_)
          refine lv_goto (tgt := 154) hx hb dX9_played_151 (by decide) ?_
          exact hJ_154 h_20 x1 x2 r_20 hF H _ ls hP hD hS (lv_sub hl [2, 3, 4, 0] rfl)
        have hF := ob_neg c_18 hF
        have hq : (((eA h 0 7) ((((24 * x1) + x2)).toNatClampNeg))).toInt < 4 ∨ 7 < (((eA h 0 7) ((((24 * x1) + x2)).toNatClampNeg))).toInt := by
          have e_c_6 := lv_neT (a := 4) c_6 (by decide)
          have e_c_11 := lv_neT (a := 5) c_11 (by decide)
          have e_c_15 := lv_neT (a := 6) c_15 (by decide)
          have e_c_18 := lv_neT (a := 7) c_18 (by decide)
          omega
        refine lv_tableOut (tgt := 154) hx hb dX9_played_47 hq (by decide) ?_
        exact hJ_154 h x1 x2 0 hF H _ ls hP hD hS (lv_sub hl [2, 3, 4, 0] rfl)
  unfold f_X9_played at hF
  refine lv_iload_n hx hb dX9_played_0 rfl (lv_at hl 1 rfl) ?_
  refine lv_iconst (v := 0) hx hb dX9_played_1 (by decide) ?_
  refine lv_aload_n hx hb dX9_played_2 rfl (lv_at hl 0 rfl) ?_
  refine va_get (D := G) (ci := 9) (v := .ref (r 0)) (C := RX9) (T := TX9) (N := 53) hx hb hts iX9 hown hK hP 0 wM_at0 rfl 0 (by decide) (hts _ m_92) (fun _ h9 => h9) rfl dX9_played_3 ?_
  refine lv_iconst (v := 3) hx hb dX9_played_6 (by decide) ?_
  refine va_iald (D := G) hx hb hK hP 1 0 wM_at1 rfl (vp_in_nI (n := 3) (by decide) (by decide)) dX9_played_7 ?_
  refine gw_topi (y := ((eA h 0 0) 3)) rfl ?_
  refine lv_iconst (v := 1) hx hb dX9_played_8 (by decide) ?_
  refine lv_isub hx hb dX9_played_9 ?_
  obtain ⟨r_1, e_1, hF⟩ := ob1_some hF
  refine gx_calli0 (gx_runS0 (As := [.int p1, .int 0, .int (((eA h 0 0) 3) - 1)]) (rest := []) ⟨hx, hb, hml, hown, hts⟩ (c_X9_in l G cI cJ cZ cB cT   p1 0 (((eA h 0 0) 3) - 1) r_1 e_1 H.size) (gG_S m_62 m_63 m_64 m_61) rfl e_X9_in ⟨Nat.le_of_ble_eq_true rfl, Nat.le_of_ble_eq_true rfl⟩ hK hE hS hA rfl hl.1 rfl (Nat.le_of_ble_eq_true rfl) dX9_played_10 ⟨Nat.le_refl _, Nat.le_refl _⟩) hP hD hS hA (fun x_1 u_1 H locs hw_1 hP hD hS => ?_)
  subst x_1
  refine lv_if_ne (tgt := 19) hx hb dX9_played_13 (by decide) (fun c_2 => ?_) (fun c_2 => ?_)
  · have hF := ob_neg c_2 hF
    refine lv_iconst (v := 0) hx hb dX9_played_19 (by decide) ?_
    refine lv_istore_n (lv' := [(2, .int 0), (0, .ref m0), (1, .int p1)]) hx hb dX9_played_20 rfl hl (by decide) rfl (fun ls hl => ?_)
    exact hJ_21 8589934592 h p1 0 hF H _ ls hP hD hS (lv_sub hl [1, 2, 0] rfl)
  · have hF := ob_pos c_2 hF
    refine lv_bipush (v := (-2)) hx hb dX9_played_16 (by decide) ?_
    obtain ⟨rfl, rfl⟩ := ob_pair hF
    exact gw_iret () hx hb hr hlocks hP hD hS rfl dX9_played_18
def f_X9_of_18 (h : HS) : Option (Int32 × HS) := (some ((-2), h))
def f_X9_of_47 (h : HS) (y0 : Int32) : Option (Int32 × HS) := (some (y0, h))
def f_X9_of (h : HS) (p1 : Int32) (p2 : Int32) : Option (Int32 × HS) := (ob2 (f_X9_isGoose h p1) (fun r_1 h_1 => (if r_1 = 0 then (f_X9_of_18 h_1) else (ob1 (f_X9_in p2 0 9) (fun r_3 => (if r_3 = 0 then (f_X9_of_18 h_1) else (if 9 ≤ p2 then (ob2 (f_X9_isTrue h_1 p1) (fun r_6 h_6 => (if r_6 = 0 then (f_X9_of_47 h_6 0) else (f_X9_of_47 h_6 1)))) else (ob2 (f_X9_ofGoose h_1 p1 p2) (fun r_8 h_8 => (some (r_8, h_8)))))))))))
theorem e_X9_isTrue : yX9_isTrue.cls = RX9 ∧ yX9_isTrue.cls ≠ "java/lang/invoke/MethodHandle" ∧ yX9_isTrue.cls ≠ "java/lang/invoke/VarHandle" ∧ (parseMethodDescriptor yX9_isTrue.desc).map (fun d => d.parameters.length) = some 1 := by decide +kernel
set_option maxHeartbeats 4000000 in
set_option maxRecDepth 100000 in
theorem c_X9_of (l : Launch) (G : va_G) (cI cJ cZ cB cT : ClassId) (m0 : Nat) (r : Nat → Nat) (h : HS) (p1 : Int32) (p2 : Int32) (rr : Int32) (hh : HS) (hF : f_X9_of h p1 p2 = some (rr, hh)) : gMi l yX9_of (gws yX9_of cX9_of 3 (some .int)) 6 G (gT cI cJ cZ cB cT) [.ref m0, .int p1, .int p2] (wM m0 r cI cJ cZ cB cT h) (fun x (_ : Unit) => x = rr) (fun (_ : Unit) => (wM m0 r cI cJ cZ cB cT hh)) := by
  intro sz
  refine gM_start (y := yX9_of) (av := [.ref m0, .int p1, .int p2]) (ws := (wM m0 r cI cJ cZ cB cT h)) (Qf := fun A => va_Qi (fun x (_ : Unit) => x = rr) (gB G (fun (_ : Unit) => (wM m0 r cI cJ cZ cB cT hh)) A) A) (cc := cX9_of) (maxL := 3) (ret := (some .int)) (by decide) (Nat.le_of_ble_eq_true rfl) ?_
  intro p e s m args below meth c A ls H hx hb hr hts hown hin hlocks hml hP hK hD hA hS hl hE
  have hl : lv_has ls 3 [(0, .ref m0), (1, .int p1), (2, .int p2)] := hl
  have hJ_18 : ∀ (h : HS), f_X9_of_18 h = some (rr, hh) → ∀ (H : Heap) (locs : List Loc) (ls : Array Slot), va_P G vwCl (wM m0 r cI cJ cZ cB cT h) H → va_D A (wM m0 r cI cJ cZ cB cT h) → va_S A s.heap H locs → lv_has ls 3 [] → W p l e (gRm 6) s m args below meth c H locs 0 0 (MQ below (va_Qi (fun x (_ : Unit) => x = rr) (gB G (fun (_ : Unit) => (wM m0 r cI cJ cZ cB cT hh)) A) A) args s 0 0 A) (F0 m 18 ls []) := by
    intro h hF H locs ls hP hD hS hl
    unfold f_X9_of_18 at hF
    refine lv_bipush (v := (-2)) hx hb dX9_of_18 (by decide) ?_
    obtain ⟨rfl, rfl⟩ := ob_pair hF
    exact gw_iret () hx hb hr hlocks hP hD hS rfl dX9_of_20
  have hJ_47 : ∀ (h : HS) (y0 : Int32), f_X9_of_47 h y0 = some (rr, hh) → ∀ (H : Heap) (locs : List Loc) (ls : Array Slot), va_P G vwCl (wM m0 r cI cJ cZ cB cT h) H → va_D A (wM m0 r cI cJ cZ cB cT h) → va_S A s.heap H locs → lv_has ls 3 [] → W p l e (gRm 6) s m args below meth c H locs 0 0 (MQ below (va_Qi (fun x (_ : Unit) => x = rr) (gB G (fun (_ : Unit) => (wM m0 r cI cJ cZ cB cT hh)) A) A) args s 0 0 A) (F0 m 47 ls [.int y0]) := by
    intro h y0 hF H locs ls hP hD hS hl
    unfold f_X9_of_47 at hF
    obtain ⟨rfl, rfl⟩ := ob_pair hF
    exact gw_iret () hx hb hr hlocks hP hD hS rfl dX9_of_47
  unfold f_X9_of at hF
  refine lv_aload_n hx hb dX9_of_0 rfl (lv_at hl 0 rfl) ?_
  refine lv_iload_n hx hb dX9_of_1 rfl (lv_at hl 1 rfl) ?_
  obtain ⟨r_1, h_1, e_1, hF⟩ := ob2_some hF
  refine gx_calli (gx_runV (As := [.int p1]) (rest := []) ⟨hx, hb, hml, hown, hts⟩ (c_X9_isGoose l G cI cJ cZ cB cT m0 r h p1 r_1 h_1 e_1 H.size) (gG_V m_99 m_100 m_101 m_64 m_98) rfl e_X9_isGoose ⟨Nat.le_of_ble_eq_true rfl, Nat.le_of_ble_eq_true rfl⟩ hK hP hD hE hS hA 0 wM_at0 rfl rfl hl.1 rfl (Nat.le_of_ble_eq_true rfl) dX9_of_2 ⟨Nat.le_refl _, Nat.le_refl _⟩) hP hD hS hA (fun x_1 u_1 H locs hw_1 hP hD hS => ?_)
  subst x_1
  refine lv_if_eq (tgt := 18) hx hb dX9_of_5 (by decide) (fun c_2 => ?_) (fun c_2 => ?_)
  · have hF := ob_pos c_2 hF
    exact hJ_18 h_1 hF H _ ls hP hD hS (lv_sub hl [] rfl)
  · have hF := ob_neg c_2 hF
    refine lv_iload_n hx hb dX9_of_8 rfl (lv_at hl 2 rfl) ?_
    refine lv_iconst (v := 0) hx hb dX9_of_9 (by decide) ?_
    refine lv_bipush (v := 9) hx hb dX9_of_10 (by decide) ?_
    obtain ⟨r_3, e_3, hF⟩ := ob1_some hF
    refine gx_calli0 (gx_runS0 (As := [.int p2, .int 0, .int 9]) (rest := []) ⟨hx, hb, hml, hown, hts⟩ (c_X9_in l G cI cJ cZ cB cT   p2 0 9 r_3 e_3 H.size) (gG_S m_62 m_63 m_64 m_61) rfl e_X9_in ⟨Nat.le_of_ble_eq_true rfl, Nat.le_of_ble_eq_true rfl⟩ hK hE hS hA rfl hl.1 rfl (Nat.le_of_ble_eq_true rfl) dX9_of_12 ⟨Nat.le_refl _, Nat.le_refl _⟩) hP hD hS hA (fun x_3 u_3 H locs hw_3 hP hD hS => ?_)
    subst x_3
    refine lv_if_ne (tgt := 21) hx hb dX9_of_15 (by decide) (fun c_4 => ?_) (fun c_4 => ?_)
    · have hF := ob_neg c_4 hF
      refine lv_iload_n hx hb dX9_of_21 rfl (lv_at hl 2 rfl) ?_
      refine lv_bipush (v := 9) hx hb dX9_of_22 (by decide) ?_
      refine lv_icmp_ge (tgt := 34) hx hb dX9_of_24 (by decide) (fun c_5 => ?_) (fun c_5 => ?_)
      · have hF := ob_pos c_5 hF
        refine lv_aload_n hx hb dX9_of_34 rfl (lv_at hl 0 rfl) ?_
        refine lv_iload_n hx hb dX9_of_35 rfl (lv_at hl 1 rfl) ?_
        obtain ⟨r_6, h_6, e_6, hF⟩ := ob2_some hF
        refine gx_calli (gx_runV (As := [.int p1]) (rest := []) ⟨hx, hb, hml, hown, hts⟩ (c_X9_isTrue l G cI cJ cZ cB cT m0 r h_1 p1 r_6 h_6 e_6 H.size) (gG_V m_337 m_338 m_339 m_64 m_336) rfl e_X9_isTrue ⟨Nat.le_of_ble_eq_true rfl, Nat.le_of_ble_eq_true rfl⟩ hK hP hD hE hS hA 0 wM_at0 rfl rfl hl.1 rfl (Nat.le_of_ble_eq_true rfl) dX9_of_36 ⟨Nat.le_refl _, Nat.le_refl _⟩) hP hD hS hA (fun x_6 u_6 H locs hw_6 hP hD hS => ?_)
        subst x_6
        refine lv_if_eq (tgt := 46) hx hb dX9_of_39 (by decide) (fun c_7 => ?_) (fun c_7 => ?_)
        · have hF := ob_pos c_7 hF
          refine lv_iconst (v := 0) hx hb dX9_of_46 (by decide) ?_
          exact hJ_47 h_6 0 hF H _ ls hP hD hS (lv_sub hl [] rfl)
        · have hF := ob_neg c_7 hF
          refine lv_iconst (v := 1) hx hb dX9_of_42 (by decide) ?_
          refine lv_goto (tgt := 47) hx hb dX9_of_43 (by decide) ?_
          exact hJ_47 h_6 1 hF H _ ls hP hD hS (lv_sub hl [] rfl)
      · have hF := ob_neg c_5 hF
        refine lv_aload_n hx hb dX9_of_27 rfl (lv_at hl 0 rfl) ?_
        refine lv_iload_n hx hb dX9_of_28 rfl (lv_at hl 1 rfl) ?_
        refine lv_iload_n hx hb dX9_of_29 rfl (lv_at hl 2 rfl) ?_
        obtain ⟨r_8, h_8, e_8, hF⟩ := ob2_some hF
        refine gx_calli (gx_runV (As := [.int p1, .int p2]) (rest := []) ⟨hx, hb, hml, hown, hts⟩ (c_X9_ofGoose l G cI cJ cZ cB cT m0 r h_1 p1 p2 r_8 h_8 e_8 H.size) (gG_V m_103 m_104 m_105 m_64 m_102) rfl e_X9_ofGoose ⟨Nat.le_of_ble_eq_true rfl, Nat.le_of_ble_eq_true rfl⟩ hK hP hD hE hS hA 0 wM_at0 rfl rfl hl.1 rfl (Nat.le_of_ble_eq_true rfl) dX9_of_30 ⟨Nat.le_refl _, Nat.le_refl _⟩) hP hD hS hA (fun x_8 u_8 H locs hw_8 hP hD hS => ?_)
        subst x_8
        obtain ⟨rfl, rfl⟩ := ob_pair hF
        exact gw_iret () hx hb hr hlocks hP hD hS rfl dX9_of_33
    · have hF := ob_pos c_4 hF
      exact hJ_18 h_1 hF H _ ls hP hD hS (lv_sub hl [] rfl)
def f_X9_brought_51 (h : HS) : Option (Int32 × HS) := (some (0, h))
def f_X9_brought_79 (h : HS) (y0 : Int32) : Option (Int32 × HS) := (some (y0, h))
def f_X9_brought_66 (h : HS) (x1 : Int32) : Option (Int32 × HS) := (ob2 (f_X9_ofGoose h x1 3) (fun r_13 h_13 => (ob1 (f_X9_halves r_13) (fun r_14 => (f_X9_brought_79 h_13 r_14)))))
def f_X9_brought_48 (h : HS) (x1 : Int32) (x4 : Int32) (y0 : Int32) (y1 : Int32) : Option (Int32 × HS) := (if y1 = y0 then (if x4 = 0 then (ob2 (f_X9_isTrue h x1) (fun r_11 h_11 => (if r_11 = 0 then (f_X9_brought_79 h_11 0) else (f_X9_brought_66 h_11 x1)))) else (f_X9_brought_66 h x1)) else (f_X9_brought_51 h))
def f_X9_brought (h : HS) (p1 : Int32) (p2 : Int32) (p3 : Int32) (p4 : Int32) : Option (Int32 × HS) := (ob2 (f_X9_ofGoose h p1 2) (fun r_1 h_1 => (if r_1 = p2 then (ob2 (f_X9_ofGoose h_1 p1 7) (fun r_3 h_3 => (if r_3 = (-1) then (f_X9_brought_51 h_3) else (ob2 (f_X9_ofGoose h_3 p1 7) (fun r_5 h_5 => (if p3 < r_5 then (f_X9_brought_51 h_5) else (ob2 (f_X9_ofGoose h_5 p1 4) (fun r_7 h_7 => (if p4 = 0 then (f_X9_brought_48 h_7 p1 p4 2 r_7) else (f_X9_brought_48 h_7 p1 p4 4 r_7)))))))))) else (f_X9_brought_51 h_1))))
theorem e_X9_halves : yX9_halves.cls = RX9 ∧ yX9_halves.cls ≠ "java/lang/invoke/MethodHandle" ∧ yX9_halves.cls ≠ "java/lang/invoke/VarHandle" ∧ (parseMethodDescriptor yX9_halves.desc).map (fun d => d.parameters.length) = some 1 := by decide +kernel
set_option maxHeartbeats 4000000 in
set_option maxRecDepth 100000 in
theorem c_X9_brought (l : Launch) (G : va_G) (cI cJ cZ cB cT : ClassId) (m0 : Nat) (r : Nat → Nat) (h : HS) (p1 : Int32) (p2 : Int32) (p3 : Int32) (p4 : Int32) (rr : Int32) (hh : HS) (hF : f_X9_brought h p1 p2 p3 p4 = some (rr, hh)) : gMi l yX9_brought (gws yX9_brought cX9_brought 5 (some .int)) 6 G (gT cI cJ cZ cB cT) [.ref m0, .int p1, .int p2, .int p3, .int p4] (wM m0 r cI cJ cZ cB cT h) (fun x (_ : Unit) => x = rr) (fun (_ : Unit) => (wM m0 r cI cJ cZ cB cT hh)) := by
  intro sz
  refine gM_start (y := yX9_brought) (av := [.ref m0, .int p1, .int p2, .int p3, .int p4]) (ws := (wM m0 r cI cJ cZ cB cT h)) (Qf := fun A => va_Qi (fun x (_ : Unit) => x = rr) (gB G (fun (_ : Unit) => (wM m0 r cI cJ cZ cB cT hh)) A) A) (cc := cX9_brought) (maxL := 5) (ret := (some .int)) (by decide) (Nat.le_of_ble_eq_true rfl) ?_
  intro p e s m args below meth c A ls H hx hb hr hts hown hin hlocks hml hP hK hD hA hS hl hE
  have hl : lv_has ls 5 [(0, .ref m0), (1, .int p1), (2, .int p2), (3, .int p3), (4, .int p4)] := hl
  have hJ_51 : ∀ (h : HS), f_X9_brought_51 h = some (rr, hh) → ∀ (H : Heap) (locs : List Loc) (ls : Array Slot), va_P G vwCl (wM m0 r cI cJ cZ cB cT h) H → va_D A (wM m0 r cI cJ cZ cB cT h) → va_S A s.heap H locs → lv_has ls 5 [] → W p l e (gRm 6) s m args below meth c H locs 0 0 (MQ below (va_Qi (fun x (_ : Unit) => x = rr) (gB G (fun (_ : Unit) => (wM m0 r cI cJ cZ cB cT hh)) A) A) args s 0 0 A) (F0 m 51 ls []) := by
    intro h hF H locs ls hP hD hS hl
    unfold f_X9_brought_51 at hF
    refine lv_iconst (v := 0) hx hb dX9_brought_51 (by decide) ?_
    obtain ⟨rfl, rfl⟩ := ob_pair hF
    exact gw_iret () hx hb hr hlocks hP hD hS rfl dX9_brought_52
  have hJ_79 : ∀ (h : HS) (y0 : Int32), f_X9_brought_79 h y0 = some (rr, hh) → ∀ (H : Heap) (locs : List Loc) (ls : Array Slot), va_P G vwCl (wM m0 r cI cJ cZ cB cT h) H → va_D A (wM m0 r cI cJ cZ cB cT h) → va_S A s.heap H locs → lv_has ls 5 [] → W p l e (gRm 6) s m args below meth c H locs 0 0 (MQ below (va_Qi (fun x (_ : Unit) => x = rr) (gB G (fun (_ : Unit) => (wM m0 r cI cJ cZ cB cT hh)) A) A) args s 0 0 A) (F0 m 79 ls [.int y0]) := by
    intro h y0 hF H locs ls hP hD hS hl
    unfold f_X9_brought_79 at hF
    obtain ⟨rfl, rfl⟩ := ob_pair hF
    exact gw_iret () hx hb hr hlocks hP hD hS rfl dX9_brought_79
  have hJ_66 : ∀ (h : HS) (x1 : Int32), f_X9_brought_66 h x1 = some (rr, hh) → ∀ (H : Heap) (locs : List Loc) (ls : Array Slot), va_P G vwCl (wM m0 r cI cJ cZ cB cT h) H → va_D A (wM m0 r cI cJ cZ cB cT h) → va_S A s.heap H locs → lv_has ls 5 [(0, .ref m0), (1, .int x1)] → W p l e (gRm 6) s m args below meth c H locs 0 0 (MQ below (va_Qi (fun x (_ : Unit) => x = rr) (gB G (fun (_ : Unit) => (wM m0 r cI cJ cZ cB cT hh)) A) A) args s 0 0 A) (F0 m 66 ls []) := by
    intro h x1 hF H locs ls hP hD hS hl
    unfold f_X9_brought_66 at hF
    refine lv_aload_n hx hb dX9_brought_66 rfl (lv_at hl 0 rfl) ?_
    refine lv_iload_n hx hb dX9_brought_67 rfl (lv_at hl 1 rfl) ?_
    refine lv_iconst (v := 3) hx hb dX9_brought_68 (by decide) ?_
    obtain ⟨r_13, h_13, e_13, hF⟩ := ob2_some hF
    refine gx_calli (gx_runV (As := [.int x1, .int 3]) (rest := []) ⟨hx, hb, hml, hown, hts⟩ (c_X9_ofGoose l G cI cJ cZ cB cT m0 r h x1 3 r_13 h_13 e_13 H.size) (gG_V m_103 m_104 m_105 m_64 m_102) rfl e_X9_ofGoose ⟨Nat.le_of_ble_eq_true rfl, Nat.le_of_ble_eq_true rfl⟩ hK hP hD hE hS hA 0 wM_at0 rfl rfl hl.1 rfl (Nat.le_of_ble_eq_true rfl) dX9_brought_69 ⟨Nat.le_refl _, Nat.le_refl _⟩) hP hD hS hA (fun x_13 u_13 H locs hw_13 hP hD hS => ?_)
    subst x_13
    obtain ⟨r_14, e_14, hF⟩ := ob1_some hF
    refine gx_calli0 (gx_runS0 (As := [.int r_13]) (rest := []) ⟨hx, hb, hml, hown, hts⟩ (c_X9_halves l G cI cJ cZ cB cT   r_13 r_14 e_14 H.size) (gG_S m_341 m_342 m_64 m_340) rfl e_X9_halves ⟨Nat.le_of_ble_eq_true rfl, Nat.le_of_ble_eq_true rfl⟩ hK hE hS hA rfl hl.1 rfl (Nat.le_of_ble_eq_true rfl) dX9_brought_72 ⟨Nat.le_refl _, Nat.le_refl _⟩) hP hD hS hA (fun x_14 u_14 H locs hw_14 hP hD hS => ?_)
    subst x_14
    refine lv_goto (tgt := 79) hx hb dX9_brought_75 (by decide) ?_
    exact hJ_79 h_13 r_14 hF H _ ls hP hD hS (lv_sub hl [] rfl)
  have hJ_48 : ∀ (h : HS) (x1 : Int32) (x4 : Int32) (y0 : Int32) (y1 : Int32), f_X9_brought_48 h x1 x4 y0 y1 = some (rr, hh) → ∀ (H : Heap) (locs : List Loc) (ls : Array Slot), va_P G vwCl (wM m0 r cI cJ cZ cB cT h) H → va_D A (wM m0 r cI cJ cZ cB cT h) → va_S A s.heap H locs → lv_has ls 5 [(0, .ref m0), (1, .int x1), (4, .int x4)] → W p l e (gRm 6) s m args below meth c H locs 0 0 (MQ below (va_Qi (fun x (_ : Unit) => x = rr) (gB G (fun (_ : Unit) => (wM m0 r cI cJ cZ cB cT hh)) A) A) args s 0 0 A) (F0 m 48 ls [.int y0, .int y1]) := by
    intro h x1 x4 y0 y1 hF H locs ls hP hD hS hl
    unfold f_X9_brought_48 at hF
    refine lv_icmp_eq (tgt := 53) hx hb dX9_brought_48 (by decide) (fun c_9 => ?_) (fun c_9 => ?_)
    · have hF := ob_pos c_9 hF
      refine lv_iload hx hb dX9_brought_53 (lv_at hl 2 rfl) ?_
      refine lv_if_ne (tgt := 66) hx hb dX9_brought_55 (by decide) (fun c_10 => ?_) (fun c_10 => ?_)
      · have hF := ob_neg c_10 hF
        exact hJ_66 h x1 hF H _ ls hP hD hS (lv_sub hl [0, 1] rfl)
      · have hF := ob_pos c_10 hF
        refine lv_aload_n hx hb dX9_brought_58 rfl (lv_at hl 0 rfl) ?_
        refine lv_iload_n hx hb dX9_brought_59 rfl (lv_at hl 1 rfl) ?_
        obtain ⟨r_11, h_11, e_11, hF⟩ := ob2_some hF
        refine gx_calli (gx_runV (As := [.int x1]) (rest := []) ⟨hx, hb, hml, hown, hts⟩ (c_X9_isTrue l G cI cJ cZ cB cT m0 r h x1 r_11 h_11 e_11 H.size) (gG_V m_337 m_338 m_339 m_64 m_336) rfl e_X9_isTrue ⟨Nat.le_of_ble_eq_true rfl, Nat.le_of_ble_eq_true rfl⟩ hK hP hD hE hS hA 0 wM_at0 rfl rfl hl.1 rfl (Nat.le_of_ble_eq_true rfl) dX9_brought_60 ⟨Nat.le_refl _, Nat.le_refl _⟩) hP hD hS hA (fun x_11 u_11 H locs hw_11 hP hD hS => ?_)
        subst x_11
        refine lv_if_eq (tgt := 78) hx hb dX9_brought_63 (by decide) (fun c_12 => ?_) (fun c_12 => ?_)
        · have hF := ob_pos c_12 hF
          refine lv_iconst (v := 0) hx hb dX9_brought_78 (by decide) ?_
          exact hJ_79 h_11 0 hF H _ ls hP hD hS (lv_sub hl [] rfl)
        · have hF := ob_neg c_12 hF
          exact hJ_66 h_11 x1 hF H _ ls hP hD hS (lv_sub hl [0, 1] rfl)
    · have hF := ob_neg c_9 hF
      exact hJ_51 h hF H _ ls hP hD hS (lv_sub hl [] rfl)
  unfold f_X9_brought at hF
  refine lv_aload_n hx hb dX9_brought_0 rfl (lv_at hl 0 rfl) ?_
  refine lv_iload_n hx hb dX9_brought_1 rfl (lv_at hl 1 rfl) ?_
  refine lv_iconst (v := 2) hx hb dX9_brought_2 (by decide) ?_
  obtain ⟨r_1, h_1, e_1, hF⟩ := ob2_some hF
  refine gx_calli (gx_runV (As := [.int p1, .int 2]) (rest := []) ⟨hx, hb, hml, hown, hts⟩ (c_X9_ofGoose l G cI cJ cZ cB cT m0 r h p1 2 r_1 h_1 e_1 H.size) (gG_V m_103 m_104 m_105 m_64 m_102) rfl e_X9_ofGoose ⟨Nat.le_of_ble_eq_true rfl, Nat.le_of_ble_eq_true rfl⟩ hK hP hD hE hS hA 0 wM_at0 rfl rfl hl.1 rfl (Nat.le_of_ble_eq_true rfl) dX9_brought_3 ⟨Nat.le_refl _, Nat.le_refl _⟩) hP hD hS hA (fun x_1 u_1 H locs hw_1 hP hD hS => ?_)
  subst x_1
  refine lv_iload_n hx hb dX9_brought_6 rfl (lv_at hl 2 rfl) ?_
  refine lv_icmp_ne (tgt := 51) hx hb dX9_brought_7 (by decide) (fun c_2 => ?_) (fun c_2 => ?_)
  · have hF := ob_neg c_2 hF
    exact hJ_51 h_1 hF H _ ls hP hD hS (lv_sub hl [] rfl)
  · have hF := ob_pos c_2 hF
    refine lv_aload_n hx hb dX9_brought_10 rfl (lv_at hl 0 rfl) ?_
    refine lv_iload_n hx hb dX9_brought_11 rfl (lv_at hl 1 rfl) ?_
    refine lv_bipush (v := 7) hx hb dX9_brought_12 (by decide) ?_
    obtain ⟨r_3, h_3, e_3, hF⟩ := ob2_some hF
    refine gx_calli (gx_runV (As := [.int p1, .int 7]) (rest := []) ⟨hx, hb, hml, hown, hts⟩ (c_X9_ofGoose l G cI cJ cZ cB cT m0 r h_1 p1 7 r_3 h_3 e_3 H.size) (gG_V m_103 m_104 m_105 m_64 m_102) rfl e_X9_ofGoose ⟨Nat.le_of_ble_eq_true rfl, Nat.le_of_ble_eq_true rfl⟩ hK hP hD hE hS hA 0 wM_at0 rfl rfl hl.1 rfl (Nat.le_of_ble_eq_true rfl) dX9_brought_14 ⟨Nat.le_refl _, Nat.le_refl _⟩) hP hD hS hA (fun x_3 u_3 H locs hw_3 hP hD hS => ?_)
    subst x_3
    refine lv_iconst (v := (-1)) hx hb dX9_brought_17 (by decide) ?_
    refine lv_icmp_eq (tgt := 51) hx hb dX9_brought_18 (by decide) (fun c_4 => ?_) (fun c_4 => ?_)
    · have hF := ob_pos c_4 hF
      exact hJ_51 h_3 hF H _ ls hP hD hS (lv_sub hl [] rfl)
    · have hF := ob_neg c_4 hF
      refine lv_aload_n hx hb dX9_brought_21 rfl (lv_at hl 0 rfl) ?_
      refine lv_iload_n hx hb dX9_brought_22 rfl (lv_at hl 1 rfl) ?_
      refine lv_bipush (v := 7) hx hb dX9_brought_23 (by decide) ?_
      obtain ⟨r_5, h_5, e_5, hF⟩ := ob2_some hF
      refine gx_calli (gx_runV (As := [.int p1, .int 7]) (rest := []) ⟨hx, hb, hml, hown, hts⟩ (c_X9_ofGoose l G cI cJ cZ cB cT m0 r h_3 p1 7 r_5 h_5 e_5 H.size) (gG_V m_103 m_104 m_105 m_64 m_102) rfl e_X9_ofGoose ⟨Nat.le_of_ble_eq_true rfl, Nat.le_of_ble_eq_true rfl⟩ hK hP hD hE hS hA 0 wM_at0 rfl rfl hl.1 rfl (Nat.le_of_ble_eq_true rfl) dX9_brought_25 ⟨Nat.le_refl _, Nat.le_refl _⟩) hP hD hS hA (fun x_5 u_5 H locs hw_5 hP hD hS => ?_)
      subst x_5
      refine lv_iload_n hx hb dX9_brought_28 rfl (lv_at hl 3 rfl) ?_
      refine lv_icmp_gt (tgt := 51) hx hb dX9_brought_29 (by decide) (fun c_6 => ?_) (fun c_6 => ?_)
      · have hF := ob_pos c_6 hF
        exact hJ_51 h_5 hF H _ ls hP hD hS (lv_sub hl [] rfl)
      · have hF := ob_neg c_6 hF
        refine lv_aload_n hx hb dX9_brought_32 rfl (lv_at hl 0 rfl) ?_
        refine lv_iload_n hx hb dX9_brought_33 rfl (lv_at hl 1 rfl) ?_
        refine lv_iconst (v := 4) hx hb dX9_brought_34 (by decide) ?_
        obtain ⟨r_7, h_7, e_7, hF⟩ := ob2_some hF
        refine gx_calli (gx_runV (As := [.int p1, .int 4]) (rest := []) ⟨hx, hb, hml, hown, hts⟩ (c_X9_ofGoose l G cI cJ cZ cB cT m0 r h_5 p1 4 r_7 h_7 e_7 H.size) (gG_V m_103 m_104 m_105 m_64 m_102) rfl e_X9_ofGoose ⟨Nat.le_of_ble_eq_true rfl, Nat.le_of_ble_eq_true rfl⟩ hK hP hD hE hS hA 0 wM_at0 rfl rfl hl.1 rfl (Nat.le_of_ble_eq_true rfl) dX9_brought_35 ⟨Nat.le_refl _, Nat.le_refl _⟩) hP hD hS hA (fun x_7 u_7 H locs hw_7 hP hD hS => ?_)
        subst x_7
        refine lv_iload hx hb dX9_brought_38 (lv_at hl 4 rfl) ?_
        refine lv_if_eq (tgt := 47) hx hb dX9_brought_40 (by decide) (fun c_8 => ?_) (fun c_8 => ?_)
        · have hF := ob_pos c_8 hF
          refine lv_iconst (v := 2) hx hb dX9_brought_47 (by decide) ?_
          exact hJ_48 h_7 p1 p4 2 r_7 hF H _ ls hP hD hS (lv_sub hl [0, 1, 4] rfl)
        · have hF := ob_neg c_8 hF
          refine lv_iconst (v := 4) hx hb dX9_brought_43 (by decide) ?_
          refine lv_goto (tgt := 48) hx hb dX9_brought_44 (by decide) ?_
          exact hJ_48 h_7 p1 p4 4 r_7 hF H _ ls hP hD hS (lv_sub hl [0, 1, 4] rfl)
def f_X9_knownBy_6 : Nat → HS → Int32 → Int32 → Int32 → Int32 → Int32 → Option (Int32 × HS)
  | 0, _, _, _, _, _, _ => none
  | n + 1, h, x1, x2, x3, x4, x5 => (if ((eA h 0 0) 1) ≤ x5 then (some (x4, h)) else (ob2 (f_X9_brought h x5 x1 x2 x3) (fun r_2 h_2 => ((f_X9_knownBy_6 n) h_2 x1 x2 x3 (x4 ||| r_2) (x5 + 1)))))
theorem f_X9_knownBy_6_s (n : Nat) (h : HS) (x1 : Int32) (x2 : Int32) (x3 : Int32) (x4 : Int32) (x5 : Int32) : f_X9_knownBy_6 (n + 1) h x1 x2 x3 x4 x5 = (if ((eA h 0 0) 1) ≤ x5 then (some (x4, h)) else (ob2 (f_X9_brought h x5 x1 x2 x3) (fun r_2 h_2 => ((f_X9_knownBy_6 n) h_2 x1 x2 x3 (x4 ||| r_2) (x5 + 1))))) := rfl
def f_X9_knownBy (h : HS) (p1 : Int32) (p2 : Int32) (p3 : Int32) : Option (Int32 × HS) := (f_X9_knownBy_6 8589934592 h p1 p2 p3 0 0)
theorem e_X9_brought : yX9_brought.cls = RX9 ∧ yX9_brought.cls ≠ "java/lang/invoke/MethodHandle" ∧ yX9_brought.cls ≠ "java/lang/invoke/VarHandle" ∧ (parseMethodDescriptor yX9_brought.desc).map (fun d => d.parameters.length) = some 4 := by decide +kernel
set_option maxHeartbeats 4000000 in
set_option maxRecDepth 100000 in
theorem c_X9_knownBy (l : Launch) (G : va_G) (cI cJ cZ cB cT : ClassId) (m0 : Nat) (r : Nat → Nat) (h : HS) (p1 : Int32) (p2 : Int32) (p3 : Int32) (rr : Int32) (hh : HS) (hF : f_X9_knownBy h p1 p2 p3 = some (rr, hh)) : gMi l yX9_knownBy (gws yX9_knownBy cX9_knownBy 6 (some .int)) 7 G (gT cI cJ cZ cB cT) [.ref m0, .int p1, .int p2, .int p3] (wM m0 r cI cJ cZ cB cT h) (fun x (_ : Unit) => x = rr) (fun (_ : Unit) => (wM m0 r cI cJ cZ cB cT hh)) := by
  intro sz
  refine gM_start (y := yX9_knownBy) (av := [.ref m0, .int p1, .int p2, .int p3]) (ws := (wM m0 r cI cJ cZ cB cT h)) (Qf := fun A => va_Qi (fun x (_ : Unit) => x = rr) (gB G (fun (_ : Unit) => (wM m0 r cI cJ cZ cB cT hh)) A) A) (cc := cX9_knownBy) (maxL := 6) (ret := (some .int)) (by decide) (Nat.le_of_ble_eq_true rfl) ?_
  intro p e s m args below meth c A ls H hx hb hr hts hown hin hlocks hml hP hK hD hA hS hl hE
  have hl : lv_has ls 6 [(0, .ref m0), (1, .int p1), (2, .int p2), (3, .int p3)] := hl
  have hJ_6 : ∀ (n_6 : Nat) (h : HS) (x1 : Int32) (x2 : Int32) (x3 : Int32) (x4 : Int32) (x5 : Int32), f_X9_knownBy_6 n_6 h x1 x2 x3 x4 x5 = some (rr, hh) → ∀ (H : Heap) (locs : List Loc) (ls : Array Slot), va_P G vwCl (wM m0 r cI cJ cZ cB cT h) H → va_D A (wM m0 r cI cJ cZ cB cT h) → va_S A s.heap H locs → lv_has ls 6 [(0, .ref m0), (1, .int x1), (2, .int x2), (3, .int x3), (4, .int x4), (5, .int x5)] → W p l e (gRm 7) s m args below meth c H locs 0 0 (MQ below (va_Qi (fun x (_ : Unit) => x = rr) (gB G (fun (_ : Unit) => (wM m0 r cI cJ cZ cB cT hh)) A) A) args s 0 0 A) (F0 m 6 ls []) := by
    intro n_6
    induction n_6 with
    | zero =>
      intro h x1 x2 x3 x4 x5 hF
      exact absurd hF (by simp [f_X9_knownBy_6])
    | succ n_6 ih_6 =>
      intro h x1 x2 x3 x4 x5 hF H locs ls hP hD hS hl
      rw [f_X9_knownBy_6_s] at hF
      refine lv_iload hx hb dX9_knownBy_6 (lv_at hl 5 rfl) ?_
      refine lv_aload_n hx hb dX9_knownBy_8 rfl (lv_at hl 0 rfl) ?_
      refine va_get (D := G) (ci := 9) (v := .ref (r 0)) (C := RX9) (T := TX9) (N := 53) hx hb hts iX9 hown hK hP 0 wM_at0 rfl 0 (by decide) (hts _ m_92) (fun _ h9 => h9) rfl dX9_knownBy_9 ?_
      refine lv_iconst (v := 1) hx hb dX9_knownBy_12 (by decide) ?_
      refine va_iald (D := G) hx hb hK hP 1 0 wM_at1 rfl (vp_in_nI (n := 1) (by decide) (by decide)) dX9_knownBy_13 ?_
      refine gw_topi (y := ((eA h 0 0) 1)) rfl ?_
      refine lv_icmp_ge (tgt := 37) hx hb dX9_knownBy_14 (by decide) (fun c_1 => ?_) (fun c_1 => ?_)
      · have hF := ob_pos c_1 hF
        refine lv_iload hx hb dX9_knownBy_37 (lv_at hl 4 rfl) ?_
        obtain ⟨rfl, rfl⟩ := ob_pair hF
        exact gw_iret () hx hb hr hlocks hP hD hS rfl dX9_knownBy_39
      · have hF := ob_neg c_1 hF
        refine lv_iload hx hb dX9_knownBy_17 (lv_at hl 4 rfl) ?_
        refine lv_aload_n hx hb dX9_knownBy_19 rfl (lv_at hl 0 rfl) ?_
        refine lv_iload hx hb dX9_knownBy_20 (lv_at hl 5 rfl) ?_
        refine lv_iload_n hx hb dX9_knownBy_22 rfl (lv_at hl 1 rfl) ?_
        refine lv_iload_n hx hb dX9_knownBy_23 rfl (lv_at hl 2 rfl) ?_
        refine lv_iload_n hx hb dX9_knownBy_24 rfl (lv_at hl 3 rfl) ?_
        obtain ⟨r_2, h_2, e_2, hF⟩ := ob2_some hF
        refine gx_calli (gx_runV (As := [.int x5, .int x1, .int x2, .int x3]) (rest := [.int x4]) ⟨hx, hb, hml, hown, hts⟩ (c_X9_brought l G cI cJ cZ cB cT m0 r h x5 x1 x2 x3 r_2 h_2 e_2 H.size) (gG_V m_344 m_345 m_346 m_64 m_343) rfl e_X9_brought ⟨Nat.le_of_ble_eq_true rfl, Nat.le_of_ble_eq_true rfl⟩ hK hP hD hE hS hA 0 wM_at0 rfl rfl hl.1 rfl (Nat.le_of_ble_eq_true rfl) dX9_knownBy_25 ⟨Nat.le_refl _, Nat.le_refl _⟩) hP hD hS hA (fun x_2 u_2 H locs hw_2 hP hD hS => ?_)
        subst x_2
        refine lv_ior hx hb dX9_knownBy_28 ?_
        refine lv_istore (lv' := [(4, .int (x4 ||| r_2)), (0, .ref m0), (1, .int x1), (2, .int x2), (3, .int x3), (5, .int x5)]) hx hb dX9_knownBy_29 hl (by decide) rfl (fun ls hl => ?_)
        refine lv_iinc (v := (x5 + 1)) (lv' := [(5, .int (x5 + 1)), (4, .int (x4 ||| r_2)), (0, .ref m0), (1, .int x1), (2, .int x2), (3, .int x3)]) hx hb dX9_knownBy_31 hl (k := 5) rfl rfl (by decide) rfl (fun ls hl => ?_)
        refine lv_goto (tgt := 6) hx hb dX9_knownBy_34 (by decide) ?_
        exact ih_6 h_2 x1 x2 x3 (x4 ||| r_2) (x5 + 1) hF H _ ls hP hD hS (lv_sub hl [2, 3, 4, 5, 1, 0] rfl)
  unfold f_X9_knownBy at hF
  refine lv_iconst (v := 0) hx hb dX9_knownBy_0 (by decide) ?_
  refine lv_istore (lv' := [(4, .int 0), (0, .ref m0), (1, .int p1), (2, .int p2), (3, .int p3)]) hx hb dX9_knownBy_1 hl (by decide) rfl (fun ls hl => ?_)
  refine lv_iconst (v := 0) hx hb dX9_knownBy_3 (by decide) ?_
  refine lv_istore (lv' := [(5, .int 0), (4, .int 0), (0, .ref m0), (1, .int p1), (2, .int p2), (3, .int p3)]) hx hb dX9_knownBy_4 hl (by decide) rfl (fun ls hl => ?_)
  exact hJ_6 8589934592 h p1 p2 p3 0 0 hF H _ ls hP hD hS (lv_sub hl [2, 3, 4, 5, 1, 0] rfl)
def f_X9_known_18 (h : HS) : Option (Int32 × HS) := (some ((-1), h))
def f_X9_known_52 (h : HS) (y0 : Int32) (y1 : Int32) : Option (Int32 × HS) := (some ((y1 + y0), h))
def f_X9_known_36 (h : HS) (x1 : Int32) (x2 : Int32) (y0 : Int32) : Option (Int32 × HS) := (ob2 (f_X9_knownBy h x1 x2 1) (fun r_7 h_7 => (if r_7 = 3 then (f_X9_known_52 h_7 2 y0) else (f_X9_known_52 h_7 0 y0))))
def f_X9_known (h : HS) (p1 : Int32) (p2 : Int32) : Option (Int32 × HS) := (ob1 (f_X9_isLetterNumber p1) (fun r_1 => (if r_1 = 0 then (f_X9_known_18 h) else (ob1 (f_X9_in p2 0 999) (fun r_3 => (if r_3 = 0 then (f_X9_known_18 h) else (ob2 (f_X9_knownBy h p1 p2 0) (fun r_5 h_5 => (if r_5 = 3 then (f_X9_known_36 h_5 p1 p2 1) else (f_X9_known_36 h_5 p1 p2 0))))))))))
theorem e_X9_isLetterNumber : yX9_isLetterNumber.cls = RX9 ∧ yX9_isLetterNumber.cls ≠ "java/lang/invoke/MethodHandle" ∧ yX9_isLetterNumber.cls ≠ "java/lang/invoke/VarHandle" ∧ (parseMethodDescriptor yX9_isLetterNumber.desc).map (fun d => d.parameters.length) = some 1 := by decide +kernel
theorem e_X9_knownBy : yX9_knownBy.cls = RX9 ∧ yX9_knownBy.cls ≠ "java/lang/invoke/MethodHandle" ∧ yX9_knownBy.cls ≠ "java/lang/invoke/VarHandle" ∧ (parseMethodDescriptor yX9_knownBy.desc).map (fun d => d.parameters.length) = some 3 := by decide +kernel
set_option maxHeartbeats 4000000 in
set_option maxRecDepth 100000 in
theorem c_X9_known (l : Launch) (G : va_G) (cI cJ cZ cB cT : ClassId) (m0 : Nat) (r : Nat → Nat) (h : HS) (p1 : Int32) (p2 : Int32) (rr : Int32) (hh : HS) (hF : f_X9_known h p1 p2 = some (rr, hh)) : gMi l yX9_known (gws yX9_known cX9_known 3 (some .int)) 8 G (gT cI cJ cZ cB cT) [.ref m0, .int p1, .int p2] (wM m0 r cI cJ cZ cB cT h) (fun x (_ : Unit) => x = rr) (fun (_ : Unit) => (wM m0 r cI cJ cZ cB cT hh)) := by
  intro sz
  refine gM_start (y := yX9_known) (av := [.ref m0, .int p1, .int p2]) (ws := (wM m0 r cI cJ cZ cB cT h)) (Qf := fun A => va_Qi (fun x (_ : Unit) => x = rr) (gB G (fun (_ : Unit) => (wM m0 r cI cJ cZ cB cT hh)) A) A) (cc := cX9_known) (maxL := 3) (ret := (some .int)) (by decide) (Nat.le_of_ble_eq_true rfl) ?_
  intro p e s m args below meth c A ls H hx hb hr hts hown hin hlocks hml hP hK hD hA hS hl hE
  have hl : lv_has ls 3 [(0, .ref m0), (1, .int p1), (2, .int p2)] := hl
  have hJ_18 : ∀ (h : HS), f_X9_known_18 h = some (rr, hh) → ∀ (H : Heap) (locs : List Loc) (ls : Array Slot), va_P G vwCl (wM m0 r cI cJ cZ cB cT h) H → va_D A (wM m0 r cI cJ cZ cB cT h) → va_S A s.heap H locs → lv_has ls 3 [] → W p l e (gRm 8) s m args below meth c H locs 0 0 (MQ below (va_Qi (fun x (_ : Unit) => x = rr) (gB G (fun (_ : Unit) => (wM m0 r cI cJ cZ cB cT hh)) A) A) args s 0 0 A) (F0 m 18 ls []) := by
    intro h hF H locs ls hP hD hS hl
    unfold f_X9_known_18 at hF
    refine lv_iconst (v := (-1)) hx hb dX9_known_18 (by decide) ?_
    obtain ⟨rfl, rfl⟩ := ob_pair hF
    exact gw_iret () hx hb hr hlocks hP hD hS rfl dX9_known_19
  have hJ_52 : ∀ (h : HS) (y0 : Int32) (y1 : Int32), f_X9_known_52 h y0 y1 = some (rr, hh) → ∀ (H : Heap) (locs : List Loc) (ls : Array Slot), va_P G vwCl (wM m0 r cI cJ cZ cB cT h) H → va_D A (wM m0 r cI cJ cZ cB cT h) → va_S A s.heap H locs → lv_has ls 3 [] → W p l e (gRm 8) s m args below meth c H locs 0 0 (MQ below (va_Qi (fun x (_ : Unit) => x = rr) (gB G (fun (_ : Unit) => (wM m0 r cI cJ cZ cB cT hh)) A) A) args s 0 0 A) (F0 m 52 ls [.int y0, .int y1]) := by
    intro h y0 y1 hF H locs ls hP hD hS hl
    unfold f_X9_known_52 at hF
    refine lv_iadd hx hb dX9_known_52 ?_
    obtain ⟨rfl, rfl⟩ := ob_pair hF
    exact gw_iret () hx hb hr hlocks hP hD hS rfl dX9_known_53
  have hJ_36 : ∀ (h : HS) (x1 : Int32) (x2 : Int32) (y0 : Int32), f_X9_known_36 h x1 x2 y0 = some (rr, hh) → ∀ (H : Heap) (locs : List Loc) (ls : Array Slot), va_P G vwCl (wM m0 r cI cJ cZ cB cT h) H → va_D A (wM m0 r cI cJ cZ cB cT h) → va_S A s.heap H locs → lv_has ls 3 [(0, .ref m0), (1, .int x1), (2, .int x2)] → W p l e (gRm 8) s m args below meth c H locs 0 0 (MQ below (va_Qi (fun x (_ : Unit) => x = rr) (gB G (fun (_ : Unit) => (wM m0 r cI cJ cZ cB cT hh)) A) A) args s 0 0 A) (F0 m 36 ls [.int y0]) := by
    intro h x1 x2 y0 hF H locs ls hP hD hS hl
    unfold f_X9_known_36 at hF
    refine lv_aload_n hx hb dX9_known_36 rfl (lv_at hl 0 rfl) ?_
    refine lv_iload_n hx hb dX9_known_37 rfl (lv_at hl 1 rfl) ?_
    refine lv_iload_n hx hb dX9_known_38 rfl (lv_at hl 2 rfl) ?_
    refine lv_iconst (v := 1) hx hb dX9_known_39 (by decide) ?_
    obtain ⟨r_7, h_7, e_7, hF⟩ := ob2_some hF
    refine gx_calli (gx_runV (As := [.int x1, .int x2, .int 1]) (rest := [.int y0]) ⟨hx, hb, hml, hown, hts⟩ (c_X9_knownBy l G cI cJ cZ cB cT m0 r h x1 x2 1 r_7 h_7 e_7 H.size) (gG_V m_351 m_352 m_353 m_64 m_350) rfl e_X9_knownBy ⟨Nat.le_of_ble_eq_true rfl, Nat.le_of_ble_eq_true rfl⟩ hK hP hD hE hS hA 0 wM_at0 rfl rfl hl.1 rfl (Nat.le_of_ble_eq_true rfl) dX9_known_40 ⟨Nat.le_refl _, Nat.le_refl _⟩) hP hD hS hA (fun x_7 u_7 H locs hw_7 hP hD hS => ?_)
    subst x_7
    refine lv_iconst (v := 3) hx hb dX9_known_43 (by decide) ?_
    refine lv_icmp_ne (tgt := 51) hx hb dX9_known_44 (by decide) (fun c_8 => ?_) (fun c_8 => ?_)
    · have hF := ob_neg c_8 hF
      refine lv_iconst (v := 0) hx hb dX9_known_51 (by decide) ?_
      exact hJ_52 h_7 0 y0 hF H _ ls hP hD hS (lv_sub hl [] rfl)
    · have hF := ob_pos c_8 hF
      refine lv_iconst (v := 2) hx hb dX9_known_47 (by decide) ?_
      refine lv_goto (tgt := 52) hx hb dX9_known_48 (by decide) ?_
      exact hJ_52 h_7 2 y0 hF H _ ls hP hD hS (lv_sub hl [] rfl)
  unfold f_X9_known at hF
  refine lv_iload_n hx hb dX9_known_0 rfl (lv_at hl 1 rfl) ?_
  obtain ⟨r_1, e_1, hF⟩ := ob1_some hF
  refine gx_calli0 (gx_runS0 (As := [.int p1]) (rest := []) ⟨hx, hb, hml, hown, hts⟩ (c_X9_isLetterNumber l G cI cJ cZ cB cT   p1 r_1 e_1 H.size) (gG_S m_348 m_349 m_64 m_347) rfl e_X9_isLetterNumber ⟨Nat.le_of_ble_eq_true rfl, Nat.le_of_ble_eq_true rfl⟩ hK hE hS hA rfl hl.1 rfl (Nat.le_of_ble_eq_true rfl) dX9_known_1 ⟨Nat.le_refl _, Nat.le_refl _⟩) hP hD hS hA (fun x_1 u_1 H locs hw_1 hP hD hS => ?_)
  subst x_1
  refine lv_if_eq (tgt := 18) hx hb dX9_known_4 (by decide) (fun c_2 => ?_) (fun c_2 => ?_)
  · have hF := ob_pos c_2 hF
    exact hJ_18 h hF H _ ls hP hD hS (lv_sub hl [] rfl)
  · have hF := ob_neg c_2 hF
    refine lv_iload_n hx hb dX9_known_7 rfl (lv_at hl 2 rfl) ?_
    refine lv_iconst (v := 0) hx hb dX9_known_8 (by decide) ?_
    refine lv_sipush (v := 999) hx hb dX9_known_9 (by decide) ?_
    obtain ⟨r_3, e_3, hF⟩ := ob1_some hF
    refine gx_calli0 (gx_runS0 (As := [.int p2, .int 0, .int 999]) (rest := []) ⟨hx, hb, hml, hown, hts⟩ (c_X9_in l G cI cJ cZ cB cT   p2 0 999 r_3 e_3 H.size) (gG_S m_62 m_63 m_64 m_61) rfl e_X9_in ⟨Nat.le_of_ble_eq_true rfl, Nat.le_of_ble_eq_true rfl⟩ hK hE hS hA rfl hl.1 rfl (Nat.le_of_ble_eq_true rfl) dX9_known_12 ⟨Nat.le_refl _, Nat.le_refl _⟩) hP hD hS hA (fun x_3 u_3 H locs hw_3 hP hD hS => ?_)
    subst x_3
    refine lv_if_ne (tgt := 20) hx hb dX9_known_15 (by decide) (fun c_4 => ?_) (fun c_4 => ?_)
    · have hF := ob_neg c_4 hF
      refine lv_aload_n hx hb dX9_known_20 rfl (lv_at hl 0 rfl) ?_
      refine lv_iload_n hx hb dX9_known_21 rfl (lv_at hl 1 rfl) ?_
      refine lv_iload_n hx hb dX9_known_22 rfl (lv_at hl 2 rfl) ?_
      refine lv_iconst (v := 0) hx hb dX9_known_23 (by decide) ?_
      obtain ⟨r_5, h_5, e_5, hF⟩ := ob2_some hF
      refine gx_calli (gx_runV (As := [.int p1, .int p2, .int 0]) (rest := []) ⟨hx, hb, hml, hown, hts⟩ (c_X9_knownBy l G cI cJ cZ cB cT m0 r h p1 p2 0 r_5 h_5 e_5 H.size) (gG_V m_351 m_352 m_353 m_64 m_350) rfl e_X9_knownBy ⟨Nat.le_of_ble_eq_true rfl, Nat.le_of_ble_eq_true rfl⟩ hK hP hD hE hS hA 0 wM_at0 rfl rfl hl.1 rfl (Nat.le_of_ble_eq_true rfl) dX9_known_24 ⟨Nat.le_refl _, Nat.le_refl _⟩) hP hD hS hA (fun x_5 u_5 H locs hw_5 hP hD hS => ?_)
      subst x_5
      refine lv_iconst (v := 3) hx hb dX9_known_27 (by decide) ?_
      refine lv_icmp_ne (tgt := 35) hx hb dX9_known_28 (by decide) (fun c_6 => ?_) (fun c_6 => ?_)
      · have hF := ob_neg c_6 hF
        refine lv_iconst (v := 0) hx hb dX9_known_35 (by decide) ?_
        exact hJ_36 h_5 p1 p2 0 hF H _ ls hP hD hS (lv_sub hl [0, 1, 2] rfl)
      · have hF := ob_pos c_6 hF
        refine lv_iconst (v := 1) hx hb dX9_known_31 (by decide) ?_
        refine lv_goto (tgt := 36) hx hb dX9_known_32 (by decide) ?_
        exact hJ_36 h_5 p1 p2 1 hF H _ ls hP hD hS (lv_sub hl [0, 1, 2] rfl)
    · have hF := ob_pos c_4 hF
      exact hJ_18 h hF H _ ls hP hD hS (lv_sub hl [] rfl)
def f_X9_led_70 (k14 : HS → Int32 → Int32 → Int32 → Int32 → Option (Int32 × HS)) (k25 : HS → Int32 → Int32 → Int32 → Int32 → Int32 → Option (Int32 × HS)) (h : HS) (x1 : Int32) (x2 : Int32) (x3 : Int32) (x4 : Int32) (x5 : Int32) : Option (Int32 × HS) := (k25 h x1 x2 x3 x4 (x5 + 1))
def f_X9_led_25 (k14 : HS → Int32 → Int32 → Int32 → Int32 → Option (Int32 × HS)) : Nat → HS → Int32 → Int32 → Int32 → Int32 → Int32 → Option (Int32 × HS)
  | 0, _, _, _, _, _, _ => none
  | n + 1, h, x1, x2, x3, x4, x5 => (if ((eA h 0 0) 1) ≤ x5 then (k14 h x1 x2 x3 (x4 + 1)) else (ob2 (f_X9_ofGoose h x5 7) (fun r_5 h_5 => (if r_5 = x4 then (ob2 (f_X9_brought h_5 x5 x1 x4 x2) (fun r_7 h_7 => (if (x3 ||| r_7) = 3 then (some (x5, h_7)) else (f_X9_led_70 k14 (f_X9_led_25 k14 n) h_7 x1 x2 (x3 ||| r_7) x4 x5)))) else (f_X9_led_70 k14 (f_X9_led_25 k14 n) h_5 x1 x2 x3 x4 x5)))))
theorem f_X9_led_25_s (k14 : HS → Int32 → Int32 → Int32 → Int32 → Option (Int32 × HS)) (n : Nat) (h : HS) (x1 : Int32) (x2 : Int32) (x3 : Int32) (x4 : Int32) (x5 : Int32) : f_X9_led_25 k14 (n + 1) h x1 x2 x3 x4 x5 = (if ((eA h 0 0) 1) ≤ x5 then (k14 h x1 x2 x3 (x4 + 1)) else (ob2 (f_X9_ofGoose h x5 7) (fun r_5 h_5 => (if r_5 = x4 then (ob2 (f_X9_brought h_5 x5 x1 x4 x2) (fun r_7 h_7 => (if (x3 ||| r_7) = 3 then (some (x5, h_7)) else (f_X9_led_70 k14 (f_X9_led_25 k14 n) h_7 x1 x2 (x3 ||| r_7) x4 x5)))) else (f_X9_led_70 k14 (f_X9_led_25 k14 n) h_5 x1 x2 x3 x4 x5))))) := rfl
def f_X9_led_14 : Nat → HS → Int32 → Int32 → Int32 → Int32 → Option (Int32 × HS)
  | 0, _, _, _, _, _ => none
  | n + 1, h, x1, x2, x3, x4 => (if 1000 ≤ x4 then (some ((-1), h)) else (f_X9_led_25 (f_X9_led_14 n) 8589934592 h x1 x2 x3 x4 0))
theorem f_X9_led_14_s (n : Nat) (h : HS) (x1 : Int32) (x2 : Int32) (x3 : Int32) (x4 : Int32) : f_X9_led_14 (n + 1) h x1 x2 x3 x4 = (if 1000 ≤ x4 then (some ((-1), h)) else (f_X9_led_25 (f_X9_led_14 n) 8589934592 h x1 x2 x3 x4 0)) := rfl
def f_X9_led (h : HS) (p1 : Int32) (p2 : Int32) : Option (Int32 × HS) := (ob1 (f_X9_isLetterNumber p1) (fun r_1 => (if r_1 = 0 then (some ((-1), h)) else (f_X9_led_14 8589934592 h p1 p2 0 0))))
set_option maxHeartbeats 4000000 in
set_option maxRecDepth 100000 in
theorem c_X9_led (l : Launch) (G : va_G) (cI cJ cZ cB cT : ClassId) (m0 : Nat) (r : Nat → Nat) (h : HS) (p1 : Int32) (p2 : Int32) (rr : Int32) (hh : HS) (hF : f_X9_led h p1 p2 = some (rr, hh)) : gMi l yX9_led (gws yX9_led cX9_led 6 (some .int)) 7 G (gT cI cJ cZ cB cT) [.ref m0, .int p1, .int p2] (wM m0 r cI cJ cZ cB cT h) (fun x (_ : Unit) => x = rr) (fun (_ : Unit) => (wM m0 r cI cJ cZ cB cT hh)) := by
  intro sz
  refine gM_start (y := yX9_led) (av := [.ref m0, .int p1, .int p2]) (ws := (wM m0 r cI cJ cZ cB cT h)) (Qf := fun A => va_Qi (fun x (_ : Unit) => x = rr) (gB G (fun (_ : Unit) => (wM m0 r cI cJ cZ cB cT hh)) A) A) (cc := cX9_led) (maxL := 6) (ret := (some .int)) (by decide) (Nat.le_of_ble_eq_true rfl) ?_
  intro p e s m args below meth c A ls H hx hb hr hts hown hin hlocks hml hP hK hD hA hS hl hE
  have hl : lv_has ls 6 [(0, .ref m0), (1, .int p1), (2, .int p2)] := hl
  have hJ_14 : ∀ (n_14 : Nat) (h : HS) (x1 : Int32) (x2 : Int32) (x3 : Int32) (x4 : Int32), f_X9_led_14 n_14 h x1 x2 x3 x4 = some (rr, hh) → ∀ (H : Heap) (locs : List Loc) (ls : Array Slot), va_P G vwCl (wM m0 r cI cJ cZ cB cT h) H → va_D A (wM m0 r cI cJ cZ cB cT h) → va_S A s.heap H locs → lv_has ls 6 [(0, .ref m0), (1, .int x1), (2, .int x2), (3, .int x3), (4, .int x4)] → W p l e (gRm 7) s m args below meth c H locs 0 0 (MQ below (va_Qi (fun x (_ : Unit) => x = rr) (gB G (fun (_ : Unit) => (wM m0 r cI cJ cZ cB cT hh)) A) A) args s 0 0 A) (F0 m 14 ls []) := by
    intro n_14
    induction n_14 with
    | zero =>
      intro h x1 x2 x3 x4 hF
      exact absurd hF (by simp [f_X9_led_14])
    | succ n_14 ih_14 =>
      have hJ_25 : ∀ (n_25 : Nat) (h : HS) (x1 : Int32) (x2 : Int32) (x3 : Int32) (x4 : Int32) (x5 : Int32), f_X9_led_25 (f_X9_led_14 n_14) n_25 h x1 x2 x3 x4 x5 = some (rr, hh) → ∀ (H : Heap) (locs : List Loc) (ls : Array Slot), va_P G vwCl (wM m0 r cI cJ cZ cB cT h) H → va_D A (wM m0 r cI cJ cZ cB cT h) → va_S A s.heap H locs → lv_has ls 6 [(0, .ref m0), (1, .int x1), (2, .int x2), (3, .int x3), (4, .int x4), (5, .int x5)] → W p l e (gRm 7) s m args below meth c H locs 0 0 (MQ below (va_Qi (fun x (_ : Unit) => x = rr) (gB G (fun (_ : Unit) => (wM m0 r cI cJ cZ cB cT hh)) A) A) args s 0 0 A) (F0 m 25 ls []) := by
        intro n_25
        induction n_25 with
        | zero =>
          intro h x1 x2 x3 x4 x5 hF
          exact absurd hF (by simp [f_X9_led_25])
        | succ n_25 ih_25 =>
          have hJ_70 : ∀ (h : HS) (x1 : Int32) (x2 : Int32) (x3 : Int32) (x4 : Int32) (x5 : Int32), f_X9_led_70 (f_X9_led_14 n_14) (f_X9_led_25 (f_X9_led_14 n_14) n_25) h x1 x2 x3 x4 x5 = some (rr, hh) → ∀ (H : Heap) (locs : List Loc) (ls : Array Slot), va_P G vwCl (wM m0 r cI cJ cZ cB cT h) H → va_D A (wM m0 r cI cJ cZ cB cT h) → va_S A s.heap H locs → lv_has ls 6 [(0, .ref m0), (1, .int x1), (2, .int x2), (3, .int x3), (4, .int x4), (5, .int x5)] → W p l e (gRm 7) s m args below meth c H locs 0 0 (MQ below (va_Qi (fun x (_ : Unit) => x = rr) (gB G (fun (_ : Unit) => (wM m0 r cI cJ cZ cB cT hh)) A) A) args s 0 0 A) (F0 m 70 ls []) := by
            intro h x1 x2 x3 x4 x5 hF H locs ls hP hD hS hl
            unfold f_X9_led_70 at hF
            refine lv_iinc (v := (x5 + 1)) (lv' := [(5, .int (x5 + 1)), (0, .ref m0), (1, .int x1), (2, .int x2), (3, .int x3), (4, .int x4)]) hx hb dX9_led_70 hl (k := 5) rfl rfl (by decide) rfl (fun ls hl => ?_)
            refine lv_goto (tgt := 25) hx hb dX9_led_73 (by decide) ?_
            exact ih_25 h x1 x2 x3 x4 (x5 + 1) hF H _ ls hP hD hS (lv_sub hl [1, 2, 3, 4, 5, 0] rfl)
          intro h x1 x2 x3 x4 x5 hF H locs ls hP hD hS hl
          rw [f_X9_led_25_s] at hF
          refine lv_iload hx hb dX9_led_25 (lv_at hl 5 rfl) ?_
          refine lv_aload_n hx hb dX9_led_27 rfl (lv_at hl 0 rfl) ?_
          refine va_get (D := G) (ci := 9) (v := .ref (r 0)) (C := RX9) (T := TX9) (N := 53) hx hb hts iX9 hown hK hP 0 wM_at0 rfl 0 (by decide) (hts _ m_92) (fun _ h9 => h9) rfl dX9_led_28 ?_
          refine lv_iconst (v := 1) hx hb dX9_led_31 (by decide) ?_
          refine va_iald (D := G) hx hb hK hP 1 0 wM_at1 rfl (vp_in_nI (n := 1) (by decide) (by decide)) dX9_led_32 ?_
          refine gw_topi (y := ((eA h 0 0) 1)) rfl ?_
          refine lv_icmp_ge (tgt := 76) hx hb dX9_led_33 (by decide) (fun c_4 => ?_) (fun c_4 => ?_)
          · have hF := ob_pos c_4 hF
            refine lv_iinc (v := (x4 + 1)) (lv' := [(4, .int (x4 + 1)), (0, .ref m0), (1, .int x1), (2, .int x2), (3, .int x3), (5, .int x5)]) hx hb dX9_led_76 hl (k := 4) rfl rfl (by decide) rfl (fun ls hl => ?_)
            refine lv_goto (tgt := 14) hx hb dX9_led_79 (by decide) ?_
            exact ih_14 h x1 x2 x3 (x4 + 1) hF H _ ls hP hD hS (lv_sub hl [1, 2, 3, 4, 0] rfl)
          · have hF := ob_neg c_4 hF
            refine lv_aload_n hx hb dX9_led_36 rfl (lv_at hl 0 rfl) ?_
            refine lv_iload hx hb dX9_led_37 (lv_at hl 5 rfl) ?_
            refine lv_bipush (v := 7) hx hb dX9_led_39 (by decide) ?_
            obtain ⟨r_5, h_5, e_5, hF⟩ := ob2_some hF
            refine gx_calli (gx_runV (As := [.int x5, .int 7]) (rest := []) ⟨hx, hb, hml, hown, hts⟩ (c_X9_ofGoose l G cI cJ cZ cB cT m0 r h x5 7 r_5 h_5 e_5 H.size) (gG_V m_103 m_104 m_105 m_64 m_102) rfl e_X9_ofGoose ⟨Nat.le_of_ble_eq_true rfl, Nat.le_of_ble_eq_true rfl⟩ hK hP hD hE hS hA 0 wM_at0 rfl rfl hl.1 rfl (Nat.le_of_ble_eq_true rfl) dX9_led_41 ⟨Nat.le_refl _, Nat.le_refl _⟩) hP hD hS hA (fun x_5 u_5 H locs hw_5 hP hD hS => ?_)
            subst x_5
            refine lv_iload hx hb dX9_led_44 (lv_at hl 4 rfl) ?_
            refine lv_icmp_ne (tgt := 70) hx hb dX9_led_46 (by decide) (fun c_6 => ?_) (fun c_6 => ?_)
            · have hF := ob_neg c_6 hF
              exact hJ_70 h_5 x1 x2 x3 x4 x5 hF H _ ls hP hD hS (lv_sub hl [0, 1, 2, 3, 4, 5] rfl)
            · have hF := ob_pos c_6 hF
              refine lv_iload_n hx hb dX9_led_49 rfl (lv_at hl 3 rfl) ?_
              refine lv_aload_n hx hb dX9_led_50 rfl (lv_at hl 0 rfl) ?_
              refine lv_iload hx hb dX9_led_51 (lv_at hl 5 rfl) ?_
              refine lv_iload_n hx hb dX9_led_53 rfl (lv_at hl 1 rfl) ?_
              refine lv_iload hx hb dX9_led_54 (lv_at hl 4 rfl) ?_
              refine lv_iload_n hx hb dX9_led_56 rfl (lv_at hl 2 rfl) ?_
              obtain ⟨r_7, h_7, e_7, hF⟩ := ob2_some hF
              refine gx_calli (gx_runV (As := [.int x5, .int x1, .int x4, .int x2]) (rest := [.int x3]) ⟨hx, hb, hml, hown, hts⟩ (c_X9_brought l G cI cJ cZ cB cT m0 r h_5 x5 x1 x4 x2 r_7 h_7 e_7 H.size) (gG_V m_344 m_345 m_346 m_64 m_343) rfl e_X9_brought ⟨Nat.le_of_ble_eq_true rfl, Nat.le_of_ble_eq_true rfl⟩ hK hP hD hE hS hA 0 wM_at0 rfl rfl hl.1 rfl (Nat.le_of_ble_eq_true rfl) dX9_led_57 ⟨Nat.le_refl _, Nat.le_refl _⟩) hP hD hS hA (fun x_7 u_7 H locs hw_7 hP hD hS => ?_)
              subst x_7
              refine lv_ior hx hb dX9_led_60 ?_
              refine lv_istore_n (lv' := [(3, .int (x3 ||| r_7)), (0, .ref m0), (1, .int x1), (2, .int x2), (4, .int x4), (5, .int x5)]) hx hb dX9_led_61 rfl hl (by decide) rfl (fun ls hl => ?_)
              refine lv_iload_n hx hb dX9_led_62 rfl (lv_at hl 0 rfl) ?_
              refine lv_iconst (v := 3) hx hb dX9_led_63 (by decide) ?_
              refine lv_icmp_ne (tgt := 70) hx hb dX9_led_64 (by decide) (fun c_8 => ?_) (fun c_8 => ?_)
              · have hF := ob_neg c_8 hF
                exact hJ_70 h_7 x1 x2 (x3 ||| r_7) x4 x5 hF H _ ls hP hD hS (lv_sub hl [1, 2, 3, 0, 4, 5] rfl)
              · have hF := ob_pos c_8 hF
                refine lv_iload hx hb dX9_led_67 (lv_at hl 5 rfl) ?_
                obtain ⟨rfl, rfl⟩ := ob_pair hF
                exact gw_iret () hx hb hr hlocks hP hD hS rfl dX9_led_69
      intro h x1 x2 x3 x4 hF H locs ls hP hD hS hl
      rw [f_X9_led_14_s] at hF
      refine lv_iload hx hb dX9_led_14 (lv_at hl 4 rfl) ?_
      refine lv_sipush (v := 1000) hx hb dX9_led_16 (by decide) ?_
      refine lv_icmp_ge (tgt := 82) hx hb dX9_led_19 (by decide) (fun c_3 => ?_) (fun c_3 => ?_)
      · have hF := ob_pos c_3 hF
        refine lv_iconst (v := (-1)) hx hb dX9_led_82 (by decide) ?_
        obtain ⟨rfl, rfl⟩ := ob_pair hF
        exact gw_iret () hx hb hr hlocks hP hD hS rfl dX9_led_83
      · have hF := ob_neg c_3 hF
        refine lv_iconst (v := 0) hx hb dX9_led_22 (by decide) ?_
        refine lv_istore (lv' := [(5, .int 0), (0, .ref m0), (1, .int x1), (2, .int x2), (3, .int x3), (4, .int x4)]) hx hb dX9_led_23 hl (by decide) rfl (fun ls hl => ?_)
        exact hJ_25 8589934592 h x1 x2 x3 x4 0 hF H _ ls hP hD hS (lv_sub hl [1, 2, 3, 4, 5, 0] rfl)
  unfold f_X9_led at hF
  refine lv_iload_n hx hb dX9_led_0 rfl (lv_at hl 1 rfl) ?_
  obtain ⟨r_1, e_1, hF⟩ := ob1_some hF
  refine gx_calli0 (gx_runS0 (As := [.int p1]) (rest := []) ⟨hx, hb, hml, hown, hts⟩ (c_X9_isLetterNumber l G cI cJ cZ cB cT   p1 r_1 e_1 H.size) (gG_S m_348 m_349 m_64 m_347) rfl e_X9_isLetterNumber ⟨Nat.le_of_ble_eq_true rfl, Nat.le_of_ble_eq_true rfl⟩ hK hE hS hA rfl hl.1 rfl (Nat.le_of_ble_eq_true rfl) dX9_led_1 ⟨Nat.le_refl _, Nat.le_refl _⟩) hP hD hS hA (fun x_1 u_1 H locs hw_1 hP hD hS => ?_)
  subst x_1
  refine lv_if_ne (tgt := 9) hx hb dX9_led_4 (by decide) (fun c_2 => ?_) (fun c_2 => ?_)
  · have hF := ob_neg c_2 hF
    refine lv_iconst (v := 0) hx hb dX9_led_9 (by decide) ?_
    refine lv_istore_n (lv' := [(3, .int 0), (0, .ref m0), (1, .int p1), (2, .int p2)]) hx hb dX9_led_10 rfl hl (by decide) rfl (fun ls hl => ?_)
    refine lv_iconst (v := 0) hx hb dX9_led_11 (by decide) ?_
    refine lv_istore (lv' := [(4, .int 0), (3, .int 0), (0, .ref m0), (1, .int p1), (2, .int p2)]) hx hb dX9_led_12 hl (by decide) rfl (fun ls hl => ?_)
    exact hJ_14 8589934592 h p1 p2 0 0 hF H _ ls hP hD hS (lv_sub hl [2, 3, 4, 1, 0] rfl)
  · have hF := ob_pos c_2 hF
    refine lv_iconst (v := (-1)) hx hb dX9_led_7 (by decide) ?_
    obtain ⟨rfl, rfl⟩ := ob_pair hF
    exact gw_iret () hx hb hr hlocks hP hD hS rfl dX9_led_8
def f_X9_answer_40 (h : HS) (y0 : Int32) : Option (Int32 × HS) := (some (y0, h))
def f_X9_answer (h : HS) (p1 : Int32) : Option (Int32 × HS) := (ob2 (f_X9_led h p1 0) (fun r_1 h_1 => (if r_1 = (-1) then (f_X9_answer_40 h_1 (-1)) else (ob2 (f_X9_ofGoose h_1 r_1 7) (fun r_3 h_3 => (ob2 (f_X9_ofGoose h_3 r_1 5) (fun r_4 h_4 => (if 0 ≤ ((10 + (3 * r_4))).toInt ∧ ((10 + (3 * r_4))).toInt < 1990 then (f_X9_answer_40 h_4 (r_3 + ((eA h_4 0 0) (((10 + (3 * r_4))).toNatClampNeg)))) else none))))))))
theorem e_X9_led : yX9_led.cls = RX9 ∧ yX9_led.cls ≠ "java/lang/invoke/MethodHandle" ∧ yX9_led.cls ≠ "java/lang/invoke/VarHandle" ∧ (parseMethodDescriptor yX9_led.desc).map (fun d => d.parameters.length) = some 2 := by decide +kernel
set_option maxHeartbeats 4000000 in
set_option maxRecDepth 100000 in
theorem c_X9_answer (l : Launch) (G : va_G) (cI cJ cZ cB cT : ClassId) (m0 : Nat) (r : Nat → Nat) (h : HS) (p1 : Int32) (rr : Int32) (hh : HS) (hF : f_X9_answer h p1 = some (rr, hh)) : gMi l yX9_answer (gws yX9_answer cX9_answer 3 (some .int)) 8 G (gT cI cJ cZ cB cT) [.ref m0, .int p1] (wM m0 r cI cJ cZ cB cT h) (fun x (_ : Unit) => x = rr) (fun (_ : Unit) => (wM m0 r cI cJ cZ cB cT hh)) := by
  intro sz
  refine gM_start (y := yX9_answer) (av := [.ref m0, .int p1]) (ws := (wM m0 r cI cJ cZ cB cT h)) (Qf := fun A => va_Qi (fun x (_ : Unit) => x = rr) (gB G (fun (_ : Unit) => (wM m0 r cI cJ cZ cB cT hh)) A) A) (cc := cX9_answer) (maxL := 3) (ret := (some .int)) (by decide) (Nat.le_of_ble_eq_true rfl) ?_
  intro p e s m args below meth c A ls H hx hb hr hts hown hin hlocks hml hP hK hD hA hS hl hE
  have hl : lv_has ls 3 [(0, .ref m0), (1, .int p1)] := hl
  have hJ_40 : ∀ (h : HS) (y0 : Int32), f_X9_answer_40 h y0 = some (rr, hh) → ∀ (H : Heap) (locs : List Loc) (ls : Array Slot), va_P G vwCl (wM m0 r cI cJ cZ cB cT h) H → va_D A (wM m0 r cI cJ cZ cB cT h) → va_S A s.heap H locs → lv_has ls 3 [] → W p l e (gRm 8) s m args below meth c H locs 0 0 (MQ below (va_Qi (fun x (_ : Unit) => x = rr) (gB G (fun (_ : Unit) => (wM m0 r cI cJ cZ cB cT hh)) A) A) args s 0 0 A) (F0 m 40 ls [.int y0]) := by
    intro h y0 hF H locs ls hP hD hS hl
    unfold f_X9_answer_40 at hF
    obtain ⟨rfl, rfl⟩ := ob_pair hF
    exact gw_iret () hx hb hr hlocks hP hD hS rfl dX9_answer_40
  unfold f_X9_answer at hF
  refine lv_aload_n hx hb dX9_answer_0 rfl (lv_at hl 0 rfl) ?_
  refine lv_iload_n hx hb dX9_answer_1 rfl (lv_at hl 1 rfl) ?_
  refine lv_iconst (v := 0) hx hb dX9_answer_2 (by decide) ?_
  obtain ⟨r_1, h_1, e_1, hF⟩ := ob2_some hF
  refine gx_calli (gx_runV (As := [.int p1, .int 0]) (rest := []) ⟨hx, hb, hml, hown, hts⟩ (c_X9_led l G cI cJ cZ cB cT m0 r h p1 0 r_1 h_1 e_1 H.size) (gG_V m_355 m_356 m_357 m_64 m_354) rfl e_X9_led ⟨Nat.le_of_ble_eq_true rfl, Nat.le_of_ble_eq_true rfl⟩ hK hP hD hE hS hA 0 wM_at0 rfl rfl hl.1 rfl (Nat.le_of_ble_eq_true rfl) dX9_answer_3 ⟨Nat.le_refl _, Nat.le_refl _⟩) hP hD hS hA (fun x_1 u_1 H locs hw_1 hP hD hS => ?_)
  subst x_1
  refine lv_istore_n (lv' := [(2, .int r_1), (0, .ref m0), (1, .int p1)]) hx hb dX9_answer_6 rfl hl (by decide) rfl (fun ls hl => ?_)
  refine lv_iload_n hx hb dX9_answer_7 rfl (lv_at hl 0 rfl) ?_
  refine lv_iconst (v := (-1)) hx hb dX9_answer_8 (by decide) ?_
  refine lv_icmp_ne (tgt := 16) hx hb dX9_answer_9 (by decide) (fun c_2 => ?_) (fun c_2 => ?_)
  · have hF := ob_neg c_2 hF
    refine lv_aload_n hx hb dX9_answer_16 rfl (lv_at hl 1 rfl) ?_
    refine lv_iload_n hx hb dX9_answer_17 rfl (lv_at hl 0 rfl) ?_
    refine lv_bipush (v := 7) hx hb dX9_answer_18 (by decide) ?_
    obtain ⟨r_3, h_3, e_3, hF⟩ := ob2_some hF
    refine gx_calli (gx_runV (As := [.int r_1, .int 7]) (rest := []) ⟨hx, hb, hml, hown, hts⟩ (c_X9_ofGoose l G cI cJ cZ cB cT m0 r h_1 r_1 7 r_3 h_3 e_3 H.size) (gG_V m_103 m_104 m_105 m_64 m_102) rfl e_X9_ofGoose ⟨Nat.le_of_ble_eq_true rfl, Nat.le_of_ble_eq_true rfl⟩ hK hP hD hE hS hA 0 wM_at0 rfl rfl hl.1 rfl (Nat.le_of_ble_eq_true rfl) dX9_answer_20 ⟨Nat.le_refl _, Nat.le_refl _⟩) hP hD hS hA (fun x_3 u_3 H locs hw_3 hP hD hS => ?_)
    subst x_3
    refine lv_aload_n hx hb dX9_answer_23 rfl (lv_at hl 1 rfl) ?_
    refine va_get (D := G) (ci := 9) (v := .ref (r 0)) (C := RX9) (T := TX9) (N := 53) hx hb hts iX9 hown hK hP 0 wM_at0 rfl 0 (by decide) (hts _ m_92) (fun _ h9 => h9) rfl dX9_answer_24 ?_
    refine lv_bipush (v := 10) hx hb dX9_answer_27 (by decide) ?_
    refine lv_iconst (v := 3) hx hb dX9_answer_29 (by decide) ?_
    refine lv_aload_n hx hb dX9_answer_30 rfl (lv_at hl 1 rfl) ?_
    refine lv_iload_n hx hb dX9_answer_31 rfl (lv_at hl 0 rfl) ?_
    refine lv_iconst (v := 5) hx hb dX9_answer_32 (by decide) ?_
    obtain ⟨r_4, h_4, e_4, hF⟩ := ob2_some hF
    refine gx_calli (gx_runV (As := [.int r_1, .int 5]) (rest := [.int 3, .int 10, .ref (r 0), .int r_3]) ⟨hx, hb, hml, hown, hts⟩ (c_X9_ofGoose l G cI cJ cZ cB cT m0 r h_3 r_1 5 r_4 h_4 e_4 H.size) (gG_V m_103 m_104 m_105 m_64 m_102) rfl e_X9_ofGoose ⟨Nat.le_of_ble_eq_true rfl, Nat.le_of_ble_eq_true rfl⟩ hK hP hD hE hS hA 0 wM_at0 rfl rfl hl.1 rfl (Nat.le_of_ble_eq_true rfl) dX9_answer_33 ⟨Nat.le_refl _, Nat.le_refl _⟩) hP hD hS hA (fun x_4 u_4 H locs hw_4 hP hD hS => ?_)
    subst x_4
    refine lv_imul hx hb dX9_answer_36 ?_
    refine lv_iadd hx hb dX9_answer_37 ?_
    obtain ⟨hi_5, hF⟩ := ob_if hF
    refine va_iald (D := G) hx hb hK hP 1 0 wM_at1 rfl (vp_in_iff.mpr hi_5) dX9_answer_38 ?_
    refine gw_topi (y := ((eA h_4 0 0) (((10 + (3 * r_4))).toNatClampNeg))) rfl ?_
    refine lv_iadd hx hb dX9_answer_39 ?_
    exact hJ_40 h_4 (r_3 + ((eA h_4 0 0) (((10 + (3 * r_4))).toNatClampNeg))) hF H _ ls hP hD hS (lv_sub hl [] rfl)
  · have hF := ob_pos c_2 hF
    refine lv_iconst (v := (-1)) hx hb dX9_answer_12 (by decide) ?_
    refine lv_goto (tgt := 40) hx hb dX9_answer_13 (by decide) ?_
    exact hJ_40 h_1 (-1) hF H _ ls hP hD hS (lv_sub hl [] rfl)
def f_X9_plucks_12 : Nat → HS → Int32 → Int32 → Option (Int32 × HS)
  | 0, _, _, _ => none
  | n + 1, h, x1, x2 => (ob2 (f_X9_ofGoose h x1 1) (fun r_3 h_3 => (if r_3 < x2 then (some ((-1), h_3)) else (ob2 (f_X9_ofGoose h_3 x1 2) (fun r_5 h_5 => (ob2 (f_X9_ofGoose h_5 x1 3) (fun r_6 h_6 => (ob2 (f_X9_ofGoose h_6 x1 1) (fun r_7 h_7 => (ob2 (f_X9_isTrueBy h_7 x1 r_5 r_6 (r_7 - x2)) (fun r_8 h_8 => (if r_8 = 0 then ((f_X9_plucks_12 n) h_8 x1 (x2 + 1)) else (some (x2, h_8))))))))))))))
theorem f_X9_plucks_12_s (n : Nat) (h : HS) (x1 : Int32) (x2 : Int32) : f_X9_plucks_12 (n + 1) h x1 x2 = (ob2 (f_X9_ofGoose h x1 1) (fun r_3 h_3 => (if r_3 < x2 then (some ((-1), h_3)) else (ob2 (f_X9_ofGoose h_3 x1 2) (fun r_5 h_5 => (ob2 (f_X9_ofGoose h_5 x1 3) (fun r_6 h_6 => (ob2 (f_X9_ofGoose h_6 x1 1) (fun r_7 h_7 => (ob2 (f_X9_isTrueBy h_7 x1 r_5 r_6 (r_7 - x2)) (fun r_8 h_8 => (if r_8 = 0 then ((f_X9_plucks_12 n) h_8 x1 (x2 + 1)) else (some (x2, h_8)))))))))))))) := rfl
def f_X9_plucks (h : HS) (p1 : Int32) : Option (Int32 × HS) := (ob2 (f_X9_isGoose h p1) (fun r_1 h_1 => (if r_1 = 0 then (some ((-1), h_1)) else (f_X9_plucks_12 8589934592 h_1 p1 0))))
set_option maxHeartbeats 4000000 in
set_option maxRecDepth 100000 in
theorem c_X9_plucks (l : Launch) (G : va_G) (cI cJ cZ cB cT : ClassId) (m0 : Nat) (r : Nat → Nat) (h : HS) (p1 : Int32) (rr : Int32) (hh : HS) (hF : f_X9_plucks h p1 = some (rr, hh)) : gMi l yX9_plucks (gws yX9_plucks cX9_plucks 3 (some .int)) 5 G (gT cI cJ cZ cB cT) [.ref m0, .int p1] (wM m0 r cI cJ cZ cB cT h) (fun x (_ : Unit) => x = rr) (fun (_ : Unit) => (wM m0 r cI cJ cZ cB cT hh)) := by
  intro sz
  refine gM_start (y := yX9_plucks) (av := [.ref m0, .int p1]) (ws := (wM m0 r cI cJ cZ cB cT h)) (Qf := fun A => va_Qi (fun x (_ : Unit) => x = rr) (gB G (fun (_ : Unit) => (wM m0 r cI cJ cZ cB cT hh)) A) A) (cc := cX9_plucks) (maxL := 3) (ret := (some .int)) (by decide) (Nat.le_of_ble_eq_true rfl) ?_
  intro p e s m args below meth c A ls H hx hb hr hts hown hin hlocks hml hP hK hD hA hS hl hE
  have hl : lv_has ls 3 [(0, .ref m0), (1, .int p1)] := hl
  have hJ_12 : ∀ (n_12 : Nat) (h : HS) (x1 : Int32) (x2 : Int32), f_X9_plucks_12 n_12 h x1 x2 = some (rr, hh) → ∀ (H : Heap) (locs : List Loc) (ls : Array Slot), va_P G vwCl (wM m0 r cI cJ cZ cB cT h) H → va_D A (wM m0 r cI cJ cZ cB cT h) → va_S A s.heap H locs → lv_has ls 3 [(0, .ref m0), (1, .int x1), (2, .int x2)] → W p l e (gRm 5) s m args below meth c H locs 0 0 (MQ below (va_Qi (fun x (_ : Unit) => x = rr) (gB G (fun (_ : Unit) => (wM m0 r cI cJ cZ cB cT hh)) A) A) args s 0 0 A) (F0 m 12 ls []) := by
    intro n_12
    induction n_12 with
    | zero =>
      intro h x1 x2 hF
      exact absurd hF (by simp [f_X9_plucks_12])
    | succ n_12 ih_12 =>
      intro h x1 x2 hF H locs ls hP hD hS hl
      rw [f_X9_plucks_12_s] at hF
      refine lv_iload_n hx hb dX9_plucks_12 rfl (lv_at hl 2 rfl) ?_
      refine lv_aload_n hx hb dX9_plucks_13 rfl (lv_at hl 0 rfl) ?_
      refine lv_iload_n hx hb dX9_plucks_14 rfl (lv_at hl 1 rfl) ?_
      refine lv_iconst (v := 1) hx hb dX9_plucks_15 (by decide) ?_
      obtain ⟨r_3, h_3, e_3, hF⟩ := ob2_some hF
      refine gx_calli (gx_runV (As := [.int x1, .int 1]) (rest := [.int x2]) ⟨hx, hb, hml, hown, hts⟩ (c_X9_ofGoose l G cI cJ cZ cB cT m0 r h x1 1 r_3 h_3 e_3 H.size) (gG_V m_103 m_104 m_105 m_64 m_102) rfl e_X9_ofGoose ⟨Nat.le_of_ble_eq_true rfl, Nat.le_of_ble_eq_true rfl⟩ hK hP hD hE hS hA 0 wM_at0 rfl rfl hl.1 rfl (Nat.le_of_ble_eq_true rfl) dX9_plucks_16 ⟨Nat.le_refl _, Nat.le_refl _⟩) hP hD hS hA (fun x_3 u_3 H locs hw_3 hP hD hS => ?_)
      subst x_3
      refine lv_icmp_gt (tgt := 58) hx hb dX9_plucks_19 (by decide) (fun c_4 => ?_) (fun c_4 => ?_)
      · have hF := ob_pos c_4 hF
        refine lv_iconst (v := (-1)) hx hb dX9_plucks_58 (by decide) ?_
        obtain ⟨rfl, rfl⟩ := ob_pair hF
        exact gw_iret () hx hb hr hlocks hP hD hS rfl dX9_plucks_59
      · have hF := ob_neg c_4 hF
        refine lv_aload_n hx hb dX9_plucks_22 rfl (lv_at hl 0 rfl) ?_
        refine lv_iload_n hx hb dX9_plucks_23 rfl (lv_at hl 1 rfl) ?_
        refine lv_aload_n hx hb dX9_plucks_24 rfl (lv_at hl 0 rfl) ?_
        refine lv_iload_n hx hb dX9_plucks_25 rfl (lv_at hl 1 rfl) ?_
        refine lv_iconst (v := 2) hx hb dX9_plucks_26 (by decide) ?_
        obtain ⟨r_5, h_5, e_5, hF⟩ := ob2_some hF
        refine gx_calli (gx_runV (As := [.int x1, .int 2]) (rest := [.int x1, .ref m0]) ⟨hx, hb, hml, hown, hts⟩ (c_X9_ofGoose l G cI cJ cZ cB cT m0 r h_3 x1 2 r_5 h_5 e_5 H.size) (gG_V m_103 m_104 m_105 m_64 m_102) rfl e_X9_ofGoose ⟨Nat.le_of_ble_eq_true rfl, Nat.le_of_ble_eq_true rfl⟩ hK hP hD hE hS hA 0 wM_at0 rfl rfl hl.1 rfl (Nat.le_of_ble_eq_true rfl) dX9_plucks_27 ⟨Nat.le_refl _, Nat.le_refl _⟩) hP hD hS hA (fun x_5 u_5 H locs hw_5 hP hD hS => ?_)
        subst x_5
        refine lv_aload_n hx hb dX9_plucks_30 rfl (lv_at hl 0 rfl) ?_
        refine lv_iload_n hx hb dX9_plucks_31 rfl (lv_at hl 1 rfl) ?_
        refine lv_iconst (v := 3) hx hb dX9_plucks_32 (by decide) ?_
        obtain ⟨r_6, h_6, e_6, hF⟩ := ob2_some hF
        refine gx_calli (gx_runV (As := [.int x1, .int 3]) (rest := [.int r_5, .int x1, .ref m0]) ⟨hx, hb, hml, hown, hts⟩ (c_X9_ofGoose l G cI cJ cZ cB cT m0 r h_5 x1 3 r_6 h_6 e_6 H.size) (gG_V m_103 m_104 m_105 m_64 m_102) rfl e_X9_ofGoose ⟨Nat.le_of_ble_eq_true rfl, Nat.le_of_ble_eq_true rfl⟩ hK hP hD hE hS hA 0 wM_at0 rfl rfl hl.1 rfl (Nat.le_of_ble_eq_true rfl) dX9_plucks_33 ⟨Nat.le_refl _, Nat.le_refl _⟩) hP hD hS hA (fun x_6 u_6 H locs hw_6 hP hD hS => ?_)
        subst x_6
        refine lv_aload_n hx hb dX9_plucks_36 rfl (lv_at hl 0 rfl) ?_
        refine lv_iload_n hx hb dX9_plucks_37 rfl (lv_at hl 1 rfl) ?_
        refine lv_iconst (v := 1) hx hb dX9_plucks_38 (by decide) ?_
        obtain ⟨r_7, h_7, e_7, hF⟩ := ob2_some hF
        refine gx_calli (gx_runV (As := [.int x1, .int 1]) (rest := [.int r_6, .int r_5, .int x1, .ref m0]) ⟨hx, hb, hml, hown, hts⟩ (c_X9_ofGoose l G cI cJ cZ cB cT m0 r h_6 x1 1 r_7 h_7 e_7 H.size) (gG_V m_103 m_104 m_105 m_64 m_102) rfl e_X9_ofGoose ⟨Nat.le_of_ble_eq_true rfl, Nat.le_of_ble_eq_true rfl⟩ hK hP hD hE hS hA 0 wM_at0 rfl rfl hl.1 rfl (Nat.le_of_ble_eq_true rfl) dX9_plucks_39 ⟨Nat.le_refl _, Nat.le_refl _⟩) hP hD hS hA (fun x_7 u_7 H locs hw_7 hP hD hS => ?_)
        subst x_7
        refine lv_iload_n hx hb dX9_plucks_42 rfl (lv_at hl 2 rfl) ?_
        refine lv_isub hx hb dX9_plucks_43 ?_
        obtain ⟨r_8, h_8, e_8, hF⟩ := ob2_some hF
        refine gx_calli (gx_runV (As := [.int x1, .int r_5, .int r_6, .int (r_7 - x2)]) (rest := []) ⟨hx, hb, hml, hown, hts⟩ (c_X9_isTrueBy l G cI cJ cZ cB cT m0 r h_7 x1 r_5 r_6 (r_7 - x2) r_8 h_8 e_8 H.size) (gG_V m_301 m_302 m_303 m_64 m_300) rfl e_X9_isTrueBy ⟨Nat.le_of_ble_eq_true rfl, Nat.le_of_ble_eq_true rfl⟩ hK hP hD hE hS hA 0 wM_at0 rfl rfl hl.1 rfl (Nat.le_of_ble_eq_true rfl) dX9_plucks_44 ⟨Nat.le_refl _, Nat.le_refl _⟩) hP hD hS hA (fun x_8 u_8 H locs hw_8 hP hD hS => ?_)
        subst x_8
        refine lv_if_eq (tgt := 52) hx hb dX9_plucks_47 (by decide) (fun c_9 => ?_) (fun c_9 => ?_)
        · have hF := ob_pos c_9 hF
          refine lv_iinc (v := (x2 + 1)) (lv' := [(2, .int (x2 + 1)), (0, .ref m0), (1, .int x1)]) hx hb dX9_plucks_52 hl (k := 2) rfl rfl (by decide) rfl (fun ls hl => ?_)
          refine lv_goto (tgt := 12) hx hb dX9_plucks_55 (by decide) ?_
          exact ih_12 h_8 x1 (x2 + 1) hF H _ ls hP hD hS (lv_sub hl [1, 2, 0] rfl)
        · have hF := ob_neg c_9 hF
          refine lv_iload_n hx hb dX9_plucks_50 rfl (lv_at hl 2 rfl) ?_
          obtain ⟨rfl, rfl⟩ := ob_pair hF
          exact gw_iret () hx hb hr hlocks hP hD hS rfl dX9_plucks_51
  unfold f_X9_plucks at hF
  refine lv_aload_n hx hb dX9_plucks_0 rfl (lv_at hl 0 rfl) ?_
  refine lv_iload_n hx hb dX9_plucks_1 rfl (lv_at hl 1 rfl) ?_
  obtain ⟨r_1, h_1, e_1, hF⟩ := ob2_some hF
  refine gx_calli (gx_runV (As := [.int p1]) (rest := []) ⟨hx, hb, hml, hown, hts⟩ (c_X9_isGoose l G cI cJ cZ cB cT m0 r h p1 r_1 h_1 e_1 H.size) (gG_V m_99 m_100 m_101 m_64 m_98) rfl e_X9_isGoose ⟨Nat.le_of_ble_eq_true rfl, Nat.le_of_ble_eq_true rfl⟩ hK hP hD hE hS hA 0 wM_at0 rfl rfl hl.1 rfl (Nat.le_of_ble_eq_true rfl) dX9_plucks_2 ⟨Nat.le_refl _, Nat.le_refl _⟩) hP hD hS hA (fun x_1 u_1 H locs hw_1 hP hD hS => ?_)
  subst x_1
  refine lv_if_ne (tgt := 10) hx hb dX9_plucks_5 (by decide) (fun c_2 => ?_) (fun c_2 => ?_)
  · have hF := ob_neg c_2 hF
    refine lv_iconst (v := 0) hx hb dX9_plucks_10 (by decide) ?_
    refine lv_istore_n (lv' := [(2, .int 0), (0, .ref m0), (1, .int p1)]) hx hb dX9_plucks_11 rfl hl (by decide) rfl (fun ls hl => ?_)
    exact hJ_12 8589934592 h_1 p1 0 hF H _ ls hP hD hS (lv_sub hl [1, 2, 0] rfl)
  · have hF := ob_pos c_2 hF
    refine lv_iconst (v := (-1)) hx hb dX9_plucks_8 (by decide) ?_
    obtain ⟨rfl, rfl⟩ := ob_pair hF
    exact gw_iret () hx hb hr hlocks hP hD hS rfl dX9_plucks_9
def f_X9_startsMany_27 (k2 : HS → Int32 → Int32 → Int32 → Option HS) (h : HS) (x1 : Int32) (x2 : Int32) (x3 : Int32) (y0 : Int64) (y1 : Int32) : Option HS := (if 0 ≤ (y1).toInt ∧ (y1).toInt < 16 then (k2 (sJ h 0 41 (vp_updL (eJ h 0 41) ((y1).toNatClampNeg) y0)) x1 x2 (x3 + 1)) else none)
def f_X9_startsMany_2 : Nat → HS → Int32 → Int32 → Int32 → Option HS
  | 0, _, _, _, _ => none
  | n + 1, h, x1, x2, x3 => (if 16 ≤ x3 then (some h) else (if x3 = (x1 + (4 * x2)) then (f_X9_startsMany_27 (f_X9_startsMany_2 n) h x1 x2 x3 1 x3) else (f_X9_startsMany_27 (f_X9_startsMany_2 n) h x1 x2 x3 0 x3)))
theorem f_X9_startsMany_2_s (n : Nat) (h : HS) (x1 : Int32) (x2 : Int32) (x3 : Int32) : f_X9_startsMany_2 (n + 1) h x1 x2 x3 = (if 16 ≤ x3 then (some h) else (if x3 = (x1 + (4 * x2)) then (f_X9_startsMany_27 (f_X9_startsMany_2 n) h x1 x2 x3 1 x3) else (f_X9_startsMany_27 (f_X9_startsMany_2 n) h x1 x2 x3 0 x3))) := rfl
def f_X9_startsMany (h : HS) (p1 : Int32) (p2 : Int32) : Option HS := (f_X9_startsMany_2 8589934592 h p1 p2 0)
set_option maxHeartbeats 4000000 in
set_option maxRecDepth 100000 in
theorem c_X9_startsMany (l : Launch) (G : va_G) (cI cJ cZ cB cT : ClassId) (m0 : Nat) (r : Nat → Nat) (h : HS) (p1 : Int32) (p2 : Int32) (hh : HS) (hF : f_X9_startsMany h p1 p2 = some hh) : gMv l yX9_startsMany (gws yX9_startsMany cX9_startsMany 4 none) 1 G (gT cI cJ cZ cB cT) [.ref m0, .int p1, .int p2] (wM m0 r cI cJ cZ cB cT h) (fun (_ : Unit) => True) (fun (_ : Unit) => (wM m0 r cI cJ cZ cB cT hh)) := by
  intro sz
  refine gM_start (y := yX9_startsMany) (av := [.ref m0, .int p1, .int p2]) (ws := (wM m0 r cI cJ cZ cB cT h)) (Qf := fun A => va_Qv (fun (_ : Unit) => True) (gB G (fun (_ : Unit) => (wM m0 r cI cJ cZ cB cT hh)) A) A) (cc := cX9_startsMany) (maxL := 4) (ret := none) (by decide) (Nat.le_of_ble_eq_true rfl) ?_
  intro p e s m args below meth c A ls H hx hb hr hts hown hin hlocks hml hP hK hD hA hS hl hE
  have hl : lv_has ls 4 [(0, .ref m0), (1, .int p1), (2, .int p2)] := hl
  have hJ_2 : ∀ (n_2 : Nat) (h : HS) (x1 : Int32) (x2 : Int32) (x3 : Int32), f_X9_startsMany_2 n_2 h x1 x2 x3 = some hh → ∀ (H : Heap) (locs : List Loc) (ls : Array Slot), va_P G vwCl (wM m0 r cI cJ cZ cB cT h) H → va_D A (wM m0 r cI cJ cZ cB cT h) → va_S A s.heap H locs → lv_has ls 4 [(0, .ref m0), (1, .int x1), (2, .int x2), (3, .int x3)] → W p l e (gRm 1) s m args below meth c H locs 0 0 (MQ below (va_Qv (fun (_ : Unit) => True) (gB G (fun (_ : Unit) => (wM m0 r cI cJ cZ cB cT hh)) A) A) args s 0 0 A) (F0 m 2 ls []) := by
    intro n_2
    induction n_2 with
    | zero =>
      intro h x1 x2 x3 hF
      exact absurd hF (by simp [f_X9_startsMany_2])
    | succ n_2 ih_2 =>
      have hJ_27 : ∀ (h : HS) (x1 : Int32) (x2 : Int32) (x3 : Int32) (y0 : Int64) (y1 : Int32), f_X9_startsMany_27 (f_X9_startsMany_2 n_2) h x1 x2 x3 y0 y1 = some hh → ∀ (H : Heap) (locs : List Loc) (ls : Array Slot), va_P G vwCl (wM m0 r cI cJ cZ cB cT h) H → va_D A (wM m0 r cI cJ cZ cB cT h) → va_S A s.heap H locs → lv_has ls 4 [(0, .ref m0), (1, .int x1), (2, .int x2), (3, .int x3)] → W p l e (gRm 1) s m args below meth c H locs 0 0 (MQ below (va_Qv (fun (_ : Unit) => True) (gB G (fun (_ : Unit) => (wM m0 r cI cJ cZ cB cT hh)) A) A) args s 0 0 A) (F0 m 27 ls [.long y0, .int y1, .ref (r 41)]) := by
        intro h x1 x2 x3 y0 y1 hF H locs ls hP hD hS hl
        unfold f_X9_startsMany_27 at hF
        obtain ⟨hi_3, hF⟩ := ob_if hF
        refine va_last (D := G) hx hb hK hP hD hS 25 1 wM_at25 rfl (vp_in_iff.mpr hi_3) dX9_startsMany_27 (fun H locs hP hD hS => ?_)
        rw [wM_sA25] at hP hD
        have hP : va_P G vwCl (wM m0 r cI cJ cZ cB cT (sJ h 0 41 (vp_updL (eJ h 0 41) ((y1).toNatClampNeg) y0))) H := hP
        have hD : va_D A (wM m0 r cI cJ cZ cB cT (sJ h 0 41 (vp_updL (eJ h 0 41) ((y1).toNatClampNeg) y0))) := hD
        refine lv_iinc (v := (x3 + 1)) (lv' := [(3, .int (x3 + 1)), (0, .ref m0), (1, .int x1), (2, .int x2)]) hx hb dX9_startsMany_28 hl (k := 3) rfl rfl (by decide) rfl (fun ls hl => ?_)
        refine lv_goto (tgt := 2) hx hb dX9_startsMany_31 (by decide) ?_
        exact ih_2 (sJ h 0 41 (vp_updL (eJ h 0 41) ((y1).toNatClampNeg) y0)) x1 x2 (x3 + 1) hF H _ ls hP hD hS (lv_sub hl [1, 2, 3, 0] rfl)
      intro h x1 x2 x3 hF H locs ls hP hD hS hl
      rw [f_X9_startsMany_2_s] at hF
      refine lv_iload_n hx hb dX9_startsMany_2 rfl (lv_at hl 3 rfl) ?_
      refine lv_bipush (v := 16) hx hb dX9_startsMany_3 (by decide) ?_
      refine lv_icmp_ge (tgt := 34) hx hb dX9_startsMany_5 (by decide) (fun c_1 => ?_) (fun c_1 => ?_)
      · have hF := ob_pos c_1 hF
        obtain rfl := ob_one hF
        exact gw_vret () hx hb hr hlocks hP hD hS trivial dX9_startsMany_34
      · have hF := ob_neg c_1 hF
        refine lv_aload_n hx hb dX9_startsMany_8 rfl (lv_at hl 0 rfl) ?_
        refine va_get (D := G) (ci := 9) (v := .ref (r 41)) (C := RX9) (T := TX9) (N := 53) hx hb hts iX9 hown hK hP 0 wM_at0 rfl 41 (by decide) (hts _ m_358) (fun _ h9 => h9) rfl dX9_startsMany_9 ?_
        refine lv_iload_n hx hb dX9_startsMany_12 rfl (lv_at hl 3 rfl) ?_
        refine lv_iload_n hx hb dX9_startsMany_13 rfl (lv_at hl 3 rfl) ?_
        refine lv_iload_n hx hb dX9_startsMany_14 rfl (lv_at hl 1 rfl) ?_
        refine lv_iconst (v := 4) hx hb dX9_startsMany_15 (by decide) ?_
        refine lv_iload_n hx hb dX9_startsMany_16 rfl (lv_at hl 2 rfl) ?_
        refine lv_imul hx hb dX9_startsMany_17 ?_
        refine lv_iadd hx hb dX9_startsMany_18 ?_
        refine lv_icmp_ne (tgt := 26) hx hb dX9_startsMany_19 (by decide) (fun c_2 => ?_) (fun c_2 => ?_)
        · have hF := ob_neg c_2 hF
          refine lv_lconst (v := 0) hx hb dX9_startsMany_26 (by decide) ?_
          exact hJ_27 h x1 x2 x3 0 x3 hF H _ ls hP hD hS (lv_sub hl [0, 1, 2, 3] rfl)
        · have hF := ob_pos c_2 hF
          refine lv_lconst (v := 1) hx hb dX9_startsMany_22 (by decide) ?_
          refine lv_goto (tgt := 27) hx hb dX9_startsMany_23 (by decide) ?_
          exact hJ_27 h x1 x2 x3 1 x3 hF H _ ls hP hD hS (lv_sub hl [0, 1, 2, 3] rfl)
  unfold f_X9_startsMany at hF
  refine lv_iconst (v := 0) hx hb dX9_startsMany_0 (by decide) ?_
  refine lv_istore_n (lv' := [(3, .int 0), (0, .ref m0), (1, .int p1), (2, .int p2)]) hx hb dX9_startsMany_1 rfl hl (by decide) rfl (fun ls hl => ?_)
  exact hJ_2 8589934592 h p1 p2 0 hF H _ ls hP hD hS (lv_sub hl [1, 2, 3, 0] rfl)
def f_X9_comesMany_164 : Nat → HS → Int32 → Option HS
  | 0, _, _ => none
  | n + 1, h, x5 => (if 16 ≤ x5 then (some h) else (if 0 ≤ (x5).toInt ∧ (x5).toInt < 16 then (if 0 ≤ (x5).toInt ∧ (x5).toInt < 16 then ((f_X9_comesMany_164 n) (sJ h 0 41 (vp_updL (eJ h 0 41) ((x5).toNatClampNeg) ((eJ h 0 42) ((x5).toNatClampNeg)))) (x5 + 1)) else none) else none))
theorem f_X9_comesMany_164_s (n : Nat) (h : HS) (x5 : Int32) : f_X9_comesMany_164 (n + 1) h x5 = (if 16 ≤ x5 then (some h) else (if 0 ≤ (x5).toInt ∧ (x5).toInt < 16 then (if 0 ≤ (x5).toInt ∧ (x5).toInt < 16 then ((f_X9_comesMany_164 n) (sJ h 0 41 (vp_updL (eJ h 0 41) ((x5).toNatClampNeg) ((eJ h 0 42) ((x5).toNatClampNeg)))) (x5 + 1)) else none) else none)) := rfl
def f_X9_comesMany_51 (k27 : HS → Int32 → Int32 → Int32 → Int32 → Int32 → Option HS) (h : HS) (x1 : Int32) (x2 : Int32) (x3 : Int32) (x4 : Int32) (x5 : Int32) (y0 : Int32) (y1 : Int32) : Option HS := (ob1 (f_X9_halves x3) (fun r_9 => (if 0 ≤ ((((x5 / 4) * 4) + (y1 ||| y0))).toInt ∧ ((((x5 / 4) * 4) + (y1 ||| y0))).toInt < 16 then (if 0 ≤ (x5).toInt ∧ (x5).toInt < 16 then (if 0 ≤ ((((x5 / 4) * 4) + (y1 ||| y0))).toInt ∧ ((((x5 / 4) * 4) + (y1 ||| y0))).toInt < 16 then (if 0 ≤ (x5).toInt ∧ (x5).toInt < 16 then (if 0 ≤ (x5).toInt ∧ (x5).toInt < 16 then (if 0 ≤ (x5).toInt ∧ (x5).toInt < 16 then (if 0 ≤ (((4 * ((x5 / 4) ||| r_9)) + (x5 - x5 / 4 * 4))).toInt ∧ (((4 * ((x5 / 4) ||| r_9)) + (x5 - x5 / 4 * 4))).toInt < 16 then (if 0 ≤ (x5).toInt ∧ (x5).toInt < 16 then (if 0 ≤ (((4 * ((x5 / 4) ||| r_9)) + (x5 - x5 / 4 * 4))).toInt ∧ (((4 * ((x5 / 4) ||| r_9)) + (x5 - x5 / 4 * 4))).toInt < 16 then (k27 (sJ (sJ (sJ h 0 42 (vp_updL (eJ h 0 42) (((((x5 / 4) * 4) + (y1 ||| y0))).toNatClampNeg) (((eJ h 0 42) (((((x5 / 4) * 4) + (y1 ||| y0))).toNatClampNeg)) + ((((eJ h 0 41) ((x5).toNatClampNeg)) * (((10 - x1)).toInt64)) * 10)))) 0 42 (vp_updL (vp_updL (eJ h 0 42) (((((x5 / 4) * 4) + (y1 ||| y0))).toNatClampNeg) (((eJ h 0 42) (((((x5 / 4) * 4) + (y1 ||| y0))).toNatClampNeg)) + ((((eJ h 0 41) ((x5).toNatClampNeg)) * (((10 - x1)).toInt64)) * 10))) ((x5).toNatClampNeg) (((vp_updL (eJ h 0 42) (((((x5 / 4) * 4) + (y1 ||| y0))).toNatClampNeg) (((eJ h 0 42) (((((x5 / 4) * 4) + (y1 ||| y0))).toNatClampNeg)) + ((((eJ h 0 41) ((x5).toNatClampNeg)) * (((10 - x1)).toInt64)) * 10))) ((x5).toNatClampNeg)) + ((((eJ h 0 41) ((x5).toNatClampNeg)) * ((x1).toInt64)) * (((10 - x2)).toInt64))))) 0 42 (vp_updL (vp_updL (vp_updL (eJ h 0 42) (((((x5 / 4) * 4) + (y1 ||| y0))).toNatClampNeg) (((eJ h 0 42) (((((x5 / 4) * 4) + (y1 ||| y0))).toNatClampNeg)) + ((((eJ h 0 41) ((x5).toNatClampNeg)) * (((10 - x1)).toInt64)) * 10))) ((x5).toNatClampNeg) (((vp_updL (eJ h 0 42) (((((x5 / 4) * 4) + (y1 ||| y0))).toNatClampNeg) (((eJ h 0 42) (((((x5 / 4) * 4) + (y1 ||| y0))).toNatClampNeg)) + ((((eJ h 0 41) ((x5).toNatClampNeg)) * (((10 - x1)).toInt64)) * 10))) ((x5).toNatClampNeg)) + ((((eJ h 0 41) ((x5).toNatClampNeg)) * ((x1).toInt64)) * (((10 - x2)).toInt64)))) ((((4 * ((x5 / 4) ||| r_9)) + (x5 - x5 / 4 * 4))).toNatClampNeg) (((vp_updL (vp_updL (eJ h 0 42) (((((x5 / 4) * 4) + (y1 ||| y0))).toNatClampNeg) (((eJ h 0 42) (((((x5 / 4) * 4) + (y1 ||| y0))).toNatClampNeg)) + ((((eJ h 0 41) ((x5).toNatClampNeg)) * (((10 - x1)).toInt64)) * 10))) ((x5).toNatClampNeg) (((vp_updL (eJ h 0 42) (((((x5 / 4) * 4) + (y1 ||| y0))).toNatClampNeg) (((eJ h 0 42) (((((x5 / 4) * 4) + (y1 ||| y0))).toNatClampNeg)) + ((((eJ h 0 41) ((x5).toNatClampNeg)) * (((10 - x1)).toInt64)) * 10))) ((x5).toNatClampNeg)) + ((((eJ h 0 41) ((x5).toNatClampNeg)) * ((x1).toInt64)) * (((10 - x2)).toInt64)))) ((((4 * ((x5 / 4) ||| r_9)) + (x5 - x5 / 4 * 4))).toNatClampNeg)) + ((((eJ h 0 41) ((x5).toNatClampNeg)) * ((x1).toInt64)) * ((x2).toInt64))))) x1 x2 x3 x4 (x5 + 1)) else none) else none) else none) else none) else none) else none) else none) else none) else none)))
def f_X9_comesMany_27 : Nat → HS → Int32 → Int32 → Int32 → Int32 → Int32 → Option HS
  | 0, _, _, _, _, _, _ => none
  | n + 1, h, x1, x2, x3, x4, x5 => (if 16 ≤ x5 then (f_X9_comesMany_164 8589934592 h 0) else (if x4 = 0 then (f_X9_comesMany_51 (f_X9_comesMany_27 n) h x1 x2 x3 x4 x5 0 (x5 - x5 / 4 * 4)) else (ob1 (f_X9_halves x3) (fun r_5 => (f_X9_comesMany_51 (f_X9_comesMany_27 n) h x1 x2 x3 x4 x5 r_5 (x5 - x5 / 4 * 4))))))
theorem f_X9_comesMany_27_s (n : Nat) (h : HS) (x1 : Int32) (x2 : Int32) (x3 : Int32) (x4 : Int32) (x5 : Int32) : f_X9_comesMany_27 (n + 1) h x1 x2 x3 x4 x5 = (if 16 ≤ x5 then (f_X9_comesMany_164 8589934592 h 0) else (if x4 = 0 then (f_X9_comesMany_51 (f_X9_comesMany_27 n) h x1 x2 x3 x4 x5 0 (x5 - x5 / 4 * 4)) else (ob1 (f_X9_halves x3) (fun r_5 => (f_X9_comesMany_51 (f_X9_comesMany_27 n) h x1 x2 x3 x4 x5 r_5 (x5 - x5 / 4 * 4)))))) := rfl
def f_X9_comesMany_3 : Nat → HS → Int32 → Int32 → Int32 → Int32 → Int32 → Option HS
  | 0, _, _, _, _, _, _ => none
  | n + 1, h, x1, x2, x3, x4, x5 => (if 16 ≤ x5 then (f_X9_comesMany_27 8589934592 h x1 x2 x3 x4 0) else (if 0 ≤ (x5).toInt ∧ (x5).toInt < 16 then ((f_X9_comesMany_3 n) (sJ h 0 42 (vp_updL (eJ h 0 42) ((x5).toNatClampNeg) 0)) x1 x2 x3 x4 (x5 + 1)) else none))
theorem f_X9_comesMany_3_s (n : Nat) (h : HS) (x1 : Int32) (x2 : Int32) (x3 : Int32) (x4 : Int32) (x5 : Int32) : f_X9_comesMany_3 (n + 1) h x1 x2 x3 x4 x5 = (if 16 ≤ x5 then (f_X9_comesMany_27 8589934592 h x1 x2 x3 x4 0) else (if 0 ≤ (x5).toInt ∧ (x5).toInt < 16 then ((f_X9_comesMany_3 n) (sJ h 0 42 (vp_updL (eJ h 0 42) ((x5).toNatClampNeg) 0)) x1 x2 x3 x4 (x5 + 1)) else none)) := rfl
def f_X9_comesMany (h : HS) (p1 : Int32) (p2 : Int32) (p3 : Int32) (p4 : Int32) : Option HS := (f_X9_comesMany_3 8589934592 h p1 p2 p3 p4 0)
set_option maxHeartbeats 4000000 in
set_option maxRecDepth 100000 in
theorem c_X9_comesMany (l : Launch) (G : va_G) (cI cJ cZ cB cT : ClassId) (m0 : Nat) (r : Nat → Nat) (h : HS) (p1 : Int32) (p2 : Int32) (p3 : Int32) (p4 : Int32) (hh : HS) (hF : f_X9_comesMany h p1 p2 p3 p4 = some hh) : gMv l yX9_comesMany (gws yX9_comesMany cX9_comesMany 8 none) 2 G (gT cI cJ cZ cB cT) [.ref m0, .int p1, .int p2, .int p3, .int p4] (wM m0 r cI cJ cZ cB cT h) (fun (_ : Unit) => True) (fun (_ : Unit) => (wM m0 r cI cJ cZ cB cT hh)) := by
  intro sz
  refine gM_start (y := yX9_comesMany) (av := [.ref m0, .int p1, .int p2, .int p3, .int p4]) (ws := (wM m0 r cI cJ cZ cB cT h)) (Qf := fun A => va_Qv (fun (_ : Unit) => True) (gB G (fun (_ : Unit) => (wM m0 r cI cJ cZ cB cT hh)) A) A) (cc := cX9_comesMany) (maxL := 8) (ret := none) (by decide) (Nat.le_of_ble_eq_true rfl) ?_
  intro p e s m args below meth c A ls H hx hb hr hts hown hin hlocks hml hP hK hD hA hS hl hE
  have hl : lv_has ls 8 [(0, .ref m0), (1, .int p1), (2, .int p2), (3, .int p3), (4, .int p4)] := hl
  have hJ_164 : ∀ (n_164 : Nat) (h : HS) (x5 : Int32), f_X9_comesMany_164 n_164 h x5 = some hh → ∀ (H : Heap) (locs : List Loc) (ls : Array Slot), va_P G vwCl (wM m0 r cI cJ cZ cB cT h) H → va_D A (wM m0 r cI cJ cZ cB cT h) → va_S A s.heap H locs → lv_has ls 8 [(0, .ref m0), (5, .int x5)] → W p l e (gRm 2) s m args below meth c H locs 0 0 (MQ below (va_Qv (fun (_ : Unit) => True) (gB G (fun (_ : Unit) => (wM m0 r cI cJ cZ cB cT hh)) A) A) args s 0 0 A) (F0 m 164 ls []) := by
    intro n_164
    induction n_164 with
    | zero =>
      intro h x5 hF
      exact absurd hF (by simp [f_X9_comesMany_164])
    | succ n_164 ih_164 =>
      intro h x5 hF H locs ls hP hD hS hl
      rw [f_X9_comesMany_164_s] at hF
      refine lv_iload hx hb dX9_comesMany_164 (lv_at hl 1 rfl) ?_
      refine lv_bipush (v := 16) hx hb dX9_comesMany_166 (by decide) ?_
      refine lv_icmp_ge (tgt := 191) hx hb dX9_comesMany_168 (by decide) (fun c_6 => ?_) (fun c_6 => ?_)
      · have hF := ob_pos c_6 hF
        obtain rfl := ob_one hF
        exact gw_vret () hx hb hr hlocks hP hD hS trivial dX9_comesMany_191
      · have hF := ob_neg c_6 hF
        refine lv_aload_n hx hb dX9_comesMany_171 rfl (lv_at hl 0 rfl) ?_
        refine va_get (D := G) (ci := 9) (v := .ref (r 41)) (C := RX9) (T := TX9) (N := 53) hx hb hts iX9 hown hK hP 0 wM_at0 rfl 41 (by decide) (hts _ m_358) (fun _ h9 => h9) rfl dX9_comesMany_172 ?_
        refine lv_iload hx hb dX9_comesMany_175 (lv_at hl 1 rfl) ?_
        refine lv_aload_n hx hb dX9_comesMany_177 rfl (lv_at hl 0 rfl) ?_
        refine va_get (D := G) (ci := 9) (v := .ref (r 42)) (C := RX9) (T := TX9) (N := 53) hx hb hts iX9 hown hK hP 0 wM_at0 rfl 42 (by decide) (hts _ m_359) (fun _ h9 => h9) rfl dX9_comesMany_178 ?_
        refine lv_iload hx hb dX9_comesMany_181 (lv_at hl 1 rfl) ?_
        obtain ⟨hi_7, hF⟩ := ob_if hF
        refine va_lald (D := G) hx hb hK hP 26 1 wM_at26 rfl (vp_in_iff.mpr hi_7) dX9_comesMany_183 ?_
        refine gw_topl (y := ((eJ h 0 42) ((x5).toNatClampNeg))) rfl ?_
        obtain ⟨hi_8, hF⟩ := ob_if hF
        refine va_last (D := G) hx hb hK hP hD hS 25 1 wM_at25 rfl (vp_in_iff.mpr hi_8) dX9_comesMany_184 (fun H locs hP hD hS => ?_)
        rw [wM_sA25] at hP hD
        have hP : va_P G vwCl (wM m0 r cI cJ cZ cB cT (sJ h 0 41 (vp_updL (eJ h 0 41) ((x5).toNatClampNeg) ((eJ h 0 42) ((x5).toNatClampNeg))))) H := hP
        have hD : va_D A (wM m0 r cI cJ cZ cB cT (sJ h 0 41 (vp_updL (eJ h 0 41) ((x5).toNatClampNeg) ((eJ h 0 42) ((x5).toNatClampNeg))))) := hD
        refine lv_iinc (v := (x5 + 1)) (lv' := [(5, .int (x5 + 1)), (0, .ref m0)]) hx hb dX9_comesMany_185 hl (k := 1) rfl rfl (by decide) rfl (fun ls hl => ?_)
        refine lv_goto (tgt := 164) hx hb dX9_comesMany_188 (by decide) ?_
        exact ih_164 (sJ h 0 41 (vp_updL (eJ h 0 41) ((x5).toNatClampNeg) ((eJ h 0 42) ((x5).toNatClampNeg)))) (x5 + 1) hF H _ ls hP hD hS (lv_sub hl [1, 0] rfl)
  have hJ_27 : ∀ (n_27 : Nat) (h : HS) (x1 : Int32) (x2 : Int32) (x3 : Int32) (x4 : Int32) (x5 : Int32), f_X9_comesMany_27 n_27 h x1 x2 x3 x4 x5 = some hh → ∀ (H : Heap) (locs : List Loc) (ls : Array Slot), va_P G vwCl (wM m0 r cI cJ cZ cB cT h) H → va_D A (wM m0 r cI cJ cZ cB cT h) → va_S A s.heap H locs → lv_has ls 8 [(0, .ref m0), (1, .int x1), (2, .int x2), (3, .int x3), (4, .int x4), (5, .int x5)] → W p l e (gRm 2) s m args below meth c H locs 0 0 (MQ below (va_Qv (fun (_ : Unit) => True) (gB G (fun (_ : Unit) => (wM m0 r cI cJ cZ cB cT hh)) A) A) args s 0 0 A) (F0 m 27 ls []) := by
    intro n_27
    induction n_27 with
    | zero =>
      intro h x1 x2 x3 x4 x5 hF
      exact absurd hF (by simp [f_X9_comesMany_27])
    | succ n_27 ih_27 =>
      have hJ_51 : ∀ (h : HS) (x1 : Int32) (x2 : Int32) (x3 : Int32) (x4 : Int32) (x5 : Int32) (y0 : Int32) (y1 : Int32), f_X9_comesMany_51 (f_X9_comesMany_27 n_27) h x1 x2 x3 x4 x5 y0 y1 = some hh → ∀ (H : Heap) (locs : List Loc) (ls : Array Slot), va_P G vwCl (wM m0 r cI cJ cZ cB cT h) H → va_D A (wM m0 r cI cJ cZ cB cT h) → va_S A s.heap H locs → lv_has ls 8 [(0, .ref m0), (1, .int x1), (2, .int x2), (3, .int x3), (4, .int x4), (5, .int x5)] → W p l e (gRm 2) s m args below meth c H locs 0 0 (MQ below (va_Qv (fun (_ : Unit) => True) (gB G (fun (_ : Unit) => (wM m0 r cI cJ cZ cB cT hh)) A) A) args s 0 0 A) (F0 m 51 ls [.int y0, .int y1]) := by
        intro h x1 x2 x3 x4 x5 y0 y1 hF H locs ls hP hD hS hl
        unfold f_X9_comesMany_51 at hF
        refine lv_ior hx hb dX9_comesMany_51 ?_
        refine lv_istore (lv' := [(6, .int (y1 ||| y0)), (0, .ref m0), (1, .int x1), (2, .int x2), (3, .int x3), (4, .int x4), (5, .int x5)]) hx hb dX9_comesMany_52 hl (by decide) rfl (fun ls hl => ?_)
        refine lv_iload hx hb dX9_comesMany_54 (lv_at hl 6 rfl) ?_
        refine lv_iconst (v := 4) hx hb dX9_comesMany_56 (by decide) ?_
        refine lv_idiv hx hb dX9_comesMany_57 (by decide) ?_
        refine lv_iload_n hx hb dX9_comesMany_58 rfl (lv_at hl 4 rfl) ?_
        obtain ⟨r_9, e_9, hF⟩ := ob1_some hF
        refine gx_calli0 (gx_runS0 (As := [.int x3]) (rest := [.int (x5 / 4)]) ⟨hx, hb, hml, hown, hts⟩ (c_X9_halves l G cI cJ cZ cB cT   x3 r_9 e_9 H.size) (gG_S m_341 m_342 m_64 m_340) rfl e_X9_halves ⟨Nat.le_of_ble_eq_true rfl, Nat.le_of_ble_eq_true rfl⟩ hK hE hS hA rfl hl.1 rfl (Nat.le_of_ble_eq_true rfl) dX9_comesMany_59 ⟨Nat.le_refl _, Nat.le_refl _⟩) hP hD hS hA (fun x_9 u_9 H locs hw_9 hP hD hS => ?_)
        subst x_9
        refine lv_ior hx hb dX9_comesMany_62 ?_
        refine lv_istore (lv' := [(7, .int ((x5 / 4) ||| r_9)), (6, .int (y1 ||| y0)), (0, .ref m0), (1, .int x1), (2, .int x2), (3, .int x3), (4, .int x4), (5, .int x5)]) hx hb dX9_comesMany_63 hl (by decide) rfl (fun ls hl => ?_)
        refine lv_aload_n hx hb dX9_comesMany_65 rfl (lv_at hl 2 rfl) ?_
        refine va_get (D := G) (ci := 9) (v := .ref (r 42)) (C := RX9) (T := TX9) (N := 53) hx hb hts iX9 hown hK hP 0 wM_at0 rfl 42 (by decide) (hts _ m_359) (fun _ h9 => h9) rfl dX9_comesMany_66 ?_
        refine lv_iload hx hb dX9_comesMany_69 (lv_at hl 7 rfl) ?_
        refine lv_iconst (v := 4) hx hb dX9_comesMany_71 (by decide) ?_
        refine lv_idiv hx hb dX9_comesMany_72 (by decide) ?_
        refine lv_iconst (v := 4) hx hb dX9_comesMany_73 (by decide) ?_
        refine lv_imul hx hb dX9_comesMany_74 ?_
        refine lv_iload hx hb dX9_comesMany_75 (lv_at hl 1 rfl) ?_
        refine lv_iadd hx hb dX9_comesMany_77 ?_
        refine lv_dup2_11 hx hb dX9_comesMany_78 rfl rfl ?_
        obtain ⟨hi_10, hF⟩ := ob_if hF
        refine va_lald (D := G) hx hb hK hP 26 1 wM_at26 rfl (vp_in_iff.mpr hi_10) dX9_comesMany_79 ?_
        refine gw_topl (y := ((eJ h 0 42) (((((x5 / 4) * 4) + (y1 ||| y0))).toNatClampNeg))) rfl ?_
        refine lv_aload_n hx hb dX9_comesMany_80 rfl (lv_at hl 2 rfl) ?_
        refine va_get (D := G) (ci := 9) (v := .ref (r 41)) (C := RX9) (T := TX9) (N := 53) hx hb hts iX9 hown hK hP 0 wM_at0 rfl 41 (by decide) (hts _ m_358) (fun _ h9 => h9) rfl dX9_comesMany_81 ?_
        refine lv_iload hx hb dX9_comesMany_84 (lv_at hl 7 rfl) ?_
        obtain ⟨hi_11, hF⟩ := ob_if hF
        refine va_lald (D := G) hx hb hK hP 25 1 wM_at25 rfl (vp_in_iff.mpr hi_11) dX9_comesMany_86 ?_
        refine gw_topl (y := ((eJ h 0 41) ((x5).toNatClampNeg))) rfl ?_
        refine lv_bipush (v := 10) hx hb dX9_comesMany_87 (by decide) ?_
        refine lv_iload_n hx hb dX9_comesMany_89 rfl (lv_at hl 3 rfl) ?_
        refine lv_isub hx hb dX9_comesMany_90 ?_
        refine lv_i2l (v := ((10 - x1)).toInt64) hx hb dX9_comesMany_91 rfl ?_
        refine lv_lmul hx hb dX9_comesMany_92 ?_
        refine lv_ldc2 (v := 10) hx hb hown (hts _ m_360) dX9_comesMany_93 ?_
        refine lv_lmul hx hb dX9_comesMany_96 ?_
        refine lv_ladd hx hb dX9_comesMany_97 ?_
        obtain ⟨hi_12, hF⟩ := ob_if hF
        refine va_last (D := G) hx hb hK hP hD hS 26 1 wM_at26 rfl (vp_in_iff.mpr hi_12) dX9_comesMany_98 (fun H locs hP hD hS => ?_)
        rw [wM_sA26] at hP hD
        have hP : va_P G vwCl (wM m0 r cI cJ cZ cB cT (sJ h 0 42 (vp_updL (eJ h 0 42) (((((x5 / 4) * 4) + (y1 ||| y0))).toNatClampNeg) (((eJ h 0 42) (((((x5 / 4) * 4) + (y1 ||| y0))).toNatClampNeg)) + ((((eJ h 0 41) ((x5).toNatClampNeg)) * (((10 - x1)).toInt64)) * 10))))) H := hP
        have hD : va_D A (wM m0 r cI cJ cZ cB cT (sJ h 0 42 (vp_updL (eJ h 0 42) (((((x5 / 4) * 4) + (y1 ||| y0))).toNatClampNeg) (((eJ h 0 42) (((((x5 / 4) * 4) + (y1 ||| y0))).toNatClampNeg)) + ((((eJ h 0 41) ((x5).toNatClampNeg)) * (((10 - x1)).toInt64)) * 10))))) := hD
        refine lv_aload_n hx hb dX9_comesMany_99 rfl (lv_at hl 2 rfl) ?_
        refine va_get (D := G) (ci := 9) (v := .ref (r 42)) (C := RX9) (T := TX9) (N := 53) hx hb hts iX9 hown hK hP 0 wM_at0 rfl 42 (by decide) (hts _ m_359) (fun _ h9 => h9) rfl dX9_comesMany_100 ?_
        refine lv_iload hx hb dX9_comesMany_103 (lv_at hl 7 rfl) ?_
        refine lv_dup2_11 hx hb dX9_comesMany_105 rfl rfl ?_
        obtain ⟨hi_13, hF⟩ := ob_if hF
        refine va_lald (D := G) hx hb hK hP 26 1 wM_at26 rfl (vp_in_iff.mpr hi_13) dX9_comesMany_106 ?_
        refine gw_topl (y := ((vp_updL (eJ h 0 42) (((((x5 / 4) * 4) + (y1 ||| y0))).toNatClampNeg) (((eJ h 0 42) (((((x5 / 4) * 4) + (y1 ||| y0))).toNatClampNeg)) + ((((eJ h 0 41) ((x5).toNatClampNeg)) * (((10 - x1)).toInt64)) * 10))) ((x5).toNatClampNeg))) rfl ?_
        refine lv_aload_n hx hb dX9_comesMany_107 rfl (lv_at hl 2 rfl) ?_
        refine va_get (D := G) (ci := 9) (v := .ref (r 41)) (C := RX9) (T := TX9) (N := 53) hx hb hts iX9 hown hK hP 0 wM_at0 rfl 41 (by decide) (hts _ m_358) (fun _ h9 => h9) rfl dX9_comesMany_108 ?_
        refine lv_iload hx hb dX9_comesMany_111 (lv_at hl 7 rfl) ?_
        obtain ⟨hi_14, hF⟩ := ob_if hF
        refine va_lald (D := G) hx hb hK hP 25 1 wM_at25 rfl (vp_in_iff.mpr hi_14) dX9_comesMany_113 ?_
        refine gw_topl (y := ((eJ h 0 41) ((x5).toNatClampNeg))) rfl ?_
        refine lv_iload_n hx hb dX9_comesMany_114 rfl (lv_at hl 3 rfl) ?_
        refine lv_i2l (v := (x1).toInt64) hx hb dX9_comesMany_115 rfl ?_
        refine lv_lmul hx hb dX9_comesMany_116 ?_
        refine lv_bipush (v := 10) hx hb dX9_comesMany_117 (by decide) ?_
        refine lv_iload_n hx hb dX9_comesMany_119 rfl (lv_at hl 4 rfl) ?_
        refine lv_isub hx hb dX9_comesMany_120 ?_
        refine lv_i2l (v := ((10 - x2)).toInt64) hx hb dX9_comesMany_121 rfl ?_
        refine lv_lmul hx hb dX9_comesMany_122 ?_
        refine lv_ladd hx hb dX9_comesMany_123 ?_
        obtain ⟨hi_15, hF⟩ := ob_if hF
        refine va_last (D := G) hx hb hK hP hD hS 26 1 wM_at26 rfl (vp_in_iff.mpr hi_15) dX9_comesMany_124 (fun H locs hP hD hS => ?_)
        rw [wM_sA26] at hP hD
        have hP : va_P G vwCl (wM m0 r cI cJ cZ cB cT (sJ (sJ h 0 42 (vp_updL (eJ h 0 42) (((((x5 / 4) * 4) + (y1 ||| y0))).toNatClampNeg) (((eJ h 0 42) (((((x5 / 4) * 4) + (y1 ||| y0))).toNatClampNeg)) + ((((eJ h 0 41) ((x5).toNatClampNeg)) * (((10 - x1)).toInt64)) * 10)))) 0 42 (vp_updL (vp_updL (eJ h 0 42) (((((x5 / 4) * 4) + (y1 ||| y0))).toNatClampNeg) (((eJ h 0 42) (((((x5 / 4) * 4) + (y1 ||| y0))).toNatClampNeg)) + ((((eJ h 0 41) ((x5).toNatClampNeg)) * (((10 - x1)).toInt64)) * 10))) ((x5).toNatClampNeg) (((vp_updL (eJ h 0 42) (((((x5 / 4) * 4) + (y1 ||| y0))).toNatClampNeg) (((eJ h 0 42) (((((x5 / 4) * 4) + (y1 ||| y0))).toNatClampNeg)) + ((((eJ h 0 41) ((x5).toNatClampNeg)) * (((10 - x1)).toInt64)) * 10))) ((x5).toNatClampNeg)) + ((((eJ h 0 41) ((x5).toNatClampNeg)) * ((x1).toInt64)) * (((10 - x2)).toInt64)))))) H := hP
        have hD : va_D A (wM m0 r cI cJ cZ cB cT (sJ (sJ h 0 42 (vp_updL (eJ h 0 42) (((((x5 / 4) * 4) + (y1 ||| y0))).toNatClampNeg) (((eJ h 0 42) (((((x5 / 4) * 4) + (y1 ||| y0))).toNatClampNeg)) + ((((eJ h 0 41) ((x5).toNatClampNeg)) * (((10 - x1)).toInt64)) * 10)))) 0 42 (vp_updL (vp_updL (eJ h 0 42) (((((x5 / 4) * 4) + (y1 ||| y0))).toNatClampNeg) (((eJ h 0 42) (((((x5 / 4) * 4) + (y1 ||| y0))).toNatClampNeg)) + ((((eJ h 0 41) ((x5).toNatClampNeg)) * (((10 - x1)).toInt64)) * 10))) ((x5).toNatClampNeg) (((vp_updL (eJ h 0 42) (((((x5 / 4) * 4) + (y1 ||| y0))).toNatClampNeg) (((eJ h 0 42) (((((x5 / 4) * 4) + (y1 ||| y0))).toNatClampNeg)) + ((((eJ h 0 41) ((x5).toNatClampNeg)) * (((10 - x1)).toInt64)) * 10))) ((x5).toNatClampNeg)) + ((((eJ h 0 41) ((x5).toNatClampNeg)) * ((x1).toInt64)) * (((10 - x2)).toInt64)))))) := hD
        refine lv_aload_n hx hb dX9_comesMany_125 rfl (lv_at hl 2 rfl) ?_
        refine va_get (D := G) (ci := 9) (v := .ref (r 42)) (C := RX9) (T := TX9) (N := 53) hx hb hts iX9 hown hK hP 0 wM_at0 rfl 42 (by decide) (hts _ m_359) (fun _ h9 => h9) rfl dX9_comesMany_126 ?_
        refine lv_iconst (v := 4) hx hb dX9_comesMany_129 (by decide) ?_
        refine lv_iload hx hb dX9_comesMany_130 (lv_at hl 0 rfl) ?_
        refine lv_imul hx hb dX9_comesMany_132 ?_
        refine lv_iload hx hb dX9_comesMany_133 (lv_at hl 7 rfl) ?_
        refine lv_iconst (v := 4) hx hb dX9_comesMany_135 (by decide) ?_
        refine lv_irem hx hb dX9_comesMany_136 (by decide) ?_
        refine lv_iadd hx hb dX9_comesMany_137 ?_
        refine lv_dup2_11 hx hb dX9_comesMany_138 rfl rfl ?_
        obtain ⟨hi_16, hF⟩ := ob_if hF
        refine va_lald (D := G) hx hb hK hP 26 1 wM_at26 rfl (vp_in_iff.mpr hi_16) dX9_comesMany_139 ?_
        refine gw_topl (y := ((vp_updL (vp_updL (eJ h 0 42) (((((x5 / 4) * 4) + (y1 ||| y0))).toNatClampNeg) (((eJ h 0 42) (((((x5 / 4) * 4) + (y1 ||| y0))).toNatClampNeg)) + ((((eJ h 0 41) ((x5).toNatClampNeg)) * (((10 - x1)).toInt64)) * 10))) ((x5).toNatClampNeg) (((vp_updL (eJ h 0 42) (((((x5 / 4) * 4) + (y1 ||| y0))).toNatClampNeg) (((eJ h 0 42) (((((x5 / 4) * 4) + (y1 ||| y0))).toNatClampNeg)) + ((((eJ h 0 41) ((x5).toNatClampNeg)) * (((10 - x1)).toInt64)) * 10))) ((x5).toNatClampNeg)) + ((((eJ h 0 41) ((x5).toNatClampNeg)) * ((x1).toInt64)) * (((10 - x2)).toInt64)))) ((((4 * ((x5 / 4) ||| r_9)) + (x5 - x5 / 4 * 4))).toNatClampNeg))) rfl ?_
        refine lv_aload_n hx hb dX9_comesMany_140 rfl (lv_at hl 2 rfl) ?_
        refine va_get (D := G) (ci := 9) (v := .ref (r 41)) (C := RX9) (T := TX9) (N := 53) hx hb hts iX9 hown hK hP 0 wM_at0 rfl 41 (by decide) (hts _ m_358) (fun _ h9 => h9) rfl dX9_comesMany_141 ?_
        refine lv_iload hx hb dX9_comesMany_144 (lv_at hl 7 rfl) ?_
        obtain ⟨hi_17, hF⟩ := ob_if hF
        refine va_lald (D := G) hx hb hK hP 25 1 wM_at25 rfl (vp_in_iff.mpr hi_17) dX9_comesMany_146 ?_
        refine gw_topl (y := ((eJ h 0 41) ((x5).toNatClampNeg))) rfl ?_
        refine lv_iload_n hx hb dX9_comesMany_147 rfl (lv_at hl 3 rfl) ?_
        refine lv_i2l (v := (x1).toInt64) hx hb dX9_comesMany_148 rfl ?_
        refine lv_lmul hx hb dX9_comesMany_149 ?_
        refine lv_iload_n hx hb dX9_comesMany_150 rfl (lv_at hl 4 rfl) ?_
        refine lv_i2l (v := (x2).toInt64) hx hb dX9_comesMany_151 rfl ?_
        refine lv_lmul hx hb dX9_comesMany_152 ?_
        refine lv_ladd hx hb dX9_comesMany_153 ?_
        obtain ⟨hi_18, hF⟩ := ob_if hF
        refine va_last (D := G) hx hb hK hP hD hS 26 1 wM_at26 rfl (vp_in_iff.mpr hi_18) dX9_comesMany_154 (fun H locs hP hD hS => ?_)
        rw [wM_sA26] at hP hD
        have hP : va_P G vwCl (wM m0 r cI cJ cZ cB cT (sJ (sJ (sJ h 0 42 (vp_updL (eJ h 0 42) (((((x5 / 4) * 4) + (y1 ||| y0))).toNatClampNeg) (((eJ h 0 42) (((((x5 / 4) * 4) + (y1 ||| y0))).toNatClampNeg)) + ((((eJ h 0 41) ((x5).toNatClampNeg)) * (((10 - x1)).toInt64)) * 10)))) 0 42 (vp_updL (vp_updL (eJ h 0 42) (((((x5 / 4) * 4) + (y1 ||| y0))).toNatClampNeg) (((eJ h 0 42) (((((x5 / 4) * 4) + (y1 ||| y0))).toNatClampNeg)) + ((((eJ h 0 41) ((x5).toNatClampNeg)) * (((10 - x1)).toInt64)) * 10))) ((x5).toNatClampNeg) (((vp_updL (eJ h 0 42) (((((x5 / 4) * 4) + (y1 ||| y0))).toNatClampNeg) (((eJ h 0 42) (((((x5 / 4) * 4) + (y1 ||| y0))).toNatClampNeg)) + ((((eJ h 0 41) ((x5).toNatClampNeg)) * (((10 - x1)).toInt64)) * 10))) ((x5).toNatClampNeg)) + ((((eJ h 0 41) ((x5).toNatClampNeg)) * ((x1).toInt64)) * (((10 - x2)).toInt64))))) 0 42 (vp_updL (vp_updL (vp_updL (eJ h 0 42) (((((x5 / 4) * 4) + (y1 ||| y0))).toNatClampNeg) (((eJ h 0 42) (((((x5 / 4) * 4) + (y1 ||| y0))).toNatClampNeg)) + ((((eJ h 0 41) ((x5).toNatClampNeg)) * (((10 - x1)).toInt64)) * 10))) ((x5).toNatClampNeg) (((vp_updL (eJ h 0 42) (((((x5 / 4) * 4) + (y1 ||| y0))).toNatClampNeg) (((eJ h 0 42) (((((x5 / 4) * 4) + (y1 ||| y0))).toNatClampNeg)) + ((((eJ h 0 41) ((x5).toNatClampNeg)) * (((10 - x1)).toInt64)) * 10))) ((x5).toNatClampNeg)) + ((((eJ h 0 41) ((x5).toNatClampNeg)) * ((x1).toInt64)) * (((10 - x2)).toInt64)))) ((((4 * ((x5 / 4) ||| r_9)) + (x5 - x5 / 4 * 4))).toNatClampNeg) (((vp_updL (vp_updL (eJ h 0 42) (((((x5 / 4) * 4) + (y1 ||| y0))).toNatClampNeg) (((eJ h 0 42) (((((x5 / 4) * 4) + (y1 ||| y0))).toNatClampNeg)) + ((((eJ h 0 41) ((x5).toNatClampNeg)) * (((10 - x1)).toInt64)) * 10))) ((x5).toNatClampNeg) (((vp_updL (eJ h 0 42) (((((x5 / 4) * 4) + (y1 ||| y0))).toNatClampNeg) (((eJ h 0 42) (((((x5 / 4) * 4) + (y1 ||| y0))).toNatClampNeg)) + ((((eJ h 0 41) ((x5).toNatClampNeg)) * (((10 - x1)).toInt64)) * 10))) ((x5).toNatClampNeg)) + ((((eJ h 0 41) ((x5).toNatClampNeg)) * ((x1).toInt64)) * (((10 - x2)).toInt64)))) ((((4 * ((x5 / 4) ||| r_9)) + (x5 - x5 / 4 * 4))).toNatClampNeg)) + ((((eJ h 0 41) ((x5).toNatClampNeg)) * ((x1).toInt64)) * ((x2).toInt64)))))) H := hP
        have hD : va_D A (wM m0 r cI cJ cZ cB cT (sJ (sJ (sJ h 0 42 (vp_updL (eJ h 0 42) (((((x5 / 4) * 4) + (y1 ||| y0))).toNatClampNeg) (((eJ h 0 42) (((((x5 / 4) * 4) + (y1 ||| y0))).toNatClampNeg)) + ((((eJ h 0 41) ((x5).toNatClampNeg)) * (((10 - x1)).toInt64)) * 10)))) 0 42 (vp_updL (vp_updL (eJ h 0 42) (((((x5 / 4) * 4) + (y1 ||| y0))).toNatClampNeg) (((eJ h 0 42) (((((x5 / 4) * 4) + (y1 ||| y0))).toNatClampNeg)) + ((((eJ h 0 41) ((x5).toNatClampNeg)) * (((10 - x1)).toInt64)) * 10))) ((x5).toNatClampNeg) (((vp_updL (eJ h 0 42) (((((x5 / 4) * 4) + (y1 ||| y0))).toNatClampNeg) (((eJ h 0 42) (((((x5 / 4) * 4) + (y1 ||| y0))).toNatClampNeg)) + ((((eJ h 0 41) ((x5).toNatClampNeg)) * (((10 - x1)).toInt64)) * 10))) ((x5).toNatClampNeg)) + ((((eJ h 0 41) ((x5).toNatClampNeg)) * ((x1).toInt64)) * (((10 - x2)).toInt64))))) 0 42 (vp_updL (vp_updL (vp_updL (eJ h 0 42) (((((x5 / 4) * 4) + (y1 ||| y0))).toNatClampNeg) (((eJ h 0 42) (((((x5 / 4) * 4) + (y1 ||| y0))).toNatClampNeg)) + ((((eJ h 0 41) ((x5).toNatClampNeg)) * (((10 - x1)).toInt64)) * 10))) ((x5).toNatClampNeg) (((vp_updL (eJ h 0 42) (((((x5 / 4) * 4) + (y1 ||| y0))).toNatClampNeg) (((eJ h 0 42) (((((x5 / 4) * 4) + (y1 ||| y0))).toNatClampNeg)) + ((((eJ h 0 41) ((x5).toNatClampNeg)) * (((10 - x1)).toInt64)) * 10))) ((x5).toNatClampNeg)) + ((((eJ h 0 41) ((x5).toNatClampNeg)) * ((x1).toInt64)) * (((10 - x2)).toInt64)))) ((((4 * ((x5 / 4) ||| r_9)) + (x5 - x5 / 4 * 4))).toNatClampNeg) (((vp_updL (vp_updL (eJ h 0 42) (((((x5 / 4) * 4) + (y1 ||| y0))).toNatClampNeg) (((eJ h 0 42) (((((x5 / 4) * 4) + (y1 ||| y0))).toNatClampNeg)) + ((((eJ h 0 41) ((x5).toNatClampNeg)) * (((10 - x1)).toInt64)) * 10))) ((x5).toNatClampNeg) (((vp_updL (eJ h 0 42) (((((x5 / 4) * 4) + (y1 ||| y0))).toNatClampNeg) (((eJ h 0 42) (((((x5 / 4) * 4) + (y1 ||| y0))).toNatClampNeg)) + ((((eJ h 0 41) ((x5).toNatClampNeg)) * (((10 - x1)).toInt64)) * 10))) ((x5).toNatClampNeg)) + ((((eJ h 0 41) ((x5).toNatClampNeg)) * ((x1).toInt64)) * (((10 - x2)).toInt64)))) ((((4 * ((x5 / 4) ||| r_9)) + (x5 - x5 / 4 * 4))).toNatClampNeg)) + ((((eJ h 0 41) ((x5).toNatClampNeg)) * ((x1).toInt64)) * ((x2).toInt64)))))) := hD
        refine lv_iinc (v := (x5 + 1)) (lv' := [(5, .int (x5 + 1)), (7, .int ((x5 / 4) ||| r_9)), (6, .int (y1 ||| y0)), (0, .ref m0), (1, .int x1), (2, .int x2), (3, .int x3), (4, .int x4)]) hx hb dX9_comesMany_155 hl (k := 7) rfl rfl (by decide) rfl (fun ls hl => ?_)
        refine lv_goto (tgt := 27) hx hb dX9_comesMany_158 (by decide) ?_
        exact ih_27 (sJ (sJ (sJ h 0 42 (vp_updL (eJ h 0 42) (((((x5 / 4) * 4) + (y1 ||| y0))).toNatClampNeg) (((eJ h 0 42) (((((x5 / 4) * 4) + (y1 ||| y0))).toNatClampNeg)) + ((((eJ h 0 41) ((x5).toNatClampNeg)) * (((10 - x1)).toInt64)) * 10)))) 0 42 (vp_updL (vp_updL (eJ h 0 42) (((((x5 / 4) * 4) + (y1 ||| y0))).toNatClampNeg) (((eJ h 0 42) (((((x5 / 4) * 4) + (y1 ||| y0))).toNatClampNeg)) + ((((eJ h 0 41) ((x5).toNatClampNeg)) * (((10 - x1)).toInt64)) * 10))) ((x5).toNatClampNeg) (((vp_updL (eJ h 0 42) (((((x5 / 4) * 4) + (y1 ||| y0))).toNatClampNeg) (((eJ h 0 42) (((((x5 / 4) * 4) + (y1 ||| y0))).toNatClampNeg)) + ((((eJ h 0 41) ((x5).toNatClampNeg)) * (((10 - x1)).toInt64)) * 10))) ((x5).toNatClampNeg)) + ((((eJ h 0 41) ((x5).toNatClampNeg)) * ((x1).toInt64)) * (((10 - x2)).toInt64))))) 0 42 (vp_updL (vp_updL (vp_updL (eJ h 0 42) (((((x5 / 4) * 4) + (y1 ||| y0))).toNatClampNeg) (((eJ h 0 42) (((((x5 / 4) * 4) + (y1 ||| y0))).toNatClampNeg)) + ((((eJ h 0 41) ((x5).toNatClampNeg)) * (((10 - x1)).toInt64)) * 10))) ((x5).toNatClampNeg) (((vp_updL (eJ h 0 42) (((((x5 / 4) * 4) + (y1 ||| y0))).toNatClampNeg) (((eJ h 0 42) (((((x5 / 4) * 4) + (y1 ||| y0))).toNatClampNeg)) + ((((eJ h 0 41) ((x5).toNatClampNeg)) * (((10 - x1)).toInt64)) * 10))) ((x5).toNatClampNeg)) + ((((eJ h 0 41) ((x5).toNatClampNeg)) * ((x1).toInt64)) * (((10 - x2)).toInt64)))) ((((4 * ((x5 / 4) ||| r_9)) + (x5 - x5 / 4 * 4))).toNatClampNeg) (((vp_updL (vp_updL (eJ h 0 42) (((((x5 / 4) * 4) + (y1 ||| y0))).toNatClampNeg) (((eJ h 0 42) (((((x5 / 4) * 4) + (y1 ||| y0))).toNatClampNeg)) + ((((eJ h 0 41) ((x5).toNatClampNeg)) * (((10 - x1)).toInt64)) * 10))) ((x5).toNatClampNeg) (((vp_updL (eJ h 0 42) (((((x5 / 4) * 4) + (y1 ||| y0))).toNatClampNeg) (((eJ h 0 42) (((((x5 / 4) * 4) + (y1 ||| y0))).toNatClampNeg)) + ((((eJ h 0 41) ((x5).toNatClampNeg)) * (((10 - x1)).toInt64)) * 10))) ((x5).toNatClampNeg)) + ((((eJ h 0 41) ((x5).toNatClampNeg)) * ((x1).toInt64)) * (((10 - x2)).toInt64)))) ((((4 * ((x5 / 4) ||| r_9)) + (x5 - x5 / 4 * 4))).toNatClampNeg)) + ((((eJ h 0 41) ((x5).toNatClampNeg)) * ((x1).toInt64)) * ((x2).toInt64))))) x1 x2 x3 x4 (x5 + 1) hF H _ ls hP hD hS (lv_sub hl [3, 4, 5, 6, 7, 0] rfl)
      intro h x1 x2 x3 x4 x5 hF H locs ls hP hD hS hl
      rw [f_X9_comesMany_27_s] at hF
      refine lv_iload hx hb dX9_comesMany_27 (lv_at hl 5 rfl) ?_
      refine lv_bipush (v := 16) hx hb dX9_comesMany_29 (by decide) ?_
      refine lv_icmp_ge (tgt := 161) hx hb dX9_comesMany_31 (by decide) (fun c_3 => ?_) (fun c_3 => ?_)
      · have hF := ob_pos c_3 hF
        refine lv_iconst (v := 0) hx hb dX9_comesMany_161 (by decide) ?_
        refine lv_istore (lv' := [(5, .int 0), (0, .ref m0), (1, .int x1), (2, .int x2), (3, .int x3), (4, .int x4)]) hx hb dX9_comesMany_162 hl (by decide) rfl (fun ls hl => ?_)
        exact hJ_164 8589934592 h 0 hF H _ ls hP hD hS (lv_sub hl [1, 0] rfl)
      · have hF := ob_neg c_3 hF
        refine lv_iload hx hb dX9_comesMany_34 (lv_at hl 5 rfl) ?_
        refine lv_iconst (v := 4) hx hb dX9_comesMany_36 (by decide) ?_
        refine lv_irem hx hb dX9_comesMany_37 (by decide) ?_
        refine lv_iload hx hb dX9_comesMany_38 (lv_at hl 4 rfl) ?_
        refine lv_if_eq (tgt := 50) hx hb dX9_comesMany_40 (by decide) (fun c_4 => ?_) (fun c_4 => ?_)
        · have hF := ob_pos c_4 hF
          refine lv_iconst (v := 0) hx hb dX9_comesMany_50 (by decide) ?_
          exact hJ_51 h x1 x2 x3 x4 x5 0 (x5 - x5 / 4 * 4) hF H _ ls hP hD hS (lv_sub hl [0, 1, 2, 3, 4, 5] rfl)
        · have hF := ob_neg c_4 hF
          refine lv_iload_n hx hb dX9_comesMany_43 rfl (lv_at hl 3 rfl) ?_
          obtain ⟨r_5, e_5, hF⟩ := ob1_some hF
          refine gx_calli0 (gx_runS0 (As := [.int x3]) (rest := [.int (x5 - x5 / 4 * 4)]) ⟨hx, hb, hml, hown, hts⟩ (c_X9_halves l G cI cJ cZ cB cT   x3 r_5 e_5 H.size) (gG_S m_341 m_342 m_64 m_340) rfl e_X9_halves ⟨Nat.le_of_ble_eq_true rfl, Nat.le_of_ble_eq_true rfl⟩ hK hE hS hA rfl hl.1 rfl (Nat.le_of_ble_eq_true rfl) dX9_comesMany_44 ⟨Nat.le_refl _, Nat.le_refl _⟩) hP hD hS hA (fun x_5 u_5 H locs hw_5 hP hD hS => ?_)
          subst x_5
          refine lv_goto (tgt := 51) hx hb dX9_comesMany_47 (by decide) ?_
          exact hJ_51 h x1 x2 x3 x4 x5 r_5 (x5 - x5 / 4 * 4) hF H _ ls hP hD hS (lv_sub hl [0, 1, 2, 3, 4, 5] rfl)
  have hJ_3 : ∀ (n_3 : Nat) (h : HS) (x1 : Int32) (x2 : Int32) (x3 : Int32) (x4 : Int32) (x5 : Int32), f_X9_comesMany_3 n_3 h x1 x2 x3 x4 x5 = some hh → ∀ (H : Heap) (locs : List Loc) (ls : Array Slot), va_P G vwCl (wM m0 r cI cJ cZ cB cT h) H → va_D A (wM m0 r cI cJ cZ cB cT h) → va_S A s.heap H locs → lv_has ls 8 [(0, .ref m0), (1, .int x1), (2, .int x2), (3, .int x3), (4, .int x4), (5, .int x5)] → W p l e (gRm 2) s m args below meth c H locs 0 0 (MQ below (va_Qv (fun (_ : Unit) => True) (gB G (fun (_ : Unit) => (wM m0 r cI cJ cZ cB cT hh)) A) A) args s 0 0 A) (F0 m 3 ls []) := by
    intro n_3
    induction n_3 with
    | zero =>
      intro h x1 x2 x3 x4 x5 hF
      exact absurd hF (by simp [f_X9_comesMany_3])
    | succ n_3 ih_3 =>
      intro h x1 x2 x3 x4 x5 hF H locs ls hP hD hS hl
      rw [f_X9_comesMany_3_s] at hF
      refine lv_iload hx hb dX9_comesMany_3 (lv_at hl 5 rfl) ?_
      refine lv_bipush (v := 16) hx hb dX9_comesMany_5 (by decide) ?_
      refine lv_icmp_ge (tgt := 24) hx hb dX9_comesMany_7 (by decide) (fun c_1 => ?_) (fun c_1 => ?_)
      · have hF := ob_pos c_1 hF
        refine lv_iconst (v := 0) hx hb dX9_comesMany_24 (by decide) ?_
        refine lv_istore (lv' := [(5, .int 0), (0, .ref m0), (1, .int x1), (2, .int x2), (3, .int x3), (4, .int x4)]) hx hb dX9_comesMany_25 hl (by decide) rfl (fun ls hl => ?_)
        exact hJ_27 8589934592 h x1 x2 x3 x4 0 hF H _ ls hP hD hS (lv_sub hl [1, 2, 3, 4, 5, 0] rfl)
      · have hF := ob_neg c_1 hF
        refine lv_aload_n hx hb dX9_comesMany_10 rfl (lv_at hl 0 rfl) ?_
        refine va_get (D := G) (ci := 9) (v := .ref (r 42)) (C := RX9) (T := TX9) (N := 53) hx hb hts iX9 hown hK hP 0 wM_at0 rfl 42 (by decide) (hts _ m_359) (fun _ h9 => h9) rfl dX9_comesMany_11 ?_
        refine lv_iload hx hb dX9_comesMany_14 (lv_at hl 5 rfl) ?_
        refine lv_lconst (v := 0) hx hb dX9_comesMany_16 (by decide) ?_
        obtain ⟨hi_2, hF⟩ := ob_if hF
        refine va_last (D := G) hx hb hK hP hD hS 26 1 wM_at26 rfl (vp_in_iff.mpr hi_2) dX9_comesMany_17 (fun H locs hP hD hS => ?_)
        rw [wM_sA26] at hP hD
        have hP : va_P G vwCl (wM m0 r cI cJ cZ cB cT (sJ h 0 42 (vp_updL (eJ h 0 42) ((x5).toNatClampNeg) 0))) H := hP
        have hD : va_D A (wM m0 r cI cJ cZ cB cT (sJ h 0 42 (vp_updL (eJ h 0 42) ((x5).toNatClampNeg) 0))) := hD
        refine lv_iinc (v := (x5 + 1)) (lv' := [(5, .int (x5 + 1)), (0, .ref m0), (1, .int x1), (2, .int x2), (3, .int x3), (4, .int x4)]) hx hb dX9_comesMany_18 hl (k := 5) rfl rfl (by decide) rfl (fun ls hl => ?_)
        refine lv_goto (tgt := 3) hx hb dX9_comesMany_21 (by decide) ?_
        exact ih_3 (sJ h 0 42 (vp_updL (eJ h 0 42) ((x5).toNatClampNeg) 0)) x1 x2 x3 x4 (x5 + 1) hF H _ ls hP hD hS (lv_sub hl [1, 2, 3, 4, 5, 0] rfl)
  unfold f_X9_comesMany at hF
  refine lv_iconst (v := 0) hx hb dX9_comesMany_0 (by decide) ?_
  refine lv_istore (lv' := [(5, .int 0), (0, .ref m0), (1, .int p1), (2, .int p2), (3, .int p3), (4, .int p4)]) hx hb dX9_comesMany_1 hl (by decide) rfl (fun ls hl => ?_)
  exact hJ_3 8589934592 h p1 p2 p3 p4 0 hF H _ ls hP hD hS (lv_sub hl [1, 2, 3, 4, 5, 0] rfl)
def f_X9_manyOf_89 (k5 : HS → Int32 → Int64 → Int32 → Option (Int64 × HS)) (h : HS) (x1 : Int32) (x4 : Int32) (y0 : Int64) (y1 : Int64) : Option (Int64 × HS) := (k5 h x1 (y1 + y0) (x4 + 1))
def f_X9_manyOf_88 (k5 : HS → Int32 → Int64 → Int32 → Option (Int64 × HS)) (h : HS) (x1 : Int32) (x4 : Int32) (y0 : Int64) : Option (Int64 × HS) := (f_X9_manyOf_89 k5 h x1 x4 0 y0)
def f_X9_manyOf_78 (k5 : HS → Int32 → Int64 → Int32 → Option (Int64 × HS)) (h : HS) (x1 : Int32) (x4 : Int32) (y0 : Int64) : Option (Int64 × HS) := (if 0 ≤ (x4).toInt ∧ (x4).toInt < 16 then (f_X9_manyOf_89 k5 h x1 x4 ((eJ h 0 41) ((x4).toNatClampNeg)) y0) else none)
def f_X9_manyOf_40 (k5 : HS → Int32 → Int64 → Int32 → Option (Int64 × HS)) (h : HS) (x1 : Int32) (x2 : Int64) (x4 : Int32) (x5 : Int32) (y0 : Int32) : Option (Int64 × HS) := (if x1 = 0 then (if x5 = 0 then (f_X9_manyOf_88 k5 h x1 x4 x2) else (f_X9_manyOf_78 k5 h x1 x4 x2)) else (if x1 = 1 then (if y0 = 0 then (f_X9_manyOf_88 k5 h x1 x4 x2) else (f_X9_manyOf_78 k5 h x1 x4 x2)) else (if x5 = 0 then (f_X9_manyOf_88 k5 h x1 x4 x2) else (if y0 = 0 then (f_X9_manyOf_78 k5 h x1 x4 x2) else (f_X9_manyOf_88 k5 h x1 x4 x2)))))
def f_X9_manyOf_25 (k5 : HS → Int32 → Int64 → Int32 → Option (Int64 × HS)) (h : HS) (x1 : Int32) (x2 : Int64) (x4 : Int32) (y0 : Int32) : Option (Int64 × HS) := (if (x4 / 4) = 3 then (f_X9_manyOf_40 k5 h x1 x2 x4 y0 1) else (f_X9_manyOf_40 k5 h x1 x2 x4 y0 0))
def f_X9_manyOf_5 : Nat → HS → Int32 → Int64 → Int32 → Option (Int64 × HS)
  | 0, _, _, _, _ => none
  | n + 1, h, x1, x2, x4 => (if 16 ≤ x4 then (some (x2, h)) else (if (x4 - x4 / 4 * 4) = 3 then (f_X9_manyOf_25 (f_X9_manyOf_5 n) h x1 x2 x4 1) else (f_X9_manyOf_25 (f_X9_manyOf_5 n) h x1 x2 x4 0)))
theorem f_X9_manyOf_5_s (n : Nat) (h : HS) (x1 : Int32) (x2 : Int64) (x4 : Int32) : f_X9_manyOf_5 (n + 1) h x1 x2 x4 = (if 16 ≤ x4 then (some (x2, h)) else (if (x4 - x4 / 4 * 4) = 3 then (f_X9_manyOf_25 (f_X9_manyOf_5 n) h x1 x2 x4 1) else (f_X9_manyOf_25 (f_X9_manyOf_5 n) h x1 x2 x4 0))) := rfl
def f_X9_manyOf (h : HS) (p1 : Int32) : Option (Int64 × HS) := (f_X9_manyOf_5 8589934592 h p1 0 0)
set_option maxHeartbeats 4000000 in
set_option maxRecDepth 100000 in
theorem c_X9_manyOf (l : Launch) (G : va_G) (cI cJ cZ cB cT : ClassId) (m0 : Nat) (r : Nat → Nat) (h : HS) (p1 : Int32) (rr : Int64) (hh : HS) (hF : f_X9_manyOf h p1 = some (rr, hh)) : gMl l yX9_manyOf (gws yX9_manyOf cX9_manyOf 7 (some .long)) 1 G (gT cI cJ cZ cB cT) [.ref m0, .int p1] (wM m0 r cI cJ cZ cB cT h) (fun x (_ : Unit) => x = rr) (fun (_ : Unit) => (wM m0 r cI cJ cZ cB cT hh)) := by
  intro sz
  refine gM_start (y := yX9_manyOf) (av := [.ref m0, .int p1]) (ws := (wM m0 r cI cJ cZ cB cT h)) (Qf := fun A => va_Ql (fun x (_ : Unit) => x = rr) (gB G (fun (_ : Unit) => (wM m0 r cI cJ cZ cB cT hh)) A) A) (cc := cX9_manyOf) (maxL := 7) (ret := (some .long)) (by decide) (Nat.le_of_ble_eq_true rfl) ?_
  intro p e s m args below meth c A ls H hx hb hr hts hown hin hlocks hml hP hK hD hA hS hl hE
  have hl : lv_has ls 7 [(0, .ref m0), (1, .int p1)] := hl
  have hJ_5 : ∀ (n_5 : Nat) (h : HS) (x1 : Int32) (x2 : Int64) (x4 : Int32), f_X9_manyOf_5 n_5 h x1 x2 x4 = some (rr, hh) → ∀ (H : Heap) (locs : List Loc) (ls : Array Slot), va_P G vwCl (wM m0 r cI cJ cZ cB cT h) H → va_D A (wM m0 r cI cJ cZ cB cT h) → va_S A s.heap H locs → lv_has ls 7 [(0, .ref m0), (1, .int x1), (2, .long x2), (4, .int x4)] → W p l e (gRm 1) s m args below meth c H locs 0 0 (MQ below (va_Ql (fun x (_ : Unit) => x = rr) (gB G (fun (_ : Unit) => (wM m0 r cI cJ cZ cB cT hh)) A) A) args s 0 0 A) (F0 m 5 ls []) := by
    intro n_5
    induction n_5 with
    | zero =>
      intro h x1 x2 x4 hF
      exact absurd hF (by simp [f_X9_manyOf_5])
    | succ n_5 ih_5 =>
      have hJ_89 : ∀ (h : HS) (x1 : Int32) (x4 : Int32) (y0 : Int64) (y1 : Int64), f_X9_manyOf_89 (f_X9_manyOf_5 n_5) h x1 x4 y0 y1 = some (rr, hh) → ∀ (H : Heap) (locs : List Loc) (ls : Array Slot), va_P G vwCl (wM m0 r cI cJ cZ cB cT h) H → va_D A (wM m0 r cI cJ cZ cB cT h) → va_S A s.heap H locs → lv_has ls 7 [(0, .ref m0), (1, .int x1), (4, .int x4)] → W p l e (gRm 1) s m args below meth c H locs 0 0 (MQ below (va_Ql (fun x (_ : Unit) => x = rr) (gB G (fun (_ : Unit) => (wM m0 r cI cJ cZ cB cT hh)) A) A) args s 0 0 A) (F0 m 89 ls [.long y0, .long y1]) := by
        intro h x1 x4 y0 y1 hF H locs ls hP hD hS hl
        unfold f_X9_manyOf_89 at hF
        refine lv_ladd hx hb dX9_manyOf_89 ?_
        refine lv_lstore_n (lv' := [(2, .long (y1 + y0)), (0, .ref m0), (1, .int x1), (4, .int x4)]) hx hb dX9_manyOf_90 rfl hl (by decide) rfl (fun ls hl => ?_)
        refine lv_iinc (v := (x4 + 1)) (lv' := [(4, .int (x4 + 1)), (2, .long (y1 + y0)), (0, .ref m0), (1, .int x1)]) hx hb dX9_manyOf_91 hl (k := 3) rfl rfl (by decide) rfl (fun ls hl => ?_)
        refine lv_goto (tgt := 5) hx hb dX9_manyOf_94 (by decide) ?_
        exact ih_5 h x1 (y1 + y0) (x4 + 1) hF H _ ls hP hD hS (lv_sub hl [2, 3, 1, 0] rfl)
      have hJ_88 : ∀ (h : HS) (x1 : Int32) (x4 : Int32) (y0 : Int64), f_X9_manyOf_88 (f_X9_manyOf_5 n_5) h x1 x4 y0 = some (rr, hh) → ∀ (H : Heap) (locs : List Loc) (ls : Array Slot), va_P G vwCl (wM m0 r cI cJ cZ cB cT h) H → va_D A (wM m0 r cI cJ cZ cB cT h) → va_S A s.heap H locs → lv_has ls 7 [(0, .ref m0), (1, .int x1), (4, .int x4)] → W p l e (gRm 1) s m args below meth c H locs 0 0 (MQ below (va_Ql (fun x (_ : Unit) => x = rr) (gB G (fun (_ : Unit) => (wM m0 r cI cJ cZ cB cT hh)) A) A) args s 0 0 A) (F0 m 88 ls [.long y0]) := by
        intro h x1 x4 y0 hF H locs ls hP hD hS hl
        unfold f_X9_manyOf_88 at hF
        refine lv_lconst (v := 0) hx hb dX9_manyOf_88 (by decide) ?_
        exact hJ_89 h x1 x4 0 y0 hF H _ ls hP hD hS (lv_sub hl [0, 1, 2] rfl)
      have hJ_78 : ∀ (h : HS) (x1 : Int32) (x4 : Int32) (y0 : Int64), f_X9_manyOf_78 (f_X9_manyOf_5 n_5) h x1 x4 y0 = some (rr, hh) → ∀ (H : Heap) (locs : List Loc) (ls : Array Slot), va_P G vwCl (wM m0 r cI cJ cZ cB cT h) H → va_D A (wM m0 r cI cJ cZ cB cT h) → va_S A s.heap H locs → lv_has ls 7 [(0, .ref m0), (1, .int x1), (4, .int x4)] → W p l e (gRm 1) s m args below meth c H locs 0 0 (MQ below (va_Ql (fun x (_ : Unit) => x = rr) (gB G (fun (_ : Unit) => (wM m0 r cI cJ cZ cB cT hh)) A) A) args s 0 0 A) (F0 m 78 ls [.long y0]) := by
        intro h x1 x4 y0 hF H locs ls hP hD hS hl
        unfold f_X9_manyOf_78 at hF
        refine lv_aload_n hx hb dX9_manyOf_78 rfl (lv_at hl 0 rfl) ?_
        refine va_get (D := G) (ci := 9) (v := .ref (r 41)) (C := RX9) (T := TX9) (N := 53) hx hb hts iX9 hown hK hP 0 wM_at0 rfl 41 (by decide) (hts _ m_358) (fun _ h9 => h9) rfl dX9_manyOf_79 ?_
        refine lv_iload hx hb dX9_manyOf_82 (lv_at hl 2 rfl) ?_
        obtain ⟨hi_10, hF⟩ := ob_if hF
        refine va_lald (D := G) hx hb hK hP 25 1 wM_at25 rfl (vp_in_iff.mpr hi_10) dX9_manyOf_84 ?_
        refine gw_topl (y := ((eJ h 0 41) ((x4).toNatClampNeg))) rfl ?_
        refine lv_goto (tgt := 89) hx hb dX9_manyOf_85 (by decide) ?_
        exact hJ_89 h x1 x4 ((eJ h 0 41) ((x4).toNatClampNeg)) y0 hF H _ ls hP hD hS (lv_sub hl [0, 1, 2] rfl)
      have hJ_40 : ∀ (h : HS) (x1 : Int32) (x2 : Int64) (x4 : Int32) (x5 : Int32) (y0 : Int32), f_X9_manyOf_40 (f_X9_manyOf_5 n_5) h x1 x2 x4 x5 y0 = some (rr, hh) → ∀ (H : Heap) (locs : List Loc) (ls : Array Slot), va_P G vwCl (wM m0 r cI cJ cZ cB cT h) H → va_D A (wM m0 r cI cJ cZ cB cT h) → va_S A s.heap H locs → lv_has ls 7 [(0, .ref m0), (1, .int x1), (2, .long x2), (4, .int x4), (5, .int x5)] → W p l e (gRm 1) s m args below meth c H locs 0 0 (MQ below (va_Ql (fun x (_ : Unit) => x = rr) (gB G (fun (_ : Unit) => (wM m0 r cI cJ cZ cB cT hh)) A) A) args s 0 0 A) (F0 m 40 ls [.int y0]) := by
        intro h x1 x2 x4 x5 y0 hF H locs ls hP hD hS hl
        unfold f_X9_manyOf_40 at hF
        refine lv_istore (lv' := [(6, .int y0), (0, .ref m0), (1, .int x1), (2, .long x2), (4, .int x4), (5, .int x5)]) hx hb dX9_manyOf_40 hl (by decide) rfl (fun ls hl => ?_)
        refine lv_lload_n hx hb dX9_manyOf_42 rfl (lv_at hl 3 rfl) ?_
        refine lv_iload_n hx hb dX9_manyOf_43 rfl (lv_at hl 2 rfl) ?_
        refine lv_if_ne (tgt := 55) hx hb dX9_manyOf_44 (by decide) (fun c_4 => ?_) (fun c_4 => ?_)
        · have hF := ob_neg c_4 hF
          refine lv_iload_n hx hb dX9_manyOf_55 rfl (lv_at hl 2 rfl) ?_
          refine lv_iconst (v := 1) hx hb dX9_manyOf_56 (by decide) ?_
          refine lv_icmp_ne (tgt := 68) hx hb dX9_manyOf_57 (by decide) (fun c_5 => ?_) (fun c_5 => ?_)
          · have hF := ob_neg c_5 hF
            refine lv_iload hx hb dX9_manyOf_68 (lv_at hl 5 rfl) ?_
            refine lv_if_eq (tgt := 88) hx hb dX9_manyOf_70 (by decide) (fun c_6 => ?_) (fun c_6 => ?_)
            · have hF := ob_pos c_6 hF
              exact hJ_88 h x1 x4 x2 hF H _ ls hP hD hS (lv_sub hl [1, 2, 4] rfl)
            · have hF := ob_neg c_6 hF
              refine lv_iload hx hb dX9_manyOf_73 (lv_at hl 0 rfl) ?_
              refine lv_if_ne (tgt := 88) hx hb dX9_manyOf_75 (by decide) (fun c_7 => ?_) (fun c_7 => ?_)
              · have hF := ob_neg c_7 hF
                exact hJ_88 h x1 x4 x2 hF H _ ls hP hD hS (lv_sub hl [1, 2, 4] rfl)
              · have hF := ob_pos c_7 hF
                exact hJ_78 h x1 x4 x2 hF H _ ls hP hD hS (lv_sub hl [1, 2, 4] rfl)
          · have hF := ob_pos c_5 hF
            refine lv_iload hx hb dX9_manyOf_60 (lv_at hl 0 rfl) ?_
            refine lv_if_eq (tgt := 88) hx hb dX9_manyOf_62 (by decide) (fun c_8 => ?_) (fun c_8 => ?_)
            · have hF := ob_pos c_8 hF
              exact hJ_88 h x1 x4 x2 hF H _ ls hP hD hS (lv_sub hl [1, 2, 4] rfl)
            · have hF := ob_neg c_8 hF
              refine lv_goto (tgt := 78) hx hb dX9_manyOf_65 (by decide) ?_
              exact hJ_78 h x1 x4 x2 hF H _ ls hP hD hS (lv_sub hl [1, 2, 4] rfl)
        · have hF := ob_pos c_4 hF
          refine lv_iload hx hb dX9_manyOf_47 (lv_at hl 5 rfl) ?_
          refine lv_if_eq (tgt := 88) hx hb dX9_manyOf_49 (by decide) (fun c_9 => ?_) (fun c_9 => ?_)
          · have hF := ob_pos c_9 hF
            exact hJ_88 h x1 x4 x2 hF H _ ls hP hD hS (lv_sub hl [1, 2, 4] rfl)
          · have hF := ob_neg c_9 hF
            refine lv_goto (tgt := 78) hx hb dX9_manyOf_52 (by decide) ?_
            exact hJ_78 h x1 x4 x2 hF H _ ls hP hD hS (lv_sub hl [1, 2, 4] rfl)
      have hJ_25 : ∀ (h : HS) (x1 : Int32) (x2 : Int64) (x4 : Int32) (y0 : Int32), f_X9_manyOf_25 (f_X9_manyOf_5 n_5) h x1 x2 x4 y0 = some (rr, hh) → ∀ (H : Heap) (locs : List Loc) (ls : Array Slot), va_P G vwCl (wM m0 r cI cJ cZ cB cT h) H → va_D A (wM m0 r cI cJ cZ cB cT h) → va_S A s.heap H locs → lv_has ls 7 [(0, .ref m0), (1, .int x1), (2, .long x2), (4, .int x4)] → W p l e (gRm 1) s m args below meth c H locs 0 0 (MQ below (va_Ql (fun x (_ : Unit) => x = rr) (gB G (fun (_ : Unit) => (wM m0 r cI cJ cZ cB cT hh)) A) A) args s 0 0 A) (F0 m 25 ls [.int y0]) := by
        intro h x1 x2 x4 y0 hF H locs ls hP hD hS hl
        unfold f_X9_manyOf_25 at hF
        refine lv_istore (lv' := [(5, .int y0), (0, .ref m0), (1, .int x1), (2, .long x2), (4, .int x4)]) hx hb dX9_manyOf_25 hl (by decide) rfl (fun ls hl => ?_)
        refine lv_iload hx hb dX9_manyOf_27 (lv_at hl 4 rfl) ?_
        refine lv_iconst (v := 4) hx hb dX9_manyOf_29 (by decide) ?_
        refine lv_idiv hx hb dX9_manyOf_30 (by decide) ?_
        refine lv_iconst (v := 3) hx hb dX9_manyOf_31 (by decide) ?_
        refine lv_icmp_ne (tgt := 39) hx hb dX9_manyOf_32 (by decide) (fun c_3 => ?_) (fun c_3 => ?_)
        · have hF := ob_neg c_3 hF
          refine lv_iconst (v := 0) hx hb dX9_manyOf_39 (by decide) ?_
          exact hJ_40 h x1 x2 x4 y0 0 hF H _ ls hP hD hS (lv_sub hl [1, 2, 3, 4, 0] rfl)
        · have hF := ob_pos c_3 hF
          refine lv_iconst (v := 1) hx hb dX9_manyOf_35 (by decide) ?_
          refine lv_goto (tgt := 40) hx hb dX9_manyOf_36 (by decide) ?_
          exact hJ_40 h x1 x2 x4 y0 1 hF H _ ls hP hD hS (lv_sub hl [1, 2, 3, 4, 0] rfl)
      intro h x1 x2 x4 hF H locs ls hP hD hS hl
      rw [f_X9_manyOf_5_s] at hF
      refine lv_iload hx hb dX9_manyOf_5 (lv_at hl 3 rfl) ?_
      refine lv_bipush (v := 16) hx hb dX9_manyOf_7 (by decide) ?_
      refine lv_icmp_ge (tgt := 97) hx hb dX9_manyOf_9 (by decide) (fun c_1 => ?_) (fun c_1 => ?_)
      · have hF := ob_pos c_1 hF
        refine lv_lload_n hx hb dX9_manyOf_97 rfl (lv_at hl 2 rfl) ?_
        obtain ⟨rfl, rfl⟩ := ob_pair hF
        exact gw_lret () hx hb hr hlocks hP hD hS rfl dX9_manyOf_98
      · have hF := ob_neg c_1 hF
        refine lv_iload hx hb dX9_manyOf_12 (lv_at hl 3 rfl) ?_
        refine lv_iconst (v := 4) hx hb dX9_manyOf_14 (by decide) ?_
        refine lv_irem hx hb dX9_manyOf_15 (by decide) ?_
        refine lv_iconst (v := 3) hx hb dX9_manyOf_16 (by decide) ?_
        refine lv_icmp_ne (tgt := 24) hx hb dX9_manyOf_17 (by decide) (fun c_2 => ?_) (fun c_2 => ?_)
        · have hF := ob_neg c_2 hF
          refine lv_iconst (v := 0) hx hb dX9_manyOf_24 (by decide) ?_
          exact hJ_25 h x1 x2 x4 0 hF H _ ls hP hD hS (lv_sub hl [0, 1, 2, 3] rfl)
        · have hF := ob_pos c_2 hF
          refine lv_iconst (v := 1) hx hb dX9_manyOf_20 (by decide) ?_
          refine lv_goto (tgt := 25) hx hb dX9_manyOf_21 (by decide) ?_
          exact hJ_25 h x1 x2 x4 1 hF H _ ls hP hD hS (lv_sub hl [0, 1, 2, 3] rfl)
  unfold f_X9_manyOf at hF
  refine lv_lconst (v := 0) hx hb dX9_manyOf_0 (by decide) ?_
  refine lv_lstore_n (lv' := [(2, .long 0), (0, .ref m0), (1, .int p1)]) hx hb dX9_manyOf_1 rfl hl (by decide) rfl (fun ls hl => ?_)
  refine lv_iconst (v := 0) hx hb dX9_manyOf_2 (by decide) ?_
  refine lv_istore (lv' := [(4, .int 0), (2, .long 0), (0, .ref m0), (1, .int p1)]) hx hb dX9_manyOf_3 hl (by decide) rfl (fun ls hl => ?_)
  exact hJ_5 8589934592 h p1 0 0 hF H _ ls hP hD hS (lv_sub hl [2, 3, 1, 0] rfl)
def f_X9_odds_16 (h : HS) : Option (Int64 × HS) := (some ((-1), h))
def f_X9_odds_212 (h : HS) (y0 : Int64) : Option (Int64 × HS) := (some (y0, h))
def f_X9_odds_170 : Nat → HS → Int32 → Int64 → Int64 → Int64 → Int64 → Option (Int64 × HS)
  | 0, _, _, _, _, _, _ => none
  | n + 1, h, x3, x5, x7, x9, x11 => (if (lg_cmp x11 0) = 0 then (if x3 = 0 then (if ¬ x9 = 0 then (f_X9_odds_212 h (x7 / x9)) else none) else (if ¬ x9 = 0 then (f_X9_odds_212 h (x5 / x9)) else none)) else (if ¬ x11 = 0 then ((f_X9_odds_170 n) h x3 x5 x7 x11 (x9 - x9 / x11 * x11)) else none))
theorem f_X9_odds_170_s (n : Nat) (h : HS) (x3 : Int32) (x5 : Int64) (x7 : Int64) (x9 : Int64) (x11 : Int64) : f_X9_odds_170 (n + 1) h x3 x5 x7 x9 x11 = (if (lg_cmp x11 0) = 0 then (if x3 = 0 then (if ¬ x9 = 0 then (f_X9_odds_212 h (x7 / x9)) else none) else (if ¬ x9 = 0 then (f_X9_odds_212 h (x5 / x9)) else none)) else (if ¬ x11 = 0 then ((f_X9_odds_170 n) h x3 x5 x7 x11 (x9 - x9 / x11 * x11)) else none)) := rfl
def f_X9_odds_149 (k51 : HS → Int32 → Int32 → Int32 → Int32 → Int64 → Int32 → Option (Int64 × HS)) (h : HS) (x1 : Int32) (x2 : Int32) (x3 : Int32) (x4 : Int32) (x5 : Int64) (x7 : Int32) : Option (Int64 × HS) := (k51 h x1 x2 x3 x4 x5 (x7 + 1))
def f_X9_odds_51 : Nat → HS → Int32 → Int32 → Int32 → Int32 → Int64 → Int32 → Option (Int64 × HS)
  | 0, _, _, _, _, _, _, _ => none
  | n + 1, h, x1, x2, x3, x4, x5, x7 => (if ((eA h 0 0) 1) ≤ x7 then (ob2 (f_X9_manyOf h x2) (fun r_9 h_9 => (f_X9_odds_170 8589934592 h_9 x3 x5 r_9 x5 r_9))) else (ob2 (f_X9_ofGoose h x7 2) (fun r_10 h_10 => (if r_10 = x1 then (ob2 (f_X9_ofGoose h_10 x7 4) (fun r_12 h_12 => (if r_12 = 1 then (if (x4 + 1) ≤ 8 then (ob2 (f_X9_marketOf h_12 0 x7) (fun r_15 h_15 => (ob2 (f_X9_marketOf h_15 1 x7) (fun r_16 h_16 => (ob2 (f_X9_isTrue h_16 x7) (fun r_17 h_17 => (ob2 (f_X9_ofGoose h_17 x7 3) (fun r_18 h_18 => (ob1 (f_X9_comesMany h_18 r_15 r_16 r_18 r_17) (fun h_19 => (f_X9_odds_149 (f_X9_odds_51 n) h_19 x1 x2 x3 (x4 + 1) (x5 * 100) x7))))))))))) else (some ((-1), h_12))) else (f_X9_odds_149 (f_X9_odds_51 n) h_12 x1 x2 x3 x4 x5 x7)))) else (f_X9_odds_149 (f_X9_odds_51 n) h_10 x1 x2 x3 x4 x5 x7)))))
theorem f_X9_odds_51_s (n : Nat) (h : HS) (x1 : Int32) (x2 : Int32) (x3 : Int32) (x4 : Int32) (x5 : Int64) (x7 : Int32) : f_X9_odds_51 (n + 1) h x1 x2 x3 x4 x5 x7 = (if ((eA h 0 0) 1) ≤ x7 then (ob2 (f_X9_manyOf h x2) (fun r_9 h_9 => (f_X9_odds_170 8589934592 h_9 x3 x5 r_9 x5 r_9))) else (ob2 (f_X9_ofGoose h x7 2) (fun r_10 h_10 => (if r_10 = x1 then (ob2 (f_X9_ofGoose h_10 x7 4) (fun r_12 h_12 => (if r_12 = 1 then (if (x4 + 1) ≤ 8 then (ob2 (f_X9_marketOf h_12 0 x7) (fun r_15 h_15 => (ob2 (f_X9_marketOf h_15 1 x7) (fun r_16 h_16 => (ob2 (f_X9_isTrue h_16 x7) (fun r_17 h_17 => (ob2 (f_X9_ofGoose h_17 x7 3) (fun r_18 h_18 => (ob1 (f_X9_comesMany h_18 r_15 r_16 r_18 r_17) (fun h_19 => (f_X9_odds_149 (f_X9_odds_51 n) h_19 x1 x2 x3 (x4 + 1) (x5 * 100) x7))))))))))) else (some ((-1), h_12))) else (f_X9_odds_149 (f_X9_odds_51 n) h_12 x1 x2 x3 x4 x5 x7)))) else (f_X9_odds_149 (f_X9_odds_51 n) h_10 x1 x2 x3 x4 x5 x7))))) := rfl
def f_X9_odds (h : HS) (p1 : Int32) (p2 : Int32) (p3 : Int32) : Option (Int64 × HS) := (ob1 (f_X9_isLetterNumber p1) (fun r_1 => (if r_1 = 0 then (f_X9_odds_16 h) else (ob1 (f_X9_in p2 0 2) (fun r_3 => (if r_3 = 0 then (f_X9_odds_16 h) else (ob2 (f_X9_knownBy h p1 999 0) (fun r_5 h_5 => (ob2 (f_X9_knownBy h_5 p1 999 1) (fun r_6 h_6 => (ob1 (f_X9_startsMany h_6 r_5 r_6) (fun h_7 => (f_X9_odds_51 8589934592 h_7 p1 p2 p3 0 1 0)))))))))))))
theorem e_X9_comesMany : yX9_comesMany.cls = RX9 ∧ yX9_comesMany.cls ≠ "java/lang/invoke/MethodHandle" ∧ yX9_comesMany.cls ≠ "java/lang/invoke/VarHandle" ∧ (parseMethodDescriptor yX9_comesMany.desc).map (fun d => d.parameters.length) = some 4 := by decide +kernel
theorem e_X9_manyOf : yX9_manyOf.cls = RX9 ∧ yX9_manyOf.cls ≠ "java/lang/invoke/MethodHandle" ∧ yX9_manyOf.cls ≠ "java/lang/invoke/VarHandle" ∧ (parseMethodDescriptor yX9_manyOf.desc).map (fun d => d.parameters.length) = some 1 := by decide +kernel
theorem e_X9_startsMany : yX9_startsMany.cls = RX9 ∧ yX9_startsMany.cls ≠ "java/lang/invoke/MethodHandle" ∧ yX9_startsMany.cls ≠ "java/lang/invoke/VarHandle" ∧ (parseMethodDescriptor yX9_startsMany.desc).map (fun d => d.parameters.length) = some 2 := by decide +kernel
set_option maxHeartbeats 4000000 in
set_option maxRecDepth 100000 in
theorem c_X9_odds (l : Launch) (G : va_G) (cI cJ cZ cB cT : ClassId) (m0 : Nat) (r : Nat → Nat) (h : HS) (p1 : Int32) (p2 : Int32) (p3 : Int32) (rr : Int64) (hh : HS) (hF : f_X9_odds h p1 p2 p3 = some (rr, hh)) : gMl l yX9_odds (gws yX9_odds cX9_odds 15 (some .long)) 8 G (gT cI cJ cZ cB cT) [.ref m0, .int p1, .int p2, .int p3] (wM m0 r cI cJ cZ cB cT h) (fun x (_ : Unit) => x = rr) (fun (_ : Unit) => (wM m0 r cI cJ cZ cB cT hh)) := by
  intro sz
  refine gM_start (y := yX9_odds) (av := [.ref m0, .int p1, .int p2, .int p3]) (ws := (wM m0 r cI cJ cZ cB cT h)) (Qf := fun A => va_Ql (fun x (_ : Unit) => x = rr) (gB G (fun (_ : Unit) => (wM m0 r cI cJ cZ cB cT hh)) A) A) (cc := cX9_odds) (maxL := 15) (ret := (some .long)) (by decide) (Nat.le_of_ble_eq_true rfl) ?_
  intro p e s m args below meth c A ls H hx hb hr hts hown hin hlocks hml hP hK hD hA hS hl hE
  have hl : lv_has ls 15 [(0, .ref m0), (1, .int p1), (2, .int p2), (3, .int p3)] := hl
  have hJ_16 : ∀ (h : HS), f_X9_odds_16 h = some (rr, hh) → ∀ (H : Heap) (locs : List Loc) (ls : Array Slot), va_P G vwCl (wM m0 r cI cJ cZ cB cT h) H → va_D A (wM m0 r cI cJ cZ cB cT h) → va_S A s.heap H locs → lv_has ls 15 [] → W p l e (gRm 8) s m args below meth c H locs 0 0 (MQ below (va_Ql (fun x (_ : Unit) => x = rr) (gB G (fun (_ : Unit) => (wM m0 r cI cJ cZ cB cT hh)) A) A) args s 0 0 A) (F0 m 16 ls []) := by
    intro h hF H locs ls hP hD hS hl
    unfold f_X9_odds_16 at hF
    refine lv_ldc2 (v := (-1)) hx hb hown (hts _ m_365) dX9_odds_16 ?_
    obtain ⟨rfl, rfl⟩ := ob_pair hF
    exact gw_lret () hx hb hr hlocks hP hD hS rfl dX9_odds_19
  have hJ_212 : ∀ (h : HS) (y0 : Int64), f_X9_odds_212 h y0 = some (rr, hh) → ∀ (H : Heap) (locs : List Loc) (ls : Array Slot), va_P G vwCl (wM m0 r cI cJ cZ cB cT h) H → va_D A (wM m0 r cI cJ cZ cB cT h) → va_S A s.heap H locs → lv_has ls 15 [] → W p l e (gRm 8) s m args below meth c H locs 0 0 (MQ below (va_Ql (fun x (_ : Unit) => x = rr) (gB G (fun (_ : Unit) => (wM m0 r cI cJ cZ cB cT hh)) A) A) args s 0 0 A) (F0 m 212 ls [.long y0]) := by
    intro h y0 hF H locs ls hP hD hS hl
    unfold f_X9_odds_212 at hF
    obtain ⟨rfl, rfl⟩ := ob_pair hF
    exact gw_lret () hx hb hr hlocks hP hD hS rfl dX9_odds_212
  have hJ_170 : ∀ (n_170 : Nat) (h : HS) (x3 : Int32) (x5 : Int64) (x7 : Int64) (x9 : Int64) (x11 : Int64), f_X9_odds_170 n_170 h x3 x5 x7 x9 x11 = some (rr, hh) → ∀ (H : Heap) (locs : List Loc) (ls : Array Slot), va_P G vwCl (wM m0 r cI cJ cZ cB cT h) H → va_D A (wM m0 r cI cJ cZ cB cT h) → va_S A s.heap H locs → lv_has ls 15 [(3, .int x3), (5, .long x5), (7, .long x7), (9, .long x9), (11, .long x11)] → W p l e (gRm 8) s m args below meth c H locs 0 0 (MQ below (va_Ql (fun x (_ : Unit) => x = rr) (gB G (fun (_ : Unit) => (wM m0 r cI cJ cZ cB cT hh)) A) A) args s 0 0 A) (F0 m 170 ls []) := by
    intro n_170
    induction n_170 with
    | zero =>
      intro h x3 x5 x7 x9 x11 hF
      exact absurd hF (by simp [f_X9_odds_170])
    | succ n_170 ih_170 =>
      intro h x3 x5 x7 x9 x11 hF H locs ls hP hD hS hl
      rw [f_X9_odds_170_s] at hF
      refine lv_lload hx hb dX9_odds_170 (lv_at hl 4 rfl) ?_
      refine lv_lconst (v := 0) hx hb dX9_odds_172 (by decide) ?_
      refine W.lcmp hx hb dX9_odds_173 ?_
      refine lv_if_eq (tgt := 195) hx hb dX9_odds_174 (by decide) (fun c_20 => ?_) (fun c_20 => ?_)
      · have hF := ob_pos c_20 hF
        refine lv_iload_n hx hb dX9_odds_195 rfl (lv_at hl 0 rfl) ?_
        refine lv_if_eq (tgt := 207) hx hb dX9_odds_196 (by decide) (fun c_21 => ?_) (fun c_21 => ?_)
        · have hF := ob_pos c_21 hF
          refine lv_lload hx hb dX9_odds_207 (lv_at hl 2 rfl) ?_
          refine lv_lload hx hb dX9_odds_209 (lv_at hl 3 rfl) ?_
          obtain ⟨hd_22, hF⟩ := ob_if hF
          refine lv_ldiv hx hb dX9_odds_211 hd_22 ?_
          exact hJ_212 h (x7 / x9) hF H _ ls hP hD hS (lv_sub hl [] rfl)
        · have hF := ob_neg c_21 hF
          refine lv_lload hx hb dX9_odds_199 (lv_at hl 1 rfl) ?_
          refine lv_lload hx hb dX9_odds_201 (lv_at hl 3 rfl) ?_
          obtain ⟨hd_23, hF⟩ := ob_if hF
          refine lv_ldiv hx hb dX9_odds_203 hd_23 ?_
          refine lv_goto (tgt := 212) hx hb dX9_odds_204 (by decide) ?_
          exact hJ_212 h (x5 / x9) hF H _ ls hP hD hS (lv_sub hl [] rfl)
      · have hF := ob_neg c_20 hF
        refine lv_lload hx hb dX9_odds_177 (lv_at hl 3 rfl) ?_
        refine lv_lload hx hb dX9_odds_179 (lv_at hl 4 rfl) ?_
        obtain ⟨hd_24, hF⟩ := ob_if hF
        refine lv_lrem hx hb dX9_odds_181 hd_24 ?_
        refine lv_lstore (lv' := [(13, .long (x9 - x9 / x11 * x11)), (3, .int x3), (5, .long x5), (7, .long x7), (9, .long x9), (11, .long x11)]) hx hb dX9_odds_182 hl (by decide) rfl (fun ls hl => ?_)
        refine lv_lload hx hb dX9_odds_184 (lv_at hl 5 rfl) ?_
        refine lv_lstore (lv' := [(9, .long x11), (13, .long (x9 - x9 / x11 * x11)), (3, .int x3), (5, .long x5), (7, .long x7), (11, .long x11)]) hx hb dX9_odds_186 hl (by decide) rfl (fun ls hl => ?_)
        refine lv_lload hx hb dX9_odds_188 (lv_at hl 1 rfl) ?_
        refine lv_lstore (lv' := [(11, .long (x9 - x9 / x11 * x11)), (9, .long x11), (13, .long (x9 - x9 / x11 * x11)), (3, .int x3), (5, .long x5), (7, .long x7)]) hx hb dX9_odds_190 hl (by decide) rfl (fun ls hl => ?_)
        refine lv_goto (tgt := 170) hx hb dX9_odds_192 (by decide) ?_
        exact ih_170 h x3 x5 x7 x11 (x9 - x9 / x11 * x11) hF H _ ls hP hD hS (lv_sub hl [3, 4, 5, 1, 0] rfl)
  have hJ_51 : ∀ (n_51 : Nat) (h : HS) (x1 : Int32) (x2 : Int32) (x3 : Int32) (x4 : Int32) (x5 : Int64) (x7 : Int32), f_X9_odds_51 n_51 h x1 x2 x3 x4 x5 x7 = some (rr, hh) → ∀ (H : Heap) (locs : List Loc) (ls : Array Slot), va_P G vwCl (wM m0 r cI cJ cZ cB cT h) H → va_D A (wM m0 r cI cJ cZ cB cT h) → va_S A s.heap H locs → lv_has ls 15 [(0, .ref m0), (1, .int x1), (2, .int x2), (3, .int x3), (4, .int x4), (5, .long x5), (7, .int x7)] → W p l e (gRm 8) s m args below meth c H locs 0 0 (MQ below (va_Ql (fun x (_ : Unit) => x = rr) (gB G (fun (_ : Unit) => (wM m0 r cI cJ cZ cB cT hh)) A) A) args s 0 0 A) (F0 m 51 ls []) := by
    intro n_51
    induction n_51 with
    | zero =>
      intro h x1 x2 x3 x4 x5 x7 hF
      exact absurd hF (by simp [f_X9_odds_51])
    | succ n_51 ih_51 =>
      have hJ_149 : ∀ (h : HS) (x1 : Int32) (x2 : Int32) (x3 : Int32) (x4 : Int32) (x5 : Int64) (x7 : Int32), f_X9_odds_149 (f_X9_odds_51 n_51) h x1 x2 x3 x4 x5 x7 = some (rr, hh) → ∀ (H : Heap) (locs : List Loc) (ls : Array Slot), va_P G vwCl (wM m0 r cI cJ cZ cB cT h) H → va_D A (wM m0 r cI cJ cZ cB cT h) → va_S A s.heap H locs → lv_has ls 15 [(0, .ref m0), (1, .int x1), (2, .int x2), (3, .int x3), (4, .int x4), (5, .long x5), (7, .int x7)] → W p l e (gRm 8) s m args below meth c H locs 0 0 (MQ below (va_Ql (fun x (_ : Unit) => x = rr) (gB G (fun (_ : Unit) => (wM m0 r cI cJ cZ cB cT hh)) A) A) args s 0 0 A) (F0 m 149 ls []) := by
        intro h x1 x2 x3 x4 x5 x7 hF H locs ls hP hD hS hl
        unfold f_X9_odds_149 at hF
        refine lv_iinc (v := (x7 + 1)) (lv' := [(7, .int (x7 + 1)), (0, .ref m0), (1, .int x1), (2, .int x2), (3, .int x3), (4, .int x4), (5, .long x5)]) hx hb dX9_odds_149 hl (k := 6) rfl rfl (by decide) rfl (fun ls hl => ?_)
        refine lv_goto (tgt := 51) hx hb dX9_odds_152 (by decide) ?_
        exact ih_51 h x1 x2 x3 x4 x5 (x7 + 1) hF H _ ls hP hD hS (lv_sub hl [1, 2, 3, 4, 5, 6, 0] rfl)
      intro h x1 x2 x3 x4 x5 x7 hF H locs ls hP hD hS hl
      rw [f_X9_odds_51_s] at hF
      refine lv_iload hx hb dX9_odds_51 (lv_at hl 6 rfl) ?_
      refine lv_aload_n hx hb dX9_odds_53 rfl (lv_at hl 0 rfl) ?_
      refine va_get (D := G) (ci := 9) (v := .ref (r 0)) (C := RX9) (T := TX9) (N := 53) hx hb hts iX9 hown hK hP 0 wM_at0 rfl 0 (by decide) (hts _ m_92) (fun _ h9 => h9) rfl dX9_odds_54 ?_
      refine lv_iconst (v := 1) hx hb dX9_odds_57 (by decide) ?_
      refine va_iald (D := G) hx hb hK hP 1 0 wM_at1 rfl (vp_in_nI (n := 1) (by decide) (by decide)) dX9_odds_58 ?_
      refine gw_topi (y := ((eA h 0 0) 1)) rfl ?_
      refine lv_icmp_ge (tgt := 155) hx hb dX9_odds_59 (by decide) (fun c_8 => ?_) (fun c_8 => ?_)
      · have hF := ob_pos c_8 hF
        refine lv_aload_n hx hb dX9_odds_155 rfl (lv_at hl 0 rfl) ?_
        refine lv_iload_n hx hb dX9_odds_156 rfl (lv_at hl 2 rfl) ?_
        obtain ⟨r_9, h_9, e_9, hF⟩ := ob2_some hF
        refine gx_calll (gx_runV (As := [.int x2]) (rest := []) ⟨hx, hb, hml, hown, hts⟩ (c_X9_manyOf l G cI cJ cZ cB cT m0 r h x2 r_9 h_9 e_9 H.size) (gG_V m_367 m_368 m_369 m_64 m_366) rfl e_X9_manyOf ⟨Nat.le_of_ble_eq_true rfl, Nat.le_of_ble_eq_true rfl⟩ hK hP hD hE hS hA 0 wM_at0 rfl rfl hl.1 rfl (Nat.le_of_ble_eq_true rfl) dX9_odds_157 ⟨Nat.le_refl _, Nat.le_refl _⟩) hP hD hS hA (fun x_9 u_9 H locs hw_9 hP hD hS => ?_)
        subst x_9
        refine lv_lstore (lv' := [(7, .long r_9), (0, .ref m0), (1, .int x1), (2, .int x2), (3, .int x3), (4, .int x4), (5, .long x5)]) hx hb dX9_odds_160 hl (by decide) rfl (fun ls hl => ?_)
        refine lv_lload hx hb dX9_odds_162 (lv_at hl 6 rfl) ?_
        refine lv_lstore (lv' := [(9, .long x5), (7, .long r_9), (0, .ref m0), (1, .int x1), (2, .int x2), (3, .int x3), (4, .int x4), (5, .long x5)]) hx hb dX9_odds_164 hl (by decide) rfl (fun ls hl => ?_)
        refine lv_lload hx hb dX9_odds_166 (lv_at hl 1 rfl) ?_
        refine lv_lstore (lv' := [(11, .long r_9), (9, .long x5), (7, .long r_9), (0, .ref m0), (1, .int x1), (2, .int x2), (3, .int x3), (4, .int x4), (5, .long x5)]) hx hb dX9_odds_168 hl (by decide) rfl (fun ls hl => ?_)
        exact hJ_170 8589934592 h_9 x3 x5 r_9 x5 r_9 hF H _ ls hP hD hS (lv_sub hl [6, 8, 2, 1, 0] rfl)
      · have hF := ob_neg c_8 hF
        refine lv_aload_n hx hb dX9_odds_62 rfl (lv_at hl 0 rfl) ?_
        refine lv_iload hx hb dX9_odds_63 (lv_at hl 6 rfl) ?_
        refine lv_iconst (v := 2) hx hb dX9_odds_65 (by decide) ?_
        obtain ⟨r_10, h_10, e_10, hF⟩ := ob2_some hF
        refine gx_calli (gx_runV (As := [.int x7, .int 2]) (rest := []) ⟨hx, hb, hml, hown, hts⟩ (c_X9_ofGoose l G cI cJ cZ cB cT m0 r h x7 2 r_10 h_10 e_10 H.size) (gG_V m_103 m_104 m_105 m_64 m_102) rfl e_X9_ofGoose ⟨Nat.le_of_ble_eq_true rfl, Nat.le_of_ble_eq_true rfl⟩ hK hP hD hE hS hA 0 wM_at0 rfl rfl hl.1 rfl (Nat.le_of_ble_eq_true rfl) dX9_odds_66 ⟨Nat.le_refl _, Nat.le_refl _⟩) hP hD hS hA (fun x_10 u_10 H locs hw_10 hP hD hS => ?_)
        subst x_10
        refine lv_iload_n hx hb dX9_odds_69 rfl (lv_at hl 1 rfl) ?_
        refine lv_icmp_ne (tgt := 149) hx hb dX9_odds_70 (by decide) (fun c_11 => ?_) (fun c_11 => ?_)
        · have hF := ob_neg c_11 hF
          exact hJ_149 h_10 x1 x2 x3 x4 x5 x7 hF H _ ls hP hD hS (lv_sub hl [0, 1, 2, 3, 4, 5, 6] rfl)
        · have hF := ob_pos c_11 hF
          refine lv_aload_n hx hb dX9_odds_73 rfl (lv_at hl 0 rfl) ?_
          refine lv_iload hx hb dX9_odds_74 (lv_at hl 6 rfl) ?_
          refine lv_iconst (v := 4) hx hb dX9_odds_76 (by decide) ?_
          obtain ⟨r_12, h_12, e_12, hF⟩ := ob2_some hF
          refine gx_calli (gx_runV (As := [.int x7, .int 4]) (rest := []) ⟨hx, hb, hml, hown, hts⟩ (c_X9_ofGoose l G cI cJ cZ cB cT m0 r h_10 x7 4 r_12 h_12 e_12 H.size) (gG_V m_103 m_104 m_105 m_64 m_102) rfl e_X9_ofGoose ⟨Nat.le_of_ble_eq_true rfl, Nat.le_of_ble_eq_true rfl⟩ hK hP hD hE hS hA 0 wM_at0 rfl rfl hl.1 rfl (Nat.le_of_ble_eq_true rfl) dX9_odds_77 ⟨Nat.le_refl _, Nat.le_refl _⟩) hP hD hS hA (fun x_12 u_12 H locs hw_12 hP hD hS => ?_)
          subst x_12
          refine lv_iconst (v := 1) hx hb dX9_odds_80 (by decide) ?_
          refine lv_icmp_ne (tgt := 149) hx hb dX9_odds_81 (by decide) (fun c_13 => ?_) (fun c_13 => ?_)
          · have hF := ob_neg c_13 hF
            exact hJ_149 h_12 x1 x2 x3 x4 x5 x7 hF H _ ls hP hD hS (lv_sub hl [0, 1, 2, 3, 4, 5, 6] rfl)
          · have hF := ob_pos c_13 hF
            refine lv_iinc (v := (x4 + 1)) (lv' := [(4, .int (x4 + 1)), (0, .ref m0), (1, .int x1), (2, .int x2), (3, .int x3), (5, .long x5), (7, .int x7)]) hx hb dX9_odds_84 hl (k := 4) rfl rfl (by decide) rfl (fun ls hl => ?_)
            refine lv_iload hx hb dX9_odds_87 (lv_at hl 0 rfl) ?_
            refine lv_bipush (v := 8) hx hb dX9_odds_89 (by decide) ?_
            refine lv_icmp_le (tgt := 98) hx hb dX9_odds_91 (by decide) (fun c_14 => ?_) (fun c_14 => ?_)
            · have hF := ob_pos c_14 hF
              refine lv_aload_n hx hb dX9_odds_98 rfl (lv_at hl 1 rfl) ?_
              refine lv_iconst (v := 0) hx hb dX9_odds_99 (by decide) ?_
              refine lv_iload hx hb dX9_odds_100 (lv_at hl 6 rfl) ?_
              obtain ⟨r_15, h_15, e_15, hF⟩ := ob2_some hF
              refine gx_calli (gx_runV (As := [.int 0, .int x7]) (rest := []) ⟨hx, hb, hml, hown, hts⟩ (c_X9_marketOf l G cI cJ cZ cB cT m0 r h_12 0 x7 r_15 h_15 e_15 H.size) (gG_V m_309 m_310 m_311 m_64 m_308) rfl e_X9_marketOf ⟨Nat.le_of_ble_eq_true rfl, Nat.le_of_ble_eq_true rfl⟩ hK hP hD hE hS hA 0 wM_at0 rfl rfl hl.1 rfl (Nat.le_of_ble_eq_true rfl) dX9_odds_102 ⟨Nat.le_refl _, Nat.le_refl _⟩) hP hD hS hA (fun x_15 u_15 H locs hw_15 hP hD hS => ?_)
              subst x_15
              refine lv_istore (lv' := [(8, .int r_15), (4, .int (x4 + 1)), (0, .ref m0), (1, .int x1), (2, .int x2), (3, .int x3), (5, .long x5), (7, .int x7)]) hx hb dX9_odds_105 hl (by decide) rfl (fun ls hl => ?_)
              refine lv_aload_n hx hb dX9_odds_107 rfl (lv_at hl 2 rfl) ?_
              refine lv_iconst (v := 1) hx hb dX9_odds_108 (by decide) ?_
              refine lv_iload hx hb dX9_odds_109 (lv_at hl 7 rfl) ?_
              obtain ⟨r_16, h_16, e_16, hF⟩ := ob2_some hF
              refine gx_calli (gx_runV (As := [.int 1, .int x7]) (rest := []) ⟨hx, hb, hml, hown, hts⟩ (c_X9_marketOf l G cI cJ cZ cB cT m0 r h_15 1 x7 r_16 h_16 e_16 H.size) (gG_V m_309 m_310 m_311 m_64 m_308) rfl e_X9_marketOf ⟨Nat.le_of_ble_eq_true rfl, Nat.le_of_ble_eq_true rfl⟩ hK hP hD hE hS hA 0 wM_at0 rfl rfl hl.1 rfl (Nat.le_of_ble_eq_true rfl) dX9_odds_111 ⟨Nat.le_refl _, Nat.le_refl _⟩) hP hD hS hA (fun x_16 u_16 H locs hw_16 hP hD hS => ?_)
              subst x_16
              refine lv_istore (lv' := [(9, .int r_16), (8, .int r_15), (4, .int (x4 + 1)), (0, .ref m0), (1, .int x1), (2, .int x2), (3, .int x3), (5, .long x5), (7, .int x7)]) hx hb dX9_odds_114 hl (by decide) rfl (fun ls hl => ?_)
              refine lv_aload_n hx hb dX9_odds_116 rfl (lv_at hl 3 rfl) ?_
              refine lv_iload hx hb dX9_odds_117 (lv_at hl 8 rfl) ?_
              obtain ⟨r_17, h_17, e_17, hF⟩ := ob2_some hF
              refine gx_calli (gx_runV (As := [.int x7]) (rest := []) ⟨hx, hb, hml, hown, hts⟩ (c_X9_isTrue l G cI cJ cZ cB cT m0 r h_16 x7 r_17 h_17 e_17 H.size) (gG_V m_337 m_338 m_339 m_64 m_336) rfl e_X9_isTrue ⟨Nat.le_of_ble_eq_true rfl, Nat.le_of_ble_eq_true rfl⟩ hK hP hD hE hS hA 0 wM_at0 rfl rfl hl.1 rfl (Nat.le_of_ble_eq_true rfl) dX9_odds_119 ⟨Nat.le_refl _, Nat.le_refl _⟩) hP hD hS hA (fun x_17 u_17 H locs hw_17 hP hD hS => ?_)
              subst x_17
              refine lv_istore (lv' := [(10, .int r_17), (9, .int r_16), (8, .int r_15), (4, .int (x4 + 1)), (0, .ref m0), (1, .int x1), (2, .int x2), (3, .int x3), (5, .long x5), (7, .int x7)]) hx hb dX9_odds_122 hl (by decide) rfl (fun ls hl => ?_)
              refine lv_aload_n hx hb dX9_odds_124 rfl (lv_at hl 4 rfl) ?_
              refine lv_iload hx hb dX9_odds_125 (lv_at hl 2 rfl) ?_
              refine lv_iload hx hb dX9_odds_127 (lv_at hl 1 rfl) ?_
              refine lv_aload_n hx hb dX9_odds_129 rfl (lv_at hl 4 rfl) ?_
              refine lv_iload hx hb dX9_odds_130 (lv_at hl 9 rfl) ?_
              refine lv_iconst (v := 3) hx hb dX9_odds_132 (by decide) ?_
              obtain ⟨r_18, h_18, e_18, hF⟩ := ob2_some hF
              refine gx_calli (gx_runV (As := [.int x7, .int 3]) (rest := [.int r_16, .int r_15, .ref m0]) ⟨hx, hb, hml, hown, hts⟩ (c_X9_ofGoose l G cI cJ cZ cB cT m0 r h_17 x7 3 r_18 h_18 e_18 H.size) (gG_V m_103 m_104 m_105 m_64 m_102) rfl e_X9_ofGoose ⟨Nat.le_of_ble_eq_true rfl, Nat.le_of_ble_eq_true rfl⟩ hK hP hD hE hS hA 0 wM_at0 rfl rfl hl.1 rfl (Nat.le_of_ble_eq_true rfl) dX9_odds_133 ⟨Nat.le_refl _, Nat.le_refl _⟩) hP hD hS hA (fun x_18 u_18 H locs hw_18 hP hD hS => ?_)
              subst x_18
              refine lv_iload hx hb dX9_odds_136 (lv_at hl 0 rfl) ?_
              obtain ⟨h_19, e_19, hF⟩ := ob1_some hF
              refine gx_callv (gx_runV (As := [.int r_15, .int r_16, .int r_18, .int r_17]) (rest := []) ⟨hx, hb, hml, hown, hts⟩ (c_X9_comesMany l G cI cJ cZ cB cT m0 r h_18 r_15 r_16 r_18 r_17 h_19 e_19 H.size) (gG_V m_371 m_372 m_373 m_64 m_370) rfl e_X9_comesMany ⟨Nat.le_of_ble_eq_true rfl, Nat.le_of_ble_eq_true rfl⟩ hK hP hD hE hS hA 0 wM_at0 rfl rfl hl.1 rfl (Nat.le_of_ble_eq_true rfl) dX9_odds_138 ⟨Nat.le_refl _, Nat.le_refl _⟩) hP hD hS hA (fun u_19 H locs hw_19 hP hD hS => ?_)
              refine lv_lload hx hb dX9_odds_141 (lv_at hl 8 rfl) ?_
              refine lv_ldc2 (v := 100) hx hb hown (hts _ m_374) dX9_odds_143 ?_
              refine lv_lmul hx hb dX9_odds_146 ?_
              refine lv_lstore (lv' := [(5, .long (x5 * 100)), (10, .int r_17), (9, .int r_16), (8, .int r_15), (4, .int (x4 + 1)), (0, .ref m0), (1, .int x1), (2, .int x2), (3, .int x3), (7, .int x7)]) hx hb dX9_odds_147 hl (by decide) rfl (fun ls hl => ?_)
              exact hJ_149 h_19 x1 x2 x3 (x4 + 1) (x5 * 100) x7 hF H _ ls hP hD hS (lv_sub hl [5, 6, 7, 8, 4, 0, 9] rfl)
            · have hF := ob_neg c_14 hF
              refine lv_ldc2 (v := (-1)) hx hb hown (hts _ m_365) dX9_odds_94 ?_
              obtain ⟨rfl, rfl⟩ := ob_pair hF
              exact gw_lret () hx hb hr hlocks hP hD hS rfl dX9_odds_97
  unfold f_X9_odds at hF
  refine lv_iload_n hx hb dX9_odds_0 rfl (lv_at hl 1 rfl) ?_
  obtain ⟨r_1, e_1, hF⟩ := ob1_some hF
  refine gx_calli0 (gx_runS0 (As := [.int p1]) (rest := []) ⟨hx, hb, hml, hown, hts⟩ (c_X9_isLetterNumber l G cI cJ cZ cB cT   p1 r_1 e_1 H.size) (gG_S m_348 m_349 m_64 m_347) rfl e_X9_isLetterNumber ⟨Nat.le_of_ble_eq_true rfl, Nat.le_of_ble_eq_true rfl⟩ hK hE hS hA rfl hl.1 rfl (Nat.le_of_ble_eq_true rfl) dX9_odds_1 ⟨Nat.le_refl _, Nat.le_refl _⟩) hP hD hS hA (fun x_1 u_1 H locs hw_1 hP hD hS => ?_)
  subst x_1
  refine lv_if_eq (tgt := 16) hx hb dX9_odds_4 (by decide) (fun c_2 => ?_) (fun c_2 => ?_)
  · have hF := ob_pos c_2 hF
    exact hJ_16 h hF H _ ls hP hD hS (lv_sub hl [] rfl)
  · have hF := ob_neg c_2 hF
    refine lv_iload_n hx hb dX9_odds_7 rfl (lv_at hl 2 rfl) ?_
    refine lv_iconst (v := 0) hx hb dX9_odds_8 (by decide) ?_
    refine lv_iconst (v := 2) hx hb dX9_odds_9 (by decide) ?_
    obtain ⟨r_3, e_3, hF⟩ := ob1_some hF
    refine gx_calli0 (gx_runS0 (As := [.int p2, .int 0, .int 2]) (rest := []) ⟨hx, hb, hml, hown, hts⟩ (c_X9_in l G cI cJ cZ cB cT   p2 0 2 r_3 e_3 H.size) (gG_S m_62 m_63 m_64 m_61) rfl e_X9_in ⟨Nat.le_of_ble_eq_true rfl, Nat.le_of_ble_eq_true rfl⟩ hK hE hS hA rfl hl.1 rfl (Nat.le_of_ble_eq_true rfl) dX9_odds_10 ⟨Nat.le_refl _, Nat.le_refl _⟩) hP hD hS hA (fun x_3 u_3 H locs hw_3 hP hD hS => ?_)
    subst x_3
    refine lv_if_ne (tgt := 20) hx hb dX9_odds_13 (by decide) (fun c_4 => ?_) (fun c_4 => ?_)
    · have hF := ob_neg c_4 hF
      refine lv_aload_n hx hb dX9_odds_20 rfl (lv_at hl 0 rfl) ?_
      refine lv_aload_n hx hb dX9_odds_21 rfl (lv_at hl 0 rfl) ?_
      refine lv_iload_n hx hb dX9_odds_22 rfl (lv_at hl 1 rfl) ?_
      refine lv_sipush (v := 999) hx hb dX9_odds_23 (by decide) ?_
      refine lv_iconst (v := 0) hx hb dX9_odds_26 (by decide) ?_
      obtain ⟨r_5, h_5, e_5, hF⟩ := ob2_some hF
      refine gx_calli (gx_runV (As := [.int p1, .int 999, .int 0]) (rest := [.ref m0]) ⟨hx, hb, hml, hown, hts⟩ (c_X9_knownBy l G cI cJ cZ cB cT m0 r h p1 999 0 r_5 h_5 e_5 H.size) (gG_V m_351 m_352 m_353 m_64 m_350) rfl e_X9_knownBy ⟨Nat.le_of_ble_eq_true rfl, Nat.le_of_ble_eq_true rfl⟩ hK hP hD hE hS hA 0 wM_at0 rfl rfl hl.1 rfl (Nat.le_of_ble_eq_true rfl) dX9_odds_27 ⟨Nat.le_refl _, Nat.le_refl _⟩) hP hD hS hA (fun x_5 u_5 H locs hw_5 hP hD hS => ?_)
      subst x_5
      refine lv_aload_n hx hb dX9_odds_30 rfl (lv_at hl 0 rfl) ?_
      refine lv_iload_n hx hb dX9_odds_31 rfl (lv_at hl 1 rfl) ?_
      refine lv_sipush (v := 999) hx hb dX9_odds_32 (by decide) ?_
      refine lv_iconst (v := 1) hx hb dX9_odds_35 (by decide) ?_
      obtain ⟨r_6, h_6, e_6, hF⟩ := ob2_some hF
      refine gx_calli (gx_runV (As := [.int p1, .int 999, .int 1]) (rest := [.int r_5, .ref m0]) ⟨hx, hb, hml, hown, hts⟩ (c_X9_knownBy l G cI cJ cZ cB cT m0 r h_5 p1 999 1 r_6 h_6 e_6 H.size) (gG_V m_351 m_352 m_353 m_64 m_350) rfl e_X9_knownBy ⟨Nat.le_of_ble_eq_true rfl, Nat.le_of_ble_eq_true rfl⟩ hK hP hD hE hS hA 0 wM_at0 rfl rfl hl.1 rfl (Nat.le_of_ble_eq_true rfl) dX9_odds_36 ⟨Nat.le_refl _, Nat.le_refl _⟩) hP hD hS hA (fun x_6 u_6 H locs hw_6 hP hD hS => ?_)
      subst x_6
      obtain ⟨h_7, e_7, hF⟩ := ob1_some hF
      refine gx_callv (gx_runV (As := [.int r_5, .int r_6]) (rest := []) ⟨hx, hb, hml, hown, hts⟩ (c_X9_startsMany l G cI cJ cZ cB cT m0 r h_6 r_5 r_6 h_7 e_7 H.size) (gG_V m_362 m_363 m_364 m_64 m_361) rfl e_X9_startsMany ⟨Nat.le_of_ble_eq_true rfl, Nat.le_of_ble_eq_true rfl⟩ hK hP hD hE hS hA 0 wM_at0 rfl rfl hl.1 rfl (Nat.le_of_ble_eq_true rfl) dX9_odds_39 ⟨Nat.le_refl _, Nat.le_refl _⟩) hP hD hS hA (fun u_7 H locs hw_7 hP hD hS => ?_)
      refine lv_iconst (v := 0) hx hb dX9_odds_42 (by decide) ?_
      refine lv_istore (lv' := [(4, .int 0), (0, .ref m0), (1, .int p1), (2, .int p2), (3, .int p3)]) hx hb dX9_odds_43 hl (by decide) rfl (fun ls hl => ?_)
      refine lv_lconst (v := 1) hx hb dX9_odds_45 (by decide) ?_
      refine lv_lstore (lv' := [(5, .long 1), (4, .int 0), (0, .ref m0), (1, .int p1), (2, .int p2), (3, .int p3)]) hx hb dX9_odds_46 hl (by decide) rfl (fun ls hl => ?_)
      refine lv_iconst (v := 0) hx hb dX9_odds_48 (by decide) ?_
      refine lv_istore (lv' := [(7, .int 0), (5, .long 1), (4, .int 0), (0, .ref m0), (1, .int p1), (2, .int p2), (3, .int p3)]) hx hb dX9_odds_49 hl (by decide) rfl (fun ls hl => ?_)
      exact hJ_51 8589934592 h_7 p1 p2 p3 0 1 0 hF H _ ls hP hD hS (lv_sub hl [3, 4, 5, 6, 2, 1, 0] rfl)
    · have hF := ob_pos c_4 hF
      exact hJ_16 h hF H _ ls hP hD hS (lv_sub hl [] rfl)
