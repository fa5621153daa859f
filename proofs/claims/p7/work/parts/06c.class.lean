def f_X0_begin_40 (k12 : HS → Int32 → Int32 → Int32 → Option HS) (h : HS) (x1 : Int32) (x2 : Int32) (x3 : Int32) (y0 : Int64) (y1 : Int32) : Option HS := (if 0 ≤ (y1).toInt ∧ (y1).toInt < 16 then (k12 (sJ h 7 2 (vp_updL (eJ h 7 2) ((y1).toNatClampNeg) y0)) x1 x2 (x3 + 1)) else none)
def f_X0_begin_12 : Nat → HS → Int32 → Int32 → Int32 → Option HS
  | 0, _, _, _, _ => none
  | n + 1, h, x1, x2, x3 => (if 16 ≤ x3 then (some h) else (if x3 = ((x1 * 4) + x2) then (f_X0_begin_40 (f_X0_begin_12 n) h x1 x2 x3 1 x3) else (f_X0_begin_40 (f_X0_begin_12 n) h x1 x2 x3 0 x3)))
theorem f_X0_begin_12_s (n : Nat) (h : HS) (x1 : Int32) (x2 : Int32) (x3 : Int32) : f_X0_begin_12 (n + 1) h x1 x2 x3 = (if 16 ≤ x3 then (some h) else (if x3 = ((x1 * 4) + x2) then (f_X0_begin_40 (f_X0_begin_12 n) h x1 x2 x3 1 x3) else (f_X0_begin_40 (f_X0_begin_12 n) h x1 x2 x3 0 x3))) := rfl
def f_X0_begin (h : HS) (p1 : Int32) (p2 : Int32) : Option HS := (f_X0_begin_12 8589934592 (sL (sI h 7 0 0) 7 1 1) p1 p2 0)
set_option maxHeartbeats 4000000 in
set_option maxRecDepth 100000 in
theorem c_X0_begin (l : Launch) (G : va_G) (cI cJ cZ cB cT : ClassId) (q : Nat → Nat) (h : HS) (p1 : Int32) (p2 : Int32) (hh : HS) (hF : f_X0_begin h p1 p2 = some hh) : gMv l yX0_begin (gws yX0_begin cX0_begin 4 none) 1 G (gT cI cJ cZ cB cT) [.ref (q 20), .int p1, .int p2] (wC q cI cJ cZ cB cT h) (fun (_ : Unit) => True) (fun (_ : Unit) => (wC q cI cJ cZ cB cT hh)) := by
  intro sz
  refine gM_start (y := yX0_begin) (av := [.ref (q 20), .int p1, .int p2]) (ws := (wC q cI cJ cZ cB cT h)) (Qf := fun A => va_Qv (fun (_ : Unit) => True) (gB G (fun (_ : Unit) => (wC q cI cJ cZ cB cT hh)) A) A) (cc := cX0_begin) (maxL := 4) (ret := none) (by decide) (Nat.le_of_ble_eq_true rfl) ?_
  intro p e s m args below meth c A ls H hx hb hr hts hown hin hlocks hml hP hK hD hA hS hl hE
  have hl : lv_has ls 4 [(0, .ref (q 20)), (1, .int p1), (2, .int p2)] := hl
  have hJ_12 : ∀ (n_12 : Nat) (h : HS) (x1 : Int32) (x2 : Int32) (x3 : Int32), f_X0_begin_12 n_12 h x1 x2 x3 = some hh → ∀ (H : Heap) (locs : List Loc) (ls : Array Slot), va_P G vwCl (wC q cI cJ cZ cB cT h) H → va_D A (wC q cI cJ cZ cB cT h) → va_S A s.heap H locs → lv_has ls 4 [(0, .ref (q 20)), (1, .int x1), (2, .int x2), (3, .int x3)] → W p l e (gRm 1) s m args below meth c H locs 0 0 (MQ below (va_Qv (fun (_ : Unit) => True) (gB G (fun (_ : Unit) => (wC q cI cJ cZ cB cT hh)) A) A) args s 0 0 A) (F0 m 12 ls []) := by
    intro n_12
    induction n_12 with
    | zero =>
      intro h x1 x2 x3 hF
      exact absurd hF (by simp [f_X0_begin_12])
    | succ n_12 ih_12 =>
      have hJ_40 : ∀ (h : HS) (x1 : Int32) (x2 : Int32) (x3 : Int32) (y0 : Int64) (y1 : Int32), f_X0_begin_40 (f_X0_begin_12 n_12) h x1 x2 x3 y0 y1 = some hh → ∀ (H : Heap) (locs : List Loc) (ls : Array Slot), va_P G vwCl (wC q cI cJ cZ cB cT h) H → va_D A (wC q cI cJ cZ cB cT h) → va_S A s.heap H locs → lv_has ls 4 [(0, .ref (q 20)), (1, .int x1), (2, .int x2), (3, .int x3)] → W p l e (gRm 1) s m args below meth c H locs 0 0 (MQ below (va_Qv (fun (_ : Unit) => True) (gB G (fun (_ : Unit) => (wC q cI cJ cZ cB cT hh)) A) A) args s 0 0 A) (F0 m 40 ls [.long y0, .int y1, .ref (q 21)]) := by
        intro h x1 x2 x3 y0 y1 hF H locs ls hP hD hS hl
        unfold f_X0_begin_40 at hF
        obtain ⟨hi_3, hF⟩ := ob_if hF
        refine va_last (D := G) hx hb hK hP hD hS 21 1 wC_at21 rfl (vp_in_iff.mpr hi_3) dX0_begin_40 (fun H locs hP hD hS => ?_)
        rw [wC_sA21] at hP hD
        have hP : va_P G vwCl (wC q cI cJ cZ cB cT (sJ h 7 2 (vp_updL (eJ h 7 2) ((y1).toNatClampNeg) y0))) H := hP
        have hD : va_D A (wC q cI cJ cZ cB cT (sJ h 7 2 (vp_updL (eJ h 7 2) ((y1).toNatClampNeg) y0))) := hD
        refine lv_iinc (v := (x3 + 1)) (lv' := [(3, .int (x3 + 1)), (0, .ref (q 20)), (1, .int x1), (2, .int x2)]) hx hb dX0_begin_41 hl (k := 3) rfl rfl (by decide) rfl (fun ls hl => ?_)
        refine lv_goto (tgt := 12) hx hb dX0_begin_44 (by decide) ?_
        exact ih_12 (sJ h 7 2 (vp_updL (eJ h 7 2) ((y1).toNatClampNeg) y0)) x1 x2 (x3 + 1) hF H _ ls hP hD hS (lv_sub hl [1, 2, 3, 0] rfl)
      intro h x1 x2 x3 hF H locs ls hP hD hS hl
      rw [f_X0_begin_12_s] at hF
      refine lv_iload_n hx hb dX0_begin_12 rfl (lv_at hl 3 rfl) ?_
      refine lv_aload_n hx hb dX0_begin_13 rfl (lv_at hl 0 rfl) ?_
      refine va_get (D := G) (ci := 0) (v := .ref (q 21)) (C := RX0) (T := TX0) (N := 4) hx hb hts iX0 hown hK hP 20 wC_at20 rfl 2 (by decide) (hts _ m_467) (fun _ h9 => h9) rfl dX0_begin_14 ?_
      refine va_alen (D := G) hx hb hK hP 21 1 wC_at21 rfl (v := 16) rfl dX0_begin_17 ?_
      refine lv_icmp_ge (tgt := 47) hx hb dX0_begin_18 (by decide) (fun c_1 => ?_) (fun c_1 => ?_)
      · have hF := ob_pos c_1 hF
        obtain rfl := ob_one hF
        exact gw_vret () hx hb hr hlocks hP hD hS trivial dX0_begin_47
      · have hF := ob_neg c_1 hF
        refine lv_aload_n hx hb dX0_begin_21 rfl (lv_at hl 0 rfl) ?_
        refine va_get (D := G) (ci := 0) (v := .ref (q 21)) (C := RX0) (T := TX0) (N := 4) hx hb hts iX0 hown hK hP 20 wC_at20 rfl 2 (by decide) (hts _ m_467) (fun _ h9 => h9) rfl dX0_begin_22 ?_
        refine lv_iload_n hx hb dX0_begin_25 rfl (lv_at hl 3 rfl) ?_
        refine lv_iload_n hx hb dX0_begin_26 rfl (lv_at hl 3 rfl) ?_
        refine lv_iload_n hx hb dX0_begin_27 rfl (lv_at hl 1 rfl) ?_
        refine lv_iconst (v := 4) hx hb dX0_begin_28 (by decide) ?_
        refine lv_imul hx hb dX0_begin_29 ?_
        refine lv_iload_n hx hb dX0_begin_30 rfl (lv_at hl 2 rfl) ?_
        refine lv_iadd hx hb dX0_begin_31 ?_
        refine lv_icmp_ne (tgt := 39) hx hb dX0_begin_32 (by decide) (fun c_2 => ?_) (fun c_2 => ?_)
        · have hF := ob_neg c_2 hF
          refine lv_lconst (v := 0) hx hb dX0_begin_39 (by decide) ?_
          exact hJ_40 h x1 x2 x3 0 x3 hF H _ ls hP hD hS (lv_sub hl [0, 1, 2, 3] rfl)
        · have hF := ob_pos c_2 hF
          refine lv_lconst (v := 1) hx hb dX0_begin_35 (by decide) ?_
          refine lv_goto (tgt := 40) hx hb dX0_begin_36 (by decide) ?_
          exact hJ_40 h x1 x2 x3 1 x3 hF H _ ls hP hD hS (lv_sub hl [0, 1, 2, 3] rfl)
  unfold f_X0_begin at hF
  refine lv_aload_n hx hb dX0_begin_0 rfl (lv_at hl 0 rfl) ?_
  refine lv_iconst (v := 0) hx hb dX0_begin_1 (by decide) ?_
  refine va_put (D := G) (ci := 0) (v := .int 0) (ty := .int) (C := RX0) (T := TX0) (N := 4) hx hb hts iX0 tyX0 tyX0_ok nmX0 hown hK hP hD hS 20 wC_at20 rfl 0 (by decide) (hts _ m_465) (fun _ h9 => h9) rfl (tyX0_ok 0 (by decide)) rfl rfl (Nat.le_of_ble_eq_true rfl) dX0_begin_2 (fun H locs hP hD hS => ?_)
  rw [wC_sI20_0] at hP hD
  refine lv_aload_n hx hb dX0_begin_5 rfl (lv_at hl 0 rfl) ?_
  refine lv_lconst (v := 1) hx hb dX0_begin_6 (by decide) ?_
  refine va_put (D := G) (ci := 0) (v := .long 1) (ty := .long) (C := RX0) (T := TX0) (N := 4) hx hb hts iX0 tyX0 tyX0_ok nmX0 hown hK hP hD hS 20 wC_at20 rfl 1 (by decide) (hts _ m_466) (fun _ h9 => h9) rfl (tyX0_ok 1 (by decide)) rfl rfl (Nat.le_of_ble_eq_true rfl) dX0_begin_7 (fun H locs hP hD hS => ?_)
  rw [wC_sI20_1] at hP hD
  refine lv_iconst (v := 0) hx hb dX0_begin_10 (by decide) ?_
  refine lv_istore_n (lv' := [(3, .int 0), (0, .ref (q 20)), (1, .int p1), (2, .int p2)]) hx hb dX0_begin_11 rfl hl (by decide) rfl (fun ls hl => ?_)
  exact hJ_12 8589934592 (sL (sI h 7 0 0) 7 1 1) p1 p2 0 hF H _ ls hP hD hS (lv_sub hl [1, 2, 3, 0] rfl)
def f_X0_upper_90 (k5 : HS → Int32 → Int64 → Int32 → Option (Int64 × HS)) (h : HS) (x1 : Int32) (x2 : Int64) (x4 : Int32) : Option (Int64 × HS) := (k5 h x1 x2 (x4 + 1))
def f_X0_upper_80 (k5 : HS → Int32 → Int64 → Int32 → Option (Int64 × HS)) (h : HS) (x1 : Int32) (x2 : Int64) (x4 : Int32) : Option (Int64 × HS) := (if 0 ≤ (x4).toInt ∧ (x4).toInt < 16 then (f_X0_upper_90 k5 h x1 (x2 + ((eJ h 7 2) ((x4).toNatClampNeg))) x4) else none)
def f_X0_upper_43 (k5 : HS → Int32 → Int64 → Int32 → Option (Int64 × HS)) (h : HS) (x1 : Int32) (x2 : Int64) (x4 : Int32) (x5 : Int32) (y0 : Int32) : Option (Int64 × HS) := (if x1 = 0 then (if x5 = 0 then (f_X0_upper_90 k5 h x1 x2 x4) else (f_X0_upper_80 k5 h x1 x2 x4)) else (if x1 = 1 then (if y0 = 0 then (f_X0_upper_90 k5 h x1 x2 x4) else (f_X0_upper_80 k5 h x1 x2 x4)) else (if x5 = 0 then (f_X0_upper_90 k5 h x1 x2 x4) else (if y0 = 0 then (f_X0_upper_80 k5 h x1 x2 x4) else (f_X0_upper_90 k5 h x1 x2 x4)))))
def f_X0_upper_28 (k5 : HS → Int32 → Int64 → Int32 → Option (Int64 × HS)) (h : HS) (x1 : Int32) (x2 : Int64) (x4 : Int32) (y0 : Int32) : Option (Int64 × HS) := (if (x4 - x4 / 4 * 4) = 3 then (f_X0_upper_43 k5 h x1 x2 x4 y0 1) else (f_X0_upper_43 k5 h x1 x2 x4 y0 0))
def f_X0_upper_5 : Nat → HS → Int32 → Int64 → Int32 → Option (Int64 × HS)
  | 0, _, _, _, _ => none
  | n + 1, h, x1, x2, x4 => (if 16 ≤ x4 then (some (x2, h)) else (if (x4 / 4) = 3 then (f_X0_upper_28 (f_X0_upper_5 n) h x1 x2 x4 1) else (f_X0_upper_28 (f_X0_upper_5 n) h x1 x2 x4 0)))
theorem f_X0_upper_5_s (n : Nat) (h : HS) (x1 : Int32) (x2 : Int64) (x4 : Int32) : f_X0_upper_5 (n + 1) h x1 x2 x4 = (if 16 ≤ x4 then (some (x2, h)) else (if (x4 / 4) = 3 then (f_X0_upper_28 (f_X0_upper_5 n) h x1 x2 x4 1) else (f_X0_upper_28 (f_X0_upper_5 n) h x1 x2 x4 0))) := rfl
def f_X0_upper (h : HS) (p1 : Int32) : Option (Int64 × HS) := (f_X0_upper_5 8589934592 h p1 0 0)
set_option maxHeartbeats 4000000 in
set_option maxRecDepth 100000 in
theorem c_X0_upper (l : Launch) (G : va_G) (cI cJ cZ cB cT : ClassId) (q : Nat → Nat) (h : HS) (p1 : Int32) (rr : Int64) (hh : HS) (hF : f_X0_upper h p1 = some (rr, hh)) : gMl l yX0_upper (gws yX0_upper cX0_upper 7 (some .long)) 1 G (gT cI cJ cZ cB cT) [.ref (q 20), .int p1] (wC q cI cJ cZ cB cT h) (fun x (_ : Unit) => x = rr) (fun (_ : Unit) => (wC q cI cJ cZ cB cT hh)) := by
  intro sz
  refine gM_start (y := yX0_upper) (av := [.ref (q 20), .int p1]) (ws := (wC q cI cJ cZ cB cT h)) (Qf := fun A => va_Ql (fun x (_ : Unit) => x = rr) (gB G (fun (_ : Unit) => (wC q cI cJ cZ cB cT hh)) A) A) (cc := cX0_upper) (maxL := 7) (ret := (some .long)) (by decide) (Nat.le_of_ble_eq_true rfl) ?_
  intro p e s m args below meth c A ls H hx hb hr hts hown hin hlocks hml hP hK hD hA hS hl hE
  have hl : lv_has ls 7 [(0, .ref (q 20)), (1, .int p1)] := hl
  have hJ_5 : ∀ (n_5 : Nat) (h : HS) (x1 : Int32) (x2 : Int64) (x4 : Int32), f_X0_upper_5 n_5 h x1 x2 x4 = some (rr, hh) → ∀ (H : Heap) (locs : List Loc) (ls : Array Slot), va_P G vwCl (wC q cI cJ cZ cB cT h) H → va_D A (wC q cI cJ cZ cB cT h) → va_S A s.heap H locs → lv_has ls 7 [(0, .ref (q 20)), (1, .int x1), (2, .long x2), (4, .int x4)] → W p l e (gRm 1) s m args below meth c H locs 0 0 (MQ below (va_Ql (fun x (_ : Unit) => x = rr) (gB G (fun (_ : Unit) => (wC q cI cJ cZ cB cT hh)) A) A) args s 0 0 A) (F0 m 5 ls []) := by
    intro n_5
    induction n_5 with
    | zero =>
      intro h x1 x2 x4 hF
      exact absurd hF (by simp [f_X0_upper_5])
    | succ n_5 ih_5 =>
      have hJ_90 : ∀ (h : HS) (x1 : Int32) (x2 : Int64) (x4 : Int32), f_X0_upper_90 (f_X0_upper_5 n_5) h x1 x2 x4 = some (rr, hh) → ∀ (H : Heap) (locs : List Loc) (ls : Array Slot), va_P G vwCl (wC q cI cJ cZ cB cT h) H → va_D A (wC q cI cJ cZ cB cT h) → va_S A s.heap H locs → lv_has ls 7 [(0, .ref (q 20)), (1, .int x1), (2, .long x2), (4, .int x4)] → W p l e (gRm 1) s m args below meth c H locs 0 0 (MQ below (va_Ql (fun x (_ : Unit) => x = rr) (gB G (fun (_ : Unit) => (wC q cI cJ cZ cB cT hh)) A) A) args s 0 0 A) (F0 m 90 ls []) := by
        intro h x1 x2 x4 hF H locs ls hP hD hS hl
        unfold f_X0_upper_90 at hF
        refine lv_iinc (v := (x4 + 1)) (lv' := [(4, .int (x4 + 1)), (0, .ref (q 20)), (1, .int x1), (2, .long x2)]) hx hb dX0_upper_90 hl (k := 3) rfl rfl (by decide) rfl (fun ls hl => ?_)
        refine lv_goto (tgt := 5) hx hb dX0_upper_93 (by decide) ?_
        exact ih_5 h x1 x2 (x4 + 1) hF H _ ls hP hD hS (lv_sub hl [1, 2, 3, 0] rfl)
      have hJ_80 : ∀ (h : HS) (x1 : Int32) (x2 : Int64) (x4 : Int32), f_X0_upper_80 (f_X0_upper_5 n_5) h x1 x2 x4 = some (rr, hh) → ∀ (H : Heap) (locs : List Loc) (ls : Array Slot), va_P G vwCl (wC q cI cJ cZ cB cT h) H → va_D A (wC q cI cJ cZ cB cT h) → va_S A s.heap H locs → lv_has ls 7 [(0, .ref (q 20)), (1, .int x1), (2, .long x2), (4, .int x4)] → W p l e (gRm 1) s m args below meth c H locs 0 0 (MQ below (va_Ql (fun x (_ : Unit) => x = rr) (gB G (fun (_ : Unit) => (wC q cI cJ cZ cB cT hh)) A) A) args s 0 0 A) (F0 m 80 ls []) := by
        intro h x1 x2 x4 hF H locs ls hP hD hS hl
        unfold f_X0_upper_80 at hF
        refine lv_lload_n hx hb dX0_upper_80 rfl (lv_at hl 2 rfl) ?_
        refine lv_aload_n hx hb dX0_upper_81 rfl (lv_at hl 0 rfl) ?_
        refine va_get (D := G) (ci := 0) (v := .ref (q 21)) (C := RX0) (T := TX0) (N := 4) hx hb hts iX0 hown hK hP 20 wC_at20 rfl 2 (by decide) (hts _ m_467) (fun _ h9 => h9) rfl dX0_upper_82 ?_
        refine lv_iload hx hb dX0_upper_85 (lv_at hl 3 rfl) ?_
        obtain ⟨hi_10, hF⟩ := ob_if hF
        refine va_lald (D := G) hx hb hK hP 21 1 wC_at21 rfl (vp_in_iff.mpr hi_10) dX0_upper_87 ?_
        refine gw_topl (y := ((eJ h 7 2) ((x4).toNatClampNeg))) rfl ?_
        refine lv_ladd hx hb dX0_upper_88 ?_
        refine lv_lstore_n (lv' := [(2, .long (x2 + ((eJ h 7 2) ((x4).toNatClampNeg)))), (0, .ref (q 20)), (1, .int x1), (4, .int x4)]) hx hb dX0_upper_89 rfl hl (by decide) rfl (fun ls hl => ?_)
        exact hJ_90 h x1 (x2 + ((eJ h 7 2) ((x4).toNatClampNeg))) x4 hF H _ ls hP hD hS (lv_sub hl [1, 2, 0, 3] rfl)
      have hJ_43 : ∀ (h : HS) (x1 : Int32) (x2 : Int64) (x4 : Int32) (x5 : Int32) (y0 : Int32), f_X0_upper_43 (f_X0_upper_5 n_5) h x1 x2 x4 x5 y0 = some (rr, hh) → ∀ (H : Heap) (locs : List Loc) (ls : Array Slot), va_P G vwCl (wC q cI cJ cZ cB cT h) H → va_D A (wC q cI cJ cZ cB cT h) → va_S A s.heap H locs → lv_has ls 7 [(0, .ref (q 20)), (1, .int x1), (2, .long x2), (4, .int x4), (5, .int x5)] → W p l e (gRm 1) s m args below meth c H locs 0 0 (MQ below (va_Ql (fun x (_ : Unit) => x = rr) (gB G (fun (_ : Unit) => (wC q cI cJ cZ cB cT hh)) A) A) args s 0 0 A) (F0 m 43 ls [.int y0]) := by
        intro h x1 x2 x4 x5 y0 hF H locs ls hP hD hS hl
        unfold f_X0_upper_43 at hF
        refine lv_istore (lv' := [(6, .int y0), (0, .ref (q 20)), (1, .int x1), (2, .long x2), (4, .int x4), (5, .int x5)]) hx hb dX0_upper_43 hl (by decide) rfl (fun ls hl => ?_)
        refine lv_iload_n hx hb dX0_upper_45 rfl (lv_at hl 2 rfl) ?_
        refine lv_if_ne (tgt := 57) hx hb dX0_upper_46 (by decide) (fun c_4 => ?_) (fun c_4 => ?_)
        · have hF := ob_neg c_4 hF
          refine lv_iload_n hx hb dX0_upper_57 rfl (lv_at hl 2 rfl) ?_
          refine lv_iconst (v := 1) hx hb dX0_upper_58 (by decide) ?_
          refine lv_icmp_ne (tgt := 70) hx hb dX0_upper_59 (by decide) (fun c_5 => ?_) (fun c_5 => ?_)
          · have hF := ob_neg c_5 hF
            refine lv_iload hx hb dX0_upper_70 (lv_at hl 5 rfl) ?_
            refine lv_if_eq (tgt := 90) hx hb dX0_upper_72 (by decide) (fun c_6 => ?_) (fun c_6 => ?_)
            · have hF := ob_pos c_6 hF
              exact hJ_90 h x1 x2 x4 hF H _ ls hP hD hS (lv_sub hl [1, 2, 3, 4] rfl)
            · have hF := ob_neg c_6 hF
              refine lv_iload hx hb dX0_upper_75 (lv_at hl 0 rfl) ?_
              refine lv_if_ne (tgt := 90) hx hb dX0_upper_77 (by decide) (fun c_7 => ?_) (fun c_7 => ?_)
              · have hF := ob_neg c_7 hF
                exact hJ_90 h x1 x2 x4 hF H _ ls hP hD hS (lv_sub hl [1, 2, 3, 4] rfl)
              · have hF := ob_pos c_7 hF
                exact hJ_80 h x1 x2 x4 hF H _ ls hP hD hS (lv_sub hl [1, 2, 3, 4] rfl)
          · have hF := ob_pos c_5 hF
            refine lv_iload hx hb dX0_upper_62 (lv_at hl 0 rfl) ?_
            refine lv_if_eq (tgt := 90) hx hb dX0_upper_64 (by decide) (fun c_8 => ?_) (fun c_8 => ?_)
            · have hF := ob_pos c_8 hF
              exact hJ_90 h x1 x2 x4 hF H _ ls hP hD hS (lv_sub hl [1, 2, 3, 4] rfl)
            · have hF := ob_neg c_8 hF
              refine lv_goto (tgt := 80) hx hb dX0_upper_67 (by decide) ?_
              exact hJ_80 h x1 x2 x4 hF H _ ls hP hD hS (lv_sub hl [1, 2, 3, 4] rfl)
        · have hF := ob_pos c_4 hF
          refine lv_iload hx hb dX0_upper_49 (lv_at hl 5 rfl) ?_
          refine lv_if_eq (tgt := 90) hx hb dX0_upper_51 (by decide) (fun c_9 => ?_) (fun c_9 => ?_)
          · have hF := ob_pos c_9 hF
            exact hJ_90 h x1 x2 x4 hF H _ ls hP hD hS (lv_sub hl [1, 2, 3, 4] rfl)
          · have hF := ob_neg c_9 hF
            refine lv_goto (tgt := 80) hx hb dX0_upper_54 (by decide) ?_
            exact hJ_80 h x1 x2 x4 hF H _ ls hP hD hS (lv_sub hl [1, 2, 3, 4] rfl)
      have hJ_28 : ∀ (h : HS) (x1 : Int32) (x2 : Int64) (x4 : Int32) (y0 : Int32), f_X0_upper_28 (f_X0_upper_5 n_5) h x1 x2 x4 y0 = some (rr, hh) → ∀ (H : Heap) (locs : List Loc) (ls : Array Slot), va_P G vwCl (wC q cI cJ cZ cB cT h) H → va_D A (wC q cI cJ cZ cB cT h) → va_S A s.heap H locs → lv_has ls 7 [(0, .ref (q 20)), (1, .int x1), (2, .long x2), (4, .int x4)] → W p l e (gRm 1) s m args below meth c H locs 0 0 (MQ below (va_Ql (fun x (_ : Unit) => x = rr) (gB G (fun (_ : Unit) => (wC q cI cJ cZ cB cT hh)) A) A) args s 0 0 A) (F0 m 28 ls [.int y0]) := by
        intro h x1 x2 x4 y0 hF H locs ls hP hD hS hl
        unfold f_X0_upper_28 at hF
        refine lv_istore (lv' := [(5, .int y0), (0, .ref (q 20)), (1, .int x1), (2, .long x2), (4, .int x4)]) hx hb dX0_upper_28 hl (by decide) rfl (fun ls hl => ?_)
        refine lv_iload hx hb dX0_upper_30 (lv_at hl 4 rfl) ?_
        refine lv_iconst (v := 4) hx hb dX0_upper_32 (by decide) ?_
        refine lv_irem hx hb dX0_upper_33 (by decide) ?_
        refine lv_iconst (v := 3) hx hb dX0_upper_34 (by decide) ?_
        refine lv_icmp_ne (tgt := 42) hx hb dX0_upper_35 (by decide) (fun c_3 => ?_) (fun c_3 => ?_)
        · have hF := ob_neg c_3 hF
          refine lv_iconst (v := 0) hx hb dX0_upper_42 (by decide) ?_
          exact hJ_43 h x1 x2 x4 y0 0 hF H _ ls hP hD hS (lv_sub hl [1, 2, 3, 4, 0] rfl)
        · have hF := ob_pos c_3 hF
          refine lv_iconst (v := 1) hx hb dX0_upper_38 (by decide) ?_
          refine lv_goto (tgt := 43) hx hb dX0_upper_39 (by decide) ?_
          exact hJ_43 h x1 x2 x4 y0 1 hF H _ ls hP hD hS (lv_sub hl [1, 2, 3, 4, 0] rfl)
      intro h x1 x2 x4 hF H locs ls hP hD hS hl
      rw [f_X0_upper_5_s] at hF
      refine lv_iload hx hb dX0_upper_5 (lv_at hl 3 rfl) ?_
      refine lv_aload_n hx hb dX0_upper_7 rfl (lv_at hl 0 rfl) ?_
      refine va_get (D := G) (ci := 0) (v := .ref (q 21)) (C := RX0) (T := TX0) (N := 4) hx hb hts iX0 hown hK hP 20 wC_at20 rfl 2 (by decide) (hts _ m_467) (fun _ h9 => h9) rfl dX0_upper_8 ?_
      refine va_alen (D := G) hx hb hK hP 21 1 wC_at21 rfl (v := 16) rfl dX0_upper_11 ?_
      refine lv_icmp_ge (tgt := 96) hx hb dX0_upper_12 (by decide) (fun c_1 => ?_) (fun c_1 => ?_)
      · have hF := ob_pos c_1 hF
        refine lv_lload_n hx hb dX0_upper_96 rfl (lv_at hl 2 rfl) ?_
        obtain ⟨rfl, rfl⟩ := ob_pair hF
        exact gw_lret () hx hb hr hlocks hP hD hS rfl dX0_upper_97
      · have hF := ob_neg c_1 hF
        refine lv_iload hx hb dX0_upper_15 (lv_at hl 3 rfl) ?_
        refine lv_iconst (v := 4) hx hb dX0_upper_17 (by decide) ?_
        refine lv_idiv hx hb dX0_upper_18 (by decide) ?_
        refine lv_iconst (v := 3) hx hb dX0_upper_19 (by decide) ?_
        refine lv_icmp_ne (tgt := 27) hx hb dX0_upper_20 (by decide) (fun c_2 => ?_) (fun c_2 => ?_)
        · have hF := ob_neg c_2 hF
          refine lv_iconst (v := 0) hx hb dX0_upper_27 (by decide) ?_
          exact hJ_28 h x1 x2 x4 0 hF H _ ls hP hD hS (lv_sub hl [0, 1, 2, 3] rfl)
        · have hF := ob_pos c_2 hF
          refine lv_iconst (v := 1) hx hb dX0_upper_23 (by decide) ?_
          refine lv_goto (tgt := 28) hx hb dX0_upper_24 (by decide) ?_
          exact hJ_28 h x1 x2 x4 1 hF H _ ls hP hD hS (lv_sub hl [0, 1, 2, 3] rfl)
  unfold f_X0_upper at hF
  refine lv_lconst (v := 0) hx hb dX0_upper_0 (by decide) ?_
  refine lv_lstore_n (lv' := [(2, .long 0), (0, .ref (q 20)), (1, .int p1)]) hx hb dX0_upper_1 rfl hl (by decide) rfl (fun ls hl => ?_)
  refine lv_iconst (v := 0) hx hb dX0_upper_2 (by decide) ?_
  refine lv_istore (lv' := [(4, .int 0), (2, .long 0), (0, .ref (q 20)), (1, .int p1)]) hx hb dX0_upper_3 hl (by decide) rfl (fun ls hl => ?_)
  exact hJ_5 8589934592 h p1 0 0 hF H _ ls hP hD hS (lv_sub hl [2, 3, 1, 0] rfl)
def f_X3_isEnough_29 (h : HS) (y0 : Int32) : Option (Int32 × HS) := (if y0 = 0 ∨ y0 = 1 then (some (y0, h)) else none)
def f_X3_isEnough (h : HS) (p1 : Int64) : Option (Int32 × HS) := (if (lg_cmp (((eL h 8 9) - p1) * 100) ((((eI h 8 10)).toInt64) * (eL h 8 9))) < 0 then (f_X3_isEnough_29 h 0) else (f_X3_isEnough_29 h 1))
set_option maxHeartbeats 4000000 in
set_option maxRecDepth 100000 in
theorem c_X3_isEnough (l : Launch) (G : va_G) (cI cJ cZ cB cT : ClassId) (q : Nat → Nat) (h : HS) (p1 : Int64) (rr : Int32) (hh : HS) (hF : f_X3_isEnough h p1 = some (rr, hh)) : gMi l yX3_isEnough (gws yX3_isEnough cX3_isEnough 3 (some .boolean)) 1 G (gT cI cJ cZ cB cT) [.ref (q 23), .long p1] (wC q cI cJ cZ cB cT h) (fun x (_ : Unit) => x = rr) (fun (_ : Unit) => (wC q cI cJ cZ cB cT hh)) := by
  intro sz
  refine gM_start (y := yX3_isEnough) (av := [.ref (q 23), .long p1]) (ws := (wC q cI cJ cZ cB cT h)) (Qf := fun A => va_Qi (fun x (_ : Unit) => x = rr) (gB G (fun (_ : Unit) => (wC q cI cJ cZ cB cT hh)) A) A) (cc := cX3_isEnough) (maxL := 3) (ret := (some .boolean)) (by decide) (Nat.le_of_ble_eq_true rfl) ?_
  intro p e s m args below meth c A ls H hx hb hr hts hown hin hlocks hml hP hK hD hA hS hl hE
  have hl : lv_has ls 3 [(0, .ref (q 23)), (1, .long p1)] := hl
  have hJ_29 : ∀ (h : HS) (y0 : Int32), f_X3_isEnough_29 h y0 = some (rr, hh) → ∀ (H : Heap) (locs : List Loc) (ls : Array Slot), va_P G vwCl (wC q cI cJ cZ cB cT h) H → va_D A (wC q cI cJ cZ cB cT h) → va_S A s.heap H locs → lv_has ls 3 [] → W p l e (gRm 1) s m args below meth c H locs 0 0 (MQ below (va_Qi (fun x (_ : Unit) => x = rr) (gB G (fun (_ : Unit) => (wC q cI cJ cZ cB cT hh)) A) A) args s 0 0 A) (F0 m 29 ls [.int y0]) := by
    intro h y0 hF H locs ls hP hD hS hl
    unfold f_X3_isEnough_29 at hF
    obtain ⟨hz_2, hF⟩ := ob_if hF
    obtain ⟨rfl, rfl⟩ := ob_pair hF
    exact gw_zret () hx hb hr hlocks (gz hz_2) hP hD hS rfl dX3_isEnough_29
  unfold f_X3_isEnough at hF
  refine lv_aload_n hx hb dX3_isEnough_0 rfl (lv_at hl 0 rfl) ?_
  refine va_get (D := G) (ci := 3) (v := .long (eL h 8 9)) (C := RX3) (T := TX3) (N := 16) hx hb hts iX3 hown hK hP 23 wC_at23 rfl 9 (by decide) (hts _ m_468) (fun _ h9 => h9) rfl dX3_isEnough_1 ?_
  refine lv_lload_n hx hb dX3_isEnough_4 rfl (lv_at hl 1 rfl) ?_
  refine lv_lsub hx hb dX3_isEnough_5 ?_
  refine lv_ldc2 (v := 100) hx hb hown (hts _ m_469) dX3_isEnough_6 ?_
  refine lv_lmul hx hb dX3_isEnough_9 ?_
  refine lv_aload_n hx hb dX3_isEnough_10 rfl (lv_at hl 0 rfl) ?_
  refine va_get (D := G) (ci := 3) (v := .int (eI h 8 10)) (C := RX3) (T := TX3) (N := 16) hx hb hts iX3 hown hK hP 23 wC_at23 rfl 10 (by decide) (hts _ m_470) (fun _ h9 => h9) rfl dX3_isEnough_11 ?_
  refine lv_i2l (v := ((eI h 8 10)).toInt64) hx hb dX3_isEnough_14 rfl ?_
  refine lv_aload_n hx hb dX3_isEnough_15 rfl (lv_at hl 0 rfl) ?_
  refine va_get (D := G) (ci := 3) (v := .long (eL h 8 9)) (C := RX3) (T := TX3) (N := 16) hx hb hts iX3 hown hK hP 23 wC_at23 rfl 9 (by decide) (hts _ m_468) (fun _ h9 => h9) rfl dX3_isEnough_16 ?_
  refine lv_lmul hx hb dX3_isEnough_19 ?_
  refine W.lcmp hx hb dX3_isEnough_20 ?_
  refine lv_if_lt (tgt := 28) hx hb dX3_isEnough_21 (by decide) (fun c_1 => ?_) (fun c_1 => ?_)
  · have hF := ob_pos c_1 hF
    refine lv_iconst (v := 0) hx hb dX3_isEnough_28 (by decide) ?_
    exact hJ_29 h 0 hF H _ ls hP hD hS (lv_sub hl [] rfl)
  · have hF := ob_neg c_1 hF
    refine lv_iconst (v := 1) hx hb dX3_isEnough_24 (by decide) ?_
    refine lv_goto (tgt := 29) hx hb dX3_isEnough_25 (by decide) ?_
    exact hJ_29 h 1 hF H _ ls hP hD hS (lv_sub hl [] rfl)
def f_X3_isBetter_21 (h : HS) (y0 : Int32) : Option (Int32 × HS) := (if y0 = 0 ∨ y0 = 1 then (some (y0, h)) else none)
def f_X3_isBetter_16 (h : HS) : Option (Int32 × HS) := (f_X3_isBetter_21 h 1)
def f_X3_isBetter (h : HS) (p1 : Int64) : Option (Int32 × HS) := (if (eI h 8 12) = 0 then (f_X3_isBetter_16 h) else (if (lg_cmp p1 (eL h 8 14)) ≤ 0 then (f_X3_isBetter_21 h 0) else (f_X3_isBetter_16 h)))
set_option maxHeartbeats 4000000 in
set_option maxRecDepth 100000 in
theorem c_X3_isBetter (l : Launch) (G : va_G) (cI cJ cZ cB cT : ClassId) (q : Nat → Nat) (h : HS) (p1 : Int64) (rr : Int32) (hh : HS) (hF : f_X3_isBetter h p1 = some (rr, hh)) : gMi l yX3_isBetter (gws yX3_isBetter cX3_isBetter 3 (some .boolean)) 1 G (gT cI cJ cZ cB cT) [.ref (q 23), .long p1] (wC q cI cJ cZ cB cT h) (fun x (_ : Unit) => x = rr) (fun (_ : Unit) => (wC q cI cJ cZ cB cT hh)) := by
  intro sz
  refine gM_start (y := yX3_isBetter) (av := [.ref (q 23), .long p1]) (ws := (wC q cI cJ cZ cB cT h)) (Qf := fun A => va_Qi (fun x (_ : Unit) => x = rr) (gB G (fun (_ : Unit) => (wC q cI cJ cZ cB cT hh)) A) A) (cc := cX3_isBetter) (maxL := 3) (ret := (some .boolean)) (by decide) (Nat.le_of_ble_eq_true rfl) ?_
  intro p e s m args below meth c A ls H hx hb hr hts hown hin hlocks hml hP hK hD hA hS hl hE
  have hl : lv_has ls 3 [(0, .ref (q 23)), (1, .long p1)] := hl
  have hJ_21 : ∀ (h : HS) (y0 : Int32), f_X3_isBetter_21 h y0 = some (rr, hh) → ∀ (H : Heap) (locs : List Loc) (ls : Array Slot), va_P G vwCl (wC q cI cJ cZ cB cT h) H → va_D A (wC q cI cJ cZ cB cT h) → va_S A s.heap H locs → lv_has ls 3 [] → W p l e (gRm 1) s m args below meth c H locs 0 0 (MQ below (va_Qi (fun x (_ : Unit) => x = rr) (gB G (fun (_ : Unit) => (wC q cI cJ cZ cB cT hh)) A) A) args s 0 0 A) (F0 m 21 ls [.int y0]) := by
    intro h y0 hF H locs ls hP hD hS hl
    unfold f_X3_isBetter_21 at hF
    obtain ⟨hz_3, hF⟩ := ob_if hF
    obtain ⟨rfl, rfl⟩ := ob_pair hF
    exact gw_zret () hx hb hr hlocks (gz hz_3) hP hD hS rfl dX3_isBetter_21
  have hJ_16 : ∀ (h : HS), f_X3_isBetter_16 h = some (rr, hh) → ∀ (H : Heap) (locs : List Loc) (ls : Array Slot), va_P G vwCl (wC q cI cJ cZ cB cT h) H → va_D A (wC q cI cJ cZ cB cT h) → va_S A s.heap H locs → lv_has ls 3 [] → W p l e (gRm 1) s m args below meth c H locs 0 0 (MQ below (va_Qi (fun x (_ : Unit) => x = rr) (gB G (fun (_ : Unit) => (wC q cI cJ cZ cB cT hh)) A) A) args s 0 0 A) (F0 m 16 ls []) := by
    intro h hF H locs ls hP hD hS hl
    unfold f_X3_isBetter_16 at hF
    refine lv_iconst (v := 1) hx hb dX3_isBetter_16 (by decide) ?_
    refine lv_goto (tgt := 21) hx hb dX3_isBetter_17 (by decide) ?_
    exact hJ_21 h 1 hF H _ ls hP hD hS (lv_sub hl [] rfl)
  unfold f_X3_isBetter at hF
  refine lv_aload_n hx hb dX3_isBetter_0 rfl (lv_at hl 0 rfl) ?_
  refine va_get (D := G) (ci := 3) (v := .int (eI h 8 12)) (C := RX3) (T := TX3) (N := 16) hx hb hts iX3 hown hK hP 23 wC_at23 rfl 12 (by decide) (hts _ m_471) (fun _ h9 => h9) rfl dX3_isBetter_1 ?_
  refine lv_if_eq (tgt := 16) hx hb dX3_isBetter_4 (by decide) (fun c_1 => ?_) (fun c_1 => ?_)
  · have hF := ob_pos c_1 hF
    exact hJ_16 h hF H _ ls hP hD hS (lv_sub hl [] rfl)
  · have hF := ob_neg c_1 hF
    refine lv_lload_n hx hb dX3_isBetter_7 rfl (lv_at hl 1 rfl) ?_
    refine lv_aload_n hx hb dX3_isBetter_8 rfl (lv_at hl 0 rfl) ?_
    refine va_get (D := G) (ci := 3) (v := .long (eL h 8 14)) (C := RX3) (T := TX3) (N := 16) hx hb hts iX3 hown hK hP 23 wC_at23 rfl 14 (by decide) (hts _ m_472) (fun _ h9 => h9) rfl dX3_isBetter_9 ?_
    refine W.lcmp hx hb dX3_isBetter_12 ?_
    refine lv_if_le (tgt := 20) hx hb dX3_isBetter_13 (by decide) (fun c_2 => ?_) (fun c_2 => ?_)
    · have hF := ob_pos c_2 hF
      refine lv_iconst (v := 0) hx hb dX3_isBetter_20 (by decide) ?_
      exact hJ_21 h 0 hF H _ ls hP hD hS (lv_sub hl [] rfl)
    · have hF := ob_neg c_2 hF
      exact hJ_16 h hF H _ ls hP hD hS (lv_sub hl [] rfl)
def f_X3_keep_83 (h : HS) : Option HS := (some h)
def f_X3_keep_23 : Nat → HS → Int32 → Option HS
  | 0, _, _ => none
  | n + 1, h, x4 => (if (eI h 8 8) ≤ x4 then (f_X3_keep_83 h) else (if 3 ≤ x4 then (f_X3_keep_83 h) else (if 0 ≤ (x4).toInt ∧ (x4).toInt < 3 then (if 0 ≤ (x4).toInt ∧ (x4).toInt < 3 then (if 0 ≤ (x4).toInt ∧ (x4).toInt < 3 then (if 0 ≤ (x4).toInt ∧ (x4).toInt < 3 then (if 0 ≤ (x4).toInt ∧ (x4).toInt < 3 then ((f_X3_keep_23 n) (sA (sA h 8 6 (upd (eA h 8 6) ((x4).toNatClampNeg) ((eA h 8 3) ((x4).toNatClampNeg)))) 8 7 (upd (eA h 8 7) ((x4).toNatClampNeg) ((((eA h 8 5) ((x4).toNatClampNeg)) * 10) + ((eA h 8 4) ((x4).toNatClampNeg))))) (x4 + 1)) else none) else none) else none) else none) else none)))
theorem f_X3_keep_23_s (n : Nat) (h : HS) (x4 : Int32) : f_X3_keep_23 (n + 1) h x4 = (if (eI h 8 8) ≤ x4 then (f_X3_keep_83 h) else (if 3 ≤ x4 then (f_X3_keep_83 h) else (if 0 ≤ (x4).toInt ∧ (x4).toInt < 3 then (if 0 ≤ (x4).toInt ∧ (x4).toInt < 3 then (if 0 ≤ (x4).toInt ∧ (x4).toInt < 3 then (if 0 ≤ (x4).toInt ∧ (x4).toInt < 3 then (if 0 ≤ (x4).toInt ∧ (x4).toInt < 3 then ((f_X3_keep_23 n) (sA (sA h 8 6 (upd (eA h 8 6) ((x4).toNatClampNeg) ((eA h 8 3) ((x4).toNatClampNeg)))) 8 7 (upd (eA h 8 7) ((x4).toNatClampNeg) ((((eA h 8 5) ((x4).toNatClampNeg)) * 10) + ((eA h 8 4) ((x4).toNatClampNeg))))) (x4 + 1)) else none) else none) else none) else none) else none))) := rfl
def f_X3_keep (h : HS) (p1 : Int64) (p2 : Int32) : Option HS := (f_X3_keep_23 8589934592 (sI (sL (sI (sI h 8 12 1) 8 13 1) 8 14 p1) 8 15 p2) 0)
set_option maxHeartbeats 4000000 in
set_option maxRecDepth 100000 in
theorem c_X3_keep (l : Launch) (G : va_G) (cI cJ cZ cB cT : ClassId) (q : Nat → Nat) (h : HS) (p1 : Int64) (p2 : Int32) (hh : HS) (hF : f_X3_keep h p1 p2 = some hh) : gMv l yX3_keep (gws yX3_keep cX3_keep 5 none) 1 G (gT cI cJ cZ cB cT) [.ref (q 23), .long p1, .int p2] (wC q cI cJ cZ cB cT h) (fun (_ : Unit) => True) (fun (_ : Unit) => (wC q cI cJ cZ cB cT hh)) := by
  intro sz
  refine gM_start (y := yX3_keep) (av := [.ref (q 23), .long p1, .int p2]) (ws := (wC q cI cJ cZ cB cT h)) (Qf := fun A => va_Qv (fun (_ : Unit) => True) (gB G (fun (_ : Unit) => (wC q cI cJ cZ cB cT hh)) A) A) (cc := cX3_keep) (maxL := 5) (ret := none) (by decide) (Nat.le_of_ble_eq_true rfl) ?_
  intro p e s m args below meth c A ls H hx hb hr hts hown hin hlocks hml hP hK hD hA hS hl hE
  have hl : lv_has ls 5 [(0, .ref (q 23)), (1, .long p1), (3, .int p2)] := hl
  have hJ_83 : ∀ (h : HS), f_X3_keep_83 h = some hh → ∀ (H : Heap) (locs : List Loc) (ls : Array Slot), va_P G vwCl (wC q cI cJ cZ cB cT h) H → va_D A (wC q cI cJ cZ cB cT h) → va_S A s.heap H locs → lv_has ls 5 [] → W p l e (gRm 1) s m args below meth c H locs 0 0 (MQ below (va_Qv (fun (_ : Unit) => True) (gB G (fun (_ : Unit) => (wC q cI cJ cZ cB cT hh)) A) A) args s 0 0 A) (F0 m 83 ls []) := by
    intro h hF H locs ls hP hD hS hl
    unfold f_X3_keep_83 at hF
    obtain rfl := ob_one hF
    exact gw_vret () hx hb hr hlocks hP hD hS trivial dX3_keep_83
  have hJ_23 : ∀ (n_23 : Nat) (h : HS) (x4 : Int32), f_X3_keep_23 n_23 h x4 = some hh → ∀ (H : Heap) (locs : List Loc) (ls : Array Slot), va_P G vwCl (wC q cI cJ cZ cB cT h) H → va_D A (wC q cI cJ cZ cB cT h) → va_S A s.heap H locs → lv_has ls 5 [(0, .ref (q 23)), (4, .int x4)] → W p l e (gRm 1) s m args below meth c H locs 0 0 (MQ below (va_Qv (fun (_ : Unit) => True) (gB G (fun (_ : Unit) => (wC q cI cJ cZ cB cT hh)) A) A) args s 0 0 A) (F0 m 23 ls []) := by
    intro n_23
    induction n_23 with
    | zero =>
      intro h x4 hF
      exact absurd hF (by simp [f_X3_keep_23])
    | succ n_23 ih_23 =>
      intro h x4 hF H locs ls hP hD hS hl
      rw [f_X3_keep_23_s] at hF
      refine lv_iload hx hb dX3_keep_23 (lv_at hl 1 rfl) ?_
      refine lv_aload_n hx hb dX3_keep_25 rfl (lv_at hl 0 rfl) ?_
      refine va_get (D := G) (ci := 3) (v := .int (eI h 8 8)) (C := RX3) (T := TX3) (N := 16) hx hb hts iX3 hown hK hP 23 wC_at23 rfl 8 (by decide) (hts _ m_475) (fun _ h9 => h9) rfl dX3_keep_26 ?_
      refine lv_icmp_ge (tgt := 83) hx hb dX3_keep_29 (by decide) (fun c_1 => ?_) (fun c_1 => ?_)
      · have hF := ob_pos c_1 hF
        exact hJ_83 h hF H _ ls hP hD hS (lv_sub hl [] rfl)
      · have hF := ob_neg c_1 hF
        refine lv_iload hx hb dX3_keep_32 (lv_at hl 1 rfl) ?_
        refine lv_iconst (v := 3) hx hb dX3_keep_34 (by decide) ?_
        refine lv_icmp_ge (tgt := 83) hx hb dX3_keep_35 (by decide) (fun c_2 => ?_) (fun c_2 => ?_)
        · have hF := ob_pos c_2 hF
          exact hJ_83 h hF H _ ls hP hD hS (lv_sub hl [] rfl)
        · have hF := ob_neg c_2 hF
          refine lv_aload_n hx hb dX3_keep_38 rfl (lv_at hl 0 rfl) ?_
          refine va_get (D := G) (ci := 3) (v := .ref (q 30)) (C := RX3) (T := TX3) (N := 16) hx hb hts iX3 hown hK hP 23 wC_at23 rfl 6 (by decide) (hts _ m_476) (fun _ h9 => h9) rfl dX3_keep_39 ?_
          refine lv_iload hx hb dX3_keep_42 (lv_at hl 1 rfl) ?_
          refine lv_aload_n hx hb dX3_keep_44 rfl (lv_at hl 0 rfl) ?_
          refine va_get (D := G) (ci := 3) (v := .ref (q 27)) (C := RX3) (T := TX3) (N := 16) hx hb hts iX3 hown hK hP 23 wC_at23 rfl 3 (by decide) (hts _ m_477) (fun _ h9 => h9) rfl dX3_keep_45 ?_
          refine lv_iload hx hb dX3_keep_48 (lv_at hl 1 rfl) ?_
          obtain ⟨hi_3, hF⟩ := ob_if hF
          refine va_iald (D := G) hx hb hK hP 27 0 wC_at27 rfl (vp_in_iff.mpr hi_3) dX3_keep_50 ?_
          refine gw_topi (y := ((eA h 8 3) ((x4).toNatClampNeg))) rfl ?_
          obtain ⟨hi_4, hF⟩ := ob_if hF
          refine va_iast (D := G) hx hb hK hP hD hS 30 0 wC_at30 rfl (vp_in_iff.mpr hi_4) dX3_keep_51 (fun H locs hP hD hS => ?_)
          rw [wC_sA30] at hP hD
          have hP : va_P G vwCl (wC q cI cJ cZ cB cT (sA h 8 6 (upd (eA h 8 6) ((x4).toNatClampNeg) ((eA h 8 3) ((x4).toNatClampNeg))))) H := hP
          have hD : va_D A (wC q cI cJ cZ cB cT (sA h 8 6 (upd (eA h 8 6) ((x4).toNatClampNeg) ((eA h 8 3) ((x4).toNatClampNeg))))) := hD
          refine lv_aload_n hx hb dX3_keep_52 rfl (lv_at hl 0 rfl) ?_
          refine va_get (D := G) (ci := 3) (v := .ref (q 31)) (C := RX3) (T := TX3) (N := 16) hx hb hts iX3 hown hK hP 23 wC_at23 rfl 7 (by decide) (hts _ m_478) (fun _ h9 => h9) rfl dX3_keep_53 ?_
          refine lv_iload hx hb dX3_keep_56 (lv_at hl 1 rfl) ?_
          refine lv_aload_n hx hb dX3_keep_58 rfl (lv_at hl 0 rfl) ?_
          refine va_get (D := G) (ci := 3) (v := .ref (q 29)) (C := RX3) (T := TX3) (N := 16) hx hb hts iX3 hown hK hP 23 wC_at23 rfl 5 (by decide) (hts _ m_479) (fun _ h9 => h9) rfl dX3_keep_59 ?_
          refine lv_iload hx hb dX3_keep_62 (lv_at hl 1 rfl) ?_
          obtain ⟨hi_5, hF⟩ := ob_if hF
          refine va_iald (D := G) hx hb hK hP 29 0 wC_at29 rfl (vp_in_iff.mpr hi_5) dX3_keep_64 ?_
          refine gw_topi (y := ((eA h 8 5) ((x4).toNatClampNeg))) rfl ?_
          refine lv_bipush (v := 10) hx hb dX3_keep_65 (by decide) ?_
          refine lv_imul hx hb dX3_keep_67 ?_
          refine lv_aload_n hx hb dX3_keep_68 rfl (lv_at hl 0 rfl) ?_
          refine va_get (D := G) (ci := 3) (v := .ref (q 28)) (C := RX3) (T := TX3) (N := 16) hx hb hts iX3 hown hK hP 23 wC_at23 rfl 4 (by decide) (hts _ m_480) (fun _ h9 => h9) rfl dX3_keep_69 ?_
          refine lv_iload hx hb dX3_keep_72 (lv_at hl 1 rfl) ?_
          obtain ⟨hi_6, hF⟩ := ob_if hF
          refine va_iald (D := G) hx hb hK hP 28 0 wC_at28 rfl (vp_in_iff.mpr hi_6) dX3_keep_74 ?_
          refine gw_topi (y := ((eA h 8 4) ((x4).toNatClampNeg))) rfl ?_
          refine lv_iadd hx hb dX3_keep_75 ?_
          obtain ⟨hi_7, hF⟩ := ob_if hF
          refine va_iast (D := G) hx hb hK hP hD hS 31 0 wC_at31 rfl (vp_in_iff.mpr hi_7) dX3_keep_76 (fun H locs hP hD hS => ?_)
          rw [wC_sA31] at hP hD
          have hP : va_P G vwCl (wC q cI cJ cZ cB cT (sA (sA h 8 6 (upd (eA h 8 6) ((x4).toNatClampNeg) ((eA h 8 3) ((x4).toNatClampNeg)))) 8 7 (upd (eA h 8 7) ((x4).toNatClampNeg) ((((eA h 8 5) ((x4).toNatClampNeg)) * 10) + ((eA h 8 4) ((x4).toNatClampNeg)))))) H := hP
          have hD : va_D A (wC q cI cJ cZ cB cT (sA (sA h 8 6 (upd (eA h 8 6) ((x4).toNatClampNeg) ((eA h 8 3) ((x4).toNatClampNeg)))) 8 7 (upd (eA h 8 7) ((x4).toNatClampNeg) ((((eA h 8 5) ((x4).toNatClampNeg)) * 10) + ((eA h 8 4) ((x4).toNatClampNeg)))))) := hD
          refine lv_iinc (v := (x4 + 1)) (lv' := [(4, .int (x4 + 1)), (0, .ref (q 23))]) hx hb dX3_keep_77 hl (k := 1) rfl rfl (by decide) rfl (fun ls hl => ?_)
          refine lv_goto (tgt := 23) hx hb dX3_keep_80 (by decide) ?_
          exact ih_23 (sA (sA h 8 6 (upd (eA h 8 6) ((x4).toNatClampNeg) ((eA h 8 3) ((x4).toNatClampNeg)))) 8 7 (upd (eA h 8 7) ((x4).toNatClampNeg) ((((eA h 8 5) ((x4).toNatClampNeg)) * 10) + ((eA h 8 4) ((x4).toNatClampNeg))))) (x4 + 1) hF H _ ls hP hD hS (lv_sub hl [1, 0] rfl)
  unfold f_X3_keep at hF
  refine lv_aload_n hx hb dX3_keep_0 rfl (lv_at hl 0 rfl) ?_
  refine lv_iconst (v := 1) hx hb dX3_keep_1 (by decide) ?_
  refine va_put (D := G) (ci := 3) (v := .int 1) (ty := .boolean) (C := RX3) (T := TX3) (N := 16) hx hb hts iX3 tyX3 tyX3_ok nmX3 hown hK hP hD hS 23 wC_at23 rfl 12 (by decide) (hts _ m_471) (fun _ h9 => h9) rfl (tyX3_ok 12 (by decide)) rfl rfl (Nat.le_of_ble_eq_true rfl) dX3_keep_2 (fun H locs hP hD hS => ?_)
  rw [wC_sI23_12] at hP hD
  refine lv_aload_n hx hb dX3_keep_5 rfl (lv_at hl 0 rfl) ?_
  refine lv_iconst (v := 1) hx hb dX3_keep_6 (by decide) ?_
  refine va_put (D := G) (ci := 3) (v := .int 1) (ty := .boolean) (C := RX3) (T := TX3) (N := 16) hx hb hts iX3 tyX3 tyX3_ok nmX3 hown hK hP hD hS 23 wC_at23 rfl 13 (by decide) (hts _ m_473) (fun _ h9 => h9) rfl (tyX3_ok 13 (by decide)) rfl rfl (Nat.le_of_ble_eq_true rfl) dX3_keep_7 (fun H locs hP hD hS => ?_)
  rw [wC_sI23_13] at hP hD
  refine lv_aload_n hx hb dX3_keep_10 rfl (lv_at hl 0 rfl) ?_
  refine lv_lload_n hx hb dX3_keep_11 rfl (lv_at hl 1 rfl) ?_
  refine va_put (D := G) (ci := 3) (v := .long p1) (ty := .long) (C := RX3) (T := TX3) (N := 16) hx hb hts iX3 tyX3 tyX3_ok nmX3 hown hK hP hD hS 23 wC_at23 rfl 14 (by decide) (hts _ m_472) (fun _ h9 => h9) rfl (tyX3_ok 14 (by decide)) rfl rfl (Nat.le_of_ble_eq_true rfl) dX3_keep_12 (fun H locs hP hD hS => ?_)
  rw [wC_sI23_14] at hP hD
  refine lv_aload_n hx hb dX3_keep_15 rfl (lv_at hl 0 rfl) ?_
  refine lv_iload_n hx hb dX3_keep_16 rfl (lv_at hl 2 rfl) ?_
  refine va_put (D := G) (ci := 3) (v := .int p2) (ty := .int) (C := RX3) (T := TX3) (N := 16) hx hb hts iX3 tyX3 tyX3_ok nmX3 hown hK hP hD hS 23 wC_at23 rfl 15 (by decide) (hts _ m_474) (fun _ h9 => h9) rfl (tyX3_ok 15 (by decide)) rfl rfl (Nat.le_of_ble_eq_true rfl) dX3_keep_17 (fun H locs hP hD hS => ?_)
  rw [wC_sI23_15] at hP hD
  refine lv_iconst (v := 0) hx hb dX3_keep_20 (by decide) ?_
  refine lv_istore (lv' := [(4, .int 0), (0, .ref (q 23)), (1, .long p1), (3, .int p2)]) hx hb dX3_keep_21 hl (by decide) rfl (fun ls hl => ?_)
  exact hJ_23 8589934592 (sI (sL (sI (sI h 8 12 1) 8 13 1) 8 14 p1) 8 15 p2) 0 hF H _ ls hP hD hS (lv_sub hl [1, 0] rfl)
def f_X3_choiceOf_38 (h : HS) : Option (Int32 × HS) := (some ((-1), h))
def f_X3_choiceOf_2 : Nat → HS → Int32 → Int32 → Option (Int32 × HS)
  | 0, _, _, _ => none
  | n + 1, h, x1, x2 => (if (eI h 8 8) ≤ x2 then (f_X3_choiceOf_38 h) else (if 3 ≤ x2 then (f_X3_choiceOf_38 h) else (if 0 ≤ (x2).toInt ∧ (x2).toInt < 3 then (if ((eA h 8 6) ((x2).toNatClampNeg)) = x1 then (if 0 ≤ (x2).toInt ∧ (x2).toInt < 3 then (some (((eA h 8 7) ((x2).toNatClampNeg)), h)) else none) else ((f_X3_choiceOf_2 n) h x1 (x2 + 1))) else none)))
theorem f_X3_choiceOf_2_s (n : Nat) (h : HS) (x1 : Int32) (x2 : Int32) : f_X3_choiceOf_2 (n + 1) h x1 x2 = (if (eI h 8 8) ≤ x2 then (f_X3_choiceOf_38 h) else (if 3 ≤ x2 then (f_X3_choiceOf_38 h) else (if 0 ≤ (x2).toInt ∧ (x2).toInt < 3 then (if ((eA h 8 6) ((x2).toNatClampNeg)) = x1 then (if 0 ≤ (x2).toInt ∧ (x2).toInt < 3 then (some (((eA h 8 7) ((x2).toNatClampNeg)), h)) else none) else ((f_X3_choiceOf_2 n) h x1 (x2 + 1))) else none))) := rfl
def f_X3_choiceOf (h : HS) (p1 : Int32) : Option (Int32 × HS) := (f_X3_choiceOf_2 8589934592 h p1 0)
set_option maxHeartbeats 4000000 in
set_option maxRecDepth 100000 in
theorem c_X3_choiceOf (l : Launch) (G : va_G) (cI cJ cZ cB cT : ClassId) (q : Nat → Nat) (h : HS) (p1 : Int32) (rr : Int32) (hh : HS) (hF : f_X3_choiceOf h p1 = some (rr, hh)) : gMi l yX3_choiceOf (gws yX3_choiceOf cX3_choiceOf 3 (some .int)) 1 G (gT cI cJ cZ cB cT) [.ref (q 23), .int p1] (wC q cI cJ cZ cB cT h) (fun x (_ : Unit) => x = rr) (fun (_ : Unit) => (wC q cI cJ cZ cB cT hh)) := by
  intro sz
  refine gM_start (y := yX3_choiceOf) (av := [.ref (q 23), .int p1]) (ws := (wC q cI cJ cZ cB cT h)) (Qf := fun A => va_Qi (fun x (_ : Unit) => x = rr) (gB G (fun (_ : Unit) => (wC q cI cJ cZ cB cT hh)) A) A) (cc := cX3_choiceOf) (maxL := 3) (ret := (some .int)) (by decide) (Nat.le_of_ble_eq_true rfl) ?_
  intro p e s m args below meth c A ls H hx hb hr hts hown hin hlocks hml hP hK hD hA hS hl hE
  have hl : lv_has ls 3 [(0, .ref (q 23)), (1, .int p1)] := hl
  have hJ_38 : ∀ (h : HS), f_X3_choiceOf_38 h = some (rr, hh) → ∀ (H : Heap) (locs : List Loc) (ls : Array Slot), va_P G vwCl (wC q cI cJ cZ cB cT h) H → va_D A (wC q cI cJ cZ cB cT h) → va_S A s.heap H locs → lv_has ls 3 [] → W p l e (gRm 1) s m args below meth c H locs 0 0 (MQ below (va_Qi (fun x (_ : Unit) => x = rr) (gB G (fun (_ : Unit) => (wC q cI cJ cZ cB cT hh)) A) A) args s 0 0 A) (F0 m 38 ls []) := by
    intro h hF H locs ls hP hD hS hl
    unfold f_X3_choiceOf_38 at hF
    refine lv_iconst (v := (-1)) hx hb dX3_choiceOf_38 (by decide) ?_
    obtain ⟨rfl, rfl⟩ := ob_pair hF
    exact gw_iret () hx hb hr hlocks hP hD hS rfl dX3_choiceOf_39
  have hJ_2 : ∀ (n_2 : Nat) (h : HS) (x1 : Int32) (x2 : Int32), f_X3_choiceOf_2 n_2 h x1 x2 = some (rr, hh) → ∀ (H : Heap) (locs : List Loc) (ls : Array Slot), va_P G vwCl (wC q cI cJ cZ cB cT h) H → va_D A (wC q cI cJ cZ cB cT h) → va_S A s.heap H locs → lv_has ls 3 [(0, .ref (q 23)), (1, .int x1), (2, .int x2)] → W p l e (gRm 1) s m args below meth c H locs 0 0 (MQ below (va_Qi (fun x (_ : Unit) => x = rr) (gB G (fun (_ : Unit) => (wC q cI cJ cZ cB cT hh)) A) A) args s 0 0 A) (F0 m 2 ls []) := by
    intro n_2
    induction n_2 with
    | zero =>
      intro h x1 x2 hF
      exact absurd hF (by simp [f_X3_choiceOf_2])
    | succ n_2 ih_2 =>
      intro h x1 x2 hF H locs ls hP hD hS hl
      rw [f_X3_choiceOf_2_s] at hF
      refine lv_iload_n hx hb dX3_choiceOf_2 rfl (lv_at hl 2 rfl) ?_
      refine lv_aload_n hx hb dX3_choiceOf_3 rfl (lv_at hl 0 rfl) ?_
      refine va_get (D := G) (ci := 3) (v := .int (eI h 8 8)) (C := RX3) (T := TX3) (N := 16) hx hb hts iX3 hown hK hP 23 wC_at23 rfl 8 (by decide) (hts _ m_475) (fun _ h9 => h9) rfl dX3_choiceOf_4 ?_
      refine lv_icmp_ge (tgt := 38) hx hb dX3_choiceOf_7 (by decide) (fun c_1 => ?_) (fun c_1 => ?_)
      · have hF := ob_pos c_1 hF
        exact hJ_38 h hF H _ ls hP hD hS (lv_sub hl [] rfl)
      · have hF := ob_neg c_1 hF
        refine lv_iload_n hx hb dX3_choiceOf_10 rfl (lv_at hl 2 rfl) ?_
        refine lv_iconst (v := 3) hx hb dX3_choiceOf_11 (by decide) ?_
        refine lv_icmp_ge (tgt := 38) hx hb dX3_choiceOf_12 (by decide) (fun c_2 => ?_) (fun c_2 => ?_)
        · have hF := ob_pos c_2 hF
          exact hJ_38 h hF H _ ls hP hD hS (lv_sub hl [] rfl)
        · have hF := ob_neg c_2 hF
          refine lv_aload_n hx hb dX3_choiceOf_15 rfl (lv_at hl 0 rfl) ?_
          refine va_get (D := G) (ci := 3) (v := .ref (q 30)) (C := RX3) (T := TX3) (N := 16) hx hb hts iX3 hown hK hP 23 wC_at23 rfl 6 (by decide) (hts _ m_476) (fun _ h9 => h9) rfl dX3_choiceOf_16 ?_
          refine lv_iload_n hx hb dX3_choiceOf_19 rfl (lv_at hl 2 rfl) ?_
          obtain ⟨hi_3, hF⟩ := ob_if hF
          refine va_iald (D := G) hx hb hK hP 30 0 wC_at30 rfl (vp_in_iff.mpr hi_3) dX3_choiceOf_20 ?_
          refine gw_topi (y := ((eA h 8 6) ((x2).toNatClampNeg))) rfl ?_
          refine lv_iload_n hx hb dX3_choiceOf_21 rfl (lv_at hl 1 rfl) ?_
          refine lv_icmp_ne (tgt := 32) hx hb dX3_choiceOf_22 (by decide) (fun c_4 => ?_) (fun c_4 => ?_)
          · have hF := ob_neg c_4 hF
            refine lv_iinc (v := (x2 + 1)) (lv' := [(2, .int (x2 + 1)), (0, .ref (q 23)), (1, .int x1)]) hx hb dX3_choiceOf_32 hl (k := 2) rfl rfl (by decide) rfl (fun ls hl => ?_)
            refine lv_goto (tgt := 2) hx hb dX3_choiceOf_35 (by decide) ?_
            exact ih_2 h x1 (x2 + 1) hF H _ ls hP hD hS (lv_sub hl [1, 2, 0] rfl)
          · have hF := ob_pos c_4 hF
            refine lv_aload_n hx hb dX3_choiceOf_25 rfl (lv_at hl 0 rfl) ?_
            refine va_get (D := G) (ci := 3) (v := .ref (q 31)) (C := RX3) (T := TX3) (N := 16) hx hb hts iX3 hown hK hP 23 wC_at23 rfl 7 (by decide) (hts _ m_478) (fun _ h9 => h9) rfl dX3_choiceOf_26 ?_
            refine lv_iload_n hx hb dX3_choiceOf_29 rfl (lv_at hl 2 rfl) ?_
            obtain ⟨hi_5, hF⟩ := ob_if hF
            refine va_iald (D := G) hx hb hK hP 31 0 wC_at31 rfl (vp_in_iff.mpr hi_5) dX3_choiceOf_30 ?_
            refine gw_topi (y := ((eA h 8 7) ((x2).toNatClampNeg))) rfl ?_
            obtain ⟨rfl, rfl⟩ := ob_pair hF
            exact gw_iret () hx hb hr hlocks hP hD hS rfl dX3_choiceOf_31
  unfold f_X3_choiceOf at hF
  refine lv_iconst (v := 0) hx hb dX3_choiceOf_0 (by decide) ?_
  refine lv_istore_n (lv' := [(2, .int 0), (0, .ref (q 23)), (1, .int p1)]) hx hb dX3_choiceOf_1 rfl hl (by decide) rfl (fun ls hl => ?_)
  exact hJ_2 8589934592 h p1 0 hF H _ ls hP hD hS (lv_sub hl [1, 2, 0] rfl)
def f_X3_missOf_f_158 (h : HS) (x2 : Int64) (x4 : Int64) (x6 : Int64) (x8 : Int64) (x10 : Int64) : Option (Int64 × HS) := (some ((x2 * ((x6 * x10) - ((x6 - x4) * (x10 - x8)))), h))
def f_X3_missOf_f_152 (k17 : HS → Int64 → Int64 → Int64 → Int64 → Int64 → Int32 → Option (Int64 × HS)) (h : HS) (x2 : Int64) (x4 : Int64) (x6 : Int64) (x8 : Int64) (x10 : Int64) (x12 : Int32) : Option (Int64 × HS) := (k17 h x2 x4 x6 x8 x10 (x12 + 1))
def f_X3_missOf_f_85 (k17 : HS → Int64 → Int64 → Int64 → Int64 → Int64 → Int32 → Option (Int64 × HS)) (h : HS) (x2 : Int64) (x4 : Int64) (x6 : Int64) (x8 : Int64) (x10 : Int64) (x12 : Int32) (y0 : Int32) : Option (Int64 × HS) := (if 0 ≤ (x12).toInt ∧ (x12).toInt < 3 then (if ((eA h 8 4) ((x12).toNatClampNeg)) = 0 then (f_X3_missOf_f_152 k17 h (x2 * ((y0).toInt64)) x4 x6 x8 x10 x12) else (if 0 ≤ (x12).toInt ∧ (x12).toInt < 3 then (if ((eA h 8 4) ((x12).toNatClampNeg)) = 1 then (f_X3_missOf_f_152 k17 h x2 (x4 * ((y0).toInt64)) (x6 * 100) x8 x10 x12) else (f_X3_missOf_f_152 k17 h x2 x4 x6 (x8 * ((y0).toInt64)) (x10 * 100) x12)) else none)) else none)
def f_X3_missOf_f_83 (k17 : HS → Int64 → Int64 → Int64 → Int64 → Int64 → Int32 → Option (Int64 × HS)) (h : HS) (x2 : Int64) (x4 : Int64) (x6 : Int64) (x8 : Int64) (x10 : Int64) (x12 : Int32) : Option (Int64 × HS) := (f_X3_missOf_f_85 k17 h x2 x4 x6 x8 x10 x12 100)
def f_X3_missOf_f_17 : Nat → HS → Int64 → Int64 → Int64 → Int64 → Int64 → Int32 → Option (Int64 × HS)
  | 0, _, _, _, _, _, _, _ => none
  | n + 1, h, x2, x4, x6, x8, x10, x12 => (if (eI h 8 8) ≤ x12 then (f_X3_missOf_f_158 h x2 x4 x6 x8 x10) else (if 3 ≤ x12 then (f_X3_missOf_f_158 h x2 x4 x6 x8 x10) else (if 0 ≤ (x12).toInt ∧ (x12).toInt < 3 then (if 0 ≤ (x12).toInt ∧ (x12).toInt < 3 then (if 0 ≤ (x12).toInt ∧ (x12).toInt < 3 then (if ((((((eA h 8 3) ((x12).toNatClampNeg)) * 3) + ((eA h 8 4) ((x12).toNatClampNeg))) * 5) + ((eA h 8 5) ((x12).toNatClampNeg))) < 0 then (f_X3_missOf_f_83 (f_X3_missOf_f_17 n) h x2 x4 x6 x8 x10 x12) else (if 150 ≤ ((((((eA h 8 3) ((x12).toNatClampNeg)) * 3) + ((eA h 8 4) ((x12).toNatClampNeg))) * 5) + ((eA h 8 5) ((x12).toNatClampNeg))) then (f_X3_missOf_f_83 (f_X3_missOf_f_17 n) h x2 x4 x6 x8 x10 x12) else (if 0 ≤ (((((((eA h 8 3) ((x12).toNatClampNeg)) * 3) + ((eA h 8 4) ((x12).toNatClampNeg))) * 5) + ((eA h 8 5) ((x12).toNatClampNeg)))).toInt ∧ (((((((eA h 8 3) ((x12).toNatClampNeg)) * 3) + ((eA h 8 4) ((x12).toNatClampNeg))) * 5) + ((eA h 8 5) ((x12).toNatClampNeg)))).toInt < 150 then (f_X3_missOf_f_85 (f_X3_missOf_f_17 n) h x2 x4 x6 x8 x10 x12 (100 - ((eA h 8 0) ((((((((eA h 8 3) ((x12).toNatClampNeg)) * 3) + ((eA h 8 4) ((x12).toNatClampNeg))) * 5) + ((eA h 8 5) ((x12).toNatClampNeg)))).toNatClampNeg)))) else none))) else none) else none) else none)))
theorem f_X3_missOf_f_17_s (n : Nat) (h : HS) (x2 : Int64) (x4 : Int64) (x6 : Int64) (x8 : Int64) (x10 : Int64) (x12 : Int32) : f_X3_missOf_f_17 (n + 1) h x2 x4 x6 x8 x10 x12 = (if (eI h 8 8) ≤ x12 then (f_X3_missOf_f_158 h x2 x4 x6 x8 x10) else (if 3 ≤ x12 then (f_X3_missOf_f_158 h x2 x4 x6 x8 x10) else (if 0 ≤ (x12).toInt ∧ (x12).toInt < 3 then (if 0 ≤ (x12).toInt ∧ (x12).toInt < 3 then (if 0 ≤ (x12).toInt ∧ (x12).toInt < 3 then (if ((((((eA h 8 3) ((x12).toNatClampNeg)) * 3) + ((eA h 8 4) ((x12).toNatClampNeg))) * 5) + ((eA h 8 5) ((x12).toNatClampNeg))) < 0 then (f_X3_missOf_f_83 (f_X3_missOf_f_17 n) h x2 x4 x6 x8 x10 x12) else (if 150 ≤ ((((((eA h 8 3) ((x12).toNatClampNeg)) * 3) + ((eA h 8 4) ((x12).toNatClampNeg))) * 5) + ((eA h 8 5) ((x12).toNatClampNeg))) then (f_X3_missOf_f_83 (f_X3_missOf_f_17 n) h x2 x4 x6 x8 x10 x12) else (if 0 ≤ (((((((eA h 8 3) ((x12).toNatClampNeg)) * 3) + ((eA h 8 4) ((x12).toNatClampNeg))) * 5) + ((eA h 8 5) ((x12).toNatClampNeg)))).toInt ∧ (((((((eA h 8 3) ((x12).toNatClampNeg)) * 3) + ((eA h 8 4) ((x12).toNatClampNeg))) * 5) + ((eA h 8 5) ((x12).toNatClampNeg)))).toInt < 150 then (f_X3_missOf_f_85 (f_X3_missOf_f_17 n) h x2 x4 x6 x8 x10 x12 (100 - ((eA h 8 0) ((((((((eA h 8 3) ((x12).toNatClampNeg)) * 3) + ((eA h 8 4) ((x12).toNatClampNeg))) * 5) + ((eA h 8 5) ((x12).toNatClampNeg)))).toNatClampNeg)))) else none))) else none) else none) else none))) := rfl
def f_X3_missOf_f (h : HS) : Option (Int64 × HS) := (f_X3_missOf_f_17 8589934592 h 1 1 1 1 1 0)
set_option maxHeartbeats 4000000 in
set_option maxRecDepth 100000 in
theorem c_X3_missOf_f (l : Launch) (G : va_G) (cI cJ cZ cB cT : ClassId) (q : Nat → Nat) (h : HS)  (rr : Int64) (hh : HS) (hF : f_X3_missOf_f h = some (rr, hh)) : gMl l yX3_missOf (gws yX3_missOf cX3_missOf 15 (some .long)) 1 G (gT cI cJ cZ cB cT) [.ref (q 23), .ref (q 24)] (wC q cI cJ cZ cB cT h) (fun x (_ : Unit) => x = rr) (fun (_ : Unit) => (wC q cI cJ cZ cB cT hh)) := by
  intro sz
  refine gM_start (y := yX3_missOf) (av := [.ref (q 23), .ref (q 24)]) (ws := (wC q cI cJ cZ cB cT h)) (Qf := fun A => va_Ql (fun x (_ : Unit) => x = rr) (gB G (fun (_ : Unit) => (wC q cI cJ cZ cB cT hh)) A) A) (cc := cX3_missOf) (maxL := 15) (ret := (some .long)) (by decide) (Nat.le_of_ble_eq_true rfl) ?_
  intro p e s m args below meth c A ls H hx hb hr hts hown hin hlocks hml hP hK hD hA hS hl hE
  have hl : lv_has ls 15 [(0, .ref (q 23)), (1, .ref (q 24))] := hl
  have hJ_158 : ∀ (h : HS) (x2 : Int64) (x4 : Int64) (x6 : Int64) (x8 : Int64) (x10 : Int64), f_X3_missOf_f_158 h x2 x4 x6 x8 x10 = some (rr, hh) → ∀ (H : Heap) (locs : List Loc) (ls : Array Slot), va_P G vwCl (wC q cI cJ cZ cB cT h) H → va_D A (wC q cI cJ cZ cB cT h) → va_S A s.heap H locs → lv_has ls 15 [(2, .long x2), (4, .long x4), (6, .long x6), (8, .long x8), (10, .long x10)] → W p l e (gRm 1) s m args below meth c H locs 0 0 (MQ below (va_Ql (fun x (_ : Unit) => x = rr) (gB G (fun (_ : Unit) => (wC q cI cJ cZ cB cT hh)) A) A) args s 0 0 A) (F0 m 158 ls []) := by
    intro h x2 x4 x6 x8 x10 hF H locs ls hP hD hS hl
    unfold f_X3_missOf_f_158 at hF
    refine lv_lload_n hx hb dX3_missOf_158 rfl (lv_at hl 0 rfl) ?_
    refine lv_lload hx hb dX3_missOf_159 (lv_at hl 2 rfl) ?_
    refine lv_lload hx hb dX3_missOf_161 (lv_at hl 4 rfl) ?_
    refine lv_lmul hx hb dX3_missOf_163 ?_
    refine lv_lload hx hb dX3_missOf_164 (lv_at hl 2 rfl) ?_
    refine lv_lload hx hb dX3_missOf_166 (lv_at hl 1 rfl) ?_
    refine lv_lsub hx hb dX3_missOf_168 ?_
    refine lv_lload hx hb dX3_missOf_169 (lv_at hl 4 rfl) ?_
    refine lv_lload hx hb dX3_missOf_171 (lv_at hl 3 rfl) ?_
    refine lv_lsub hx hb dX3_missOf_173 ?_
    refine lv_lmul hx hb dX3_missOf_174 ?_
    refine lv_lsub hx hb dX3_missOf_175 ?_
    refine lv_lmul hx hb dX3_missOf_176 ?_
    obtain ⟨rfl, rfl⟩ := ob_pair hF
    exact gw_lret () hx hb hr hlocks hP hD hS rfl dX3_missOf_177
  have hJ_17 : ∀ (n_17 : Nat) (h : HS) (x2 : Int64) (x4 : Int64) (x6 : Int64) (x8 : Int64) (x10 : Int64) (x12 : Int32), f_X3_missOf_f_17 n_17 h x2 x4 x6 x8 x10 x12 = some (rr, hh) → ∀ (H : Heap) (locs : List Loc) (ls : Array Slot), va_P G vwCl (wC q cI cJ cZ cB cT h) H → va_D A (wC q cI cJ cZ cB cT h) → va_S A s.heap H locs → lv_has ls 15 [(0, .ref (q 23)), (1, .ref (q 24)), (2, .long x2), (4, .long x4), (6, .long x6), (8, .long x8), (10, .long x10), (12, .int x12)] → W p l e (gRm 1) s m args below meth c H locs 0 0 (MQ below (va_Ql (fun x (_ : Unit) => x = rr) (gB G (fun (_ : Unit) => (wC q cI cJ cZ cB cT hh)) A) A) args s 0 0 A) (F0 m 17 ls []) := by
    intro n_17
    induction n_17 with
    | zero =>
      intro h x2 x4 x6 x8 x10 x12 hF
      exact absurd hF (by simp [f_X3_missOf_f_17])
    | succ n_17 ih_17 =>
      have hJ_152 : ∀ (h : HS) (x2 : Int64) (x4 : Int64) (x6 : Int64) (x8 : Int64) (x10 : Int64) (x12 : Int32), f_X3_missOf_f_152 (f_X3_missOf_f_17 n_17) h x2 x4 x6 x8 x10 x12 = some (rr, hh) → ∀ (H : Heap) (locs : List Loc) (ls : Array Slot), va_P G vwCl (wC q cI cJ cZ cB cT h) H → va_D A (wC q cI cJ cZ cB cT h) → va_S A s.heap H locs → lv_has ls 15 [(0, .ref (q 23)), (1, .ref (q 24)), (2, .long x2), (4, .long x4), (6, .long x6), (8, .long x8), (10, .long x10), (12, .int x12)] → W p l e (gRm 1) s m args below meth c H locs 0 0 (MQ below (va_Ql (fun x (_ : Unit) => x = rr) (gB G (fun (_ : Unit) => (wC q cI cJ cZ cB cT hh)) A) A) args s 0 0 A) (F0 m 152 ls []) := by
        intro h x2 x4 x6 x8 x10 x12 hF H locs ls hP hD hS hl
        unfold f_X3_missOf_f_152 at hF
        refine lv_iinc (v := (x12 + 1)) (lv' := [(12, .int (x12 + 1)), (0, .ref (q 23)), (1, .ref (q 24)), (2, .long x2), (4, .long x4), (6, .long x6), (8, .long x8), (10, .long x10)]) hx hb dX3_missOf_152 hl (k := 7) rfl rfl (by decide) rfl (fun ls hl => ?_)
        refine lv_goto (tgt := 17) hx hb dX3_missOf_155 (by decide) ?_
        exact ih_17 h x2 x4 x6 x8 x10 (x12 + 1) hF H _ ls hP hD hS (lv_sub hl [1, 2, 3, 4, 5, 6, 7, 0] rfl)
      have hJ_85 : ∀ (h : HS) (x2 : Int64) (x4 : Int64) (x6 : Int64) (x8 : Int64) (x10 : Int64) (x12 : Int32) (y0 : Int32), f_X3_missOf_f_85 (f_X3_missOf_f_17 n_17) h x2 x4 x6 x8 x10 x12 y0 = some (rr, hh) → ∀ (H : Heap) (locs : List Loc) (ls : Array Slot), va_P G vwCl (wC q cI cJ cZ cB cT h) H → va_D A (wC q cI cJ cZ cB cT h) → va_S A s.heap H locs → lv_has ls 15 [(0, .ref (q 23)), (1, .ref (q 24)), (2, .long x2), (4, .long x4), (6, .long x6), (8, .long x8), (10, .long x10), (12, .int x12)] → W p l e (gRm 1) s m args below meth c H locs 0 0 (MQ below (va_Ql (fun x (_ : Unit) => x = rr) (gB G (fun (_ : Unit) => (wC q cI cJ cZ cB cT hh)) A) A) args s 0 0 A) (F0 m 85 ls [.int y0]) := by
        intro h x2 x4 x6 x8 x10 x12 y0 hF H locs ls hP hD hS hl
        unfold f_X3_missOf_f_85 at hF
        refine lv_istore (lv' := [(14, .int y0), (0, .ref (q 23)), (1, .ref (q 24)), (2, .long x2), (4, .long x4), (6, .long x6), (8, .long x8), (10, .long x10), (12, .int x12)]) hx hb dX3_missOf_85 hl (by decide) rfl (fun ls hl => ?_)
        refine lv_aload_n hx hb dX3_missOf_87 rfl (lv_at hl 1 rfl) ?_
        refine va_get (D := G) (ci := 3) (v := .ref (q 28)) (C := RX3) (T := TX3) (N := 16) hx hb hts iX3 hown hK hP 23 wC_at23 rfl 4 (by decide) (hts _ m_480) (fun _ h9 => h9) rfl dX3_missOf_88 ?_
        refine lv_iload hx hb dX3_missOf_91 (lv_at hl 8 rfl) ?_
        obtain ⟨hi_9, hF⟩ := ob_if hF
        refine va_iald (D := G) hx hb hK hP 28 0 wC_at28 rfl (vp_in_iff.mpr hi_9) dX3_missOf_93 ?_
        refine gw_topi (y := ((eA h 8 4) ((x12).toNatClampNeg))) rfl ?_
        refine lv_if_ne (tgt := 106) hx hb dX3_missOf_94 (by decide) (fun c_10 => ?_) (fun c_10 => ?_)
        · have hF := ob_neg c_10 hF
          refine lv_aload_n hx hb dX3_missOf_106 rfl (lv_at hl 1 rfl) ?_
          refine va_get (D := G) (ci := 3) (v := .ref (q 28)) (C := RX3) (T := TX3) (N := 16) hx hb hts iX3 hown hK hP 23 wC_at23 rfl 4 (by decide) (hts _ m_480) (fun _ h9 => h9) rfl dX3_missOf_107 ?_
          refine lv_iload hx hb dX3_missOf_110 (lv_at hl 8 rfl) ?_
          obtain ⟨hi_11, hF⟩ := ob_if hF
          refine va_iald (D := G) hx hb hK hP 28 0 wC_at28 rfl (vp_in_iff.mpr hi_11) dX3_missOf_112 ?_
          refine gw_topi (y := ((eA h 8 4) ((x12).toNatClampNeg))) rfl ?_
          refine lv_iconst (v := 1) hx hb dX3_missOf_113 (by decide) ?_
          refine lv_icmp_ne (tgt := 136) hx hb dX3_missOf_114 (by decide) (fun c_12 => ?_) (fun c_12 => ?_)
          · have hF := ob_neg c_12 hF
            refine lv_lload hx hb dX3_missOf_136 (lv_at hl 6 rfl) ?_
            refine lv_iload hx hb dX3_missOf_138 (lv_at hl 0 rfl) ?_
            refine lv_i2l (v := (y0).toInt64) hx hb dX3_missOf_140 rfl ?_
            refine lv_lmul hx hb dX3_missOf_141 ?_
            refine lv_lstore (lv' := [(8, .long (x8 * ((y0).toInt64))), (14, .int y0), (0, .ref (q 23)), (1, .ref (q 24)), (2, .long x2), (4, .long x4), (6, .long x6), (10, .long x10), (12, .int x12)]) hx hb dX3_missOf_142 hl (by decide) rfl (fun ls hl => ?_)
            refine lv_lload hx hb dX3_missOf_144 (lv_at hl 7 rfl) ?_
            refine lv_ldc2 (v := 100) hx hb hown (hts _ m_469) dX3_missOf_146 ?_
            refine lv_lmul hx hb dX3_missOf_149 ?_
            refine lv_lstore (lv' := [(10, .long (x10 * 100)), (8, .long (x8 * ((y0).toInt64))), (14, .int y0), (0, .ref (q 23)), (1, .ref (q 24)), (2, .long x2), (4, .long x4), (6, .long x6), (12, .int x12)]) hx hb dX3_missOf_150 hl (by decide) rfl (fun ls hl => ?_)
            exact hJ_152 h x2 x4 x6 (x8 * ((y0).toInt64)) (x10 * 100) x12 hF H _ ls hP hD hS (lv_sub hl [3, 4, 5, 6, 7, 1, 0, 8] rfl)
          · have hF := ob_pos c_12 hF
            refine lv_lload hx hb dX3_missOf_117 (lv_at hl 4 rfl) ?_
            refine lv_iload hx hb dX3_missOf_119 (lv_at hl 0 rfl) ?_
            refine lv_i2l (v := (y0).toInt64) hx hb dX3_missOf_121 rfl ?_
            refine lv_lmul hx hb dX3_missOf_122 ?_
            refine lv_lstore (lv' := [(4, .long (x4 * ((y0).toInt64))), (14, .int y0), (0, .ref (q 23)), (1, .ref (q 24)), (2, .long x2), (6, .long x6), (8, .long x8), (10, .long x10), (12, .int x12)]) hx hb dX3_missOf_123 hl (by decide) rfl (fun ls hl => ?_)
            refine lv_lload hx hb dX3_missOf_125 (lv_at hl 5 rfl) ?_
            refine lv_ldc2 (v := 100) hx hb hown (hts _ m_469) dX3_missOf_127 ?_
            refine lv_lmul hx hb dX3_missOf_130 ?_
            refine lv_lstore (lv' := [(6, .long (x6 * 100)), (4, .long (x4 * ((y0).toInt64))), (14, .int y0), (0, .ref (q 23)), (1, .ref (q 24)), (2, .long x2), (8, .long x8), (10, .long x10), (12, .int x12)]) hx hb dX3_missOf_131 hl (by decide) rfl (fun ls hl => ?_)
            refine lv_goto (tgt := 152) hx hb dX3_missOf_133 (by decide) ?_
            exact hJ_152 h x2 (x4 * ((y0).toInt64)) (x6 * 100) x8 x10 x12 hF H _ ls hP hD hS (lv_sub hl [3, 4, 5, 1, 0, 6, 7, 8] rfl)
        · have hF := ob_pos c_10 hF
          refine lv_lload_n hx hb dX3_missOf_97 rfl (lv_at hl 3 rfl) ?_
          refine lv_iload hx hb dX3_missOf_98 (lv_at hl 0 rfl) ?_
          refine lv_i2l (v := (y0).toInt64) hx hb dX3_missOf_100 rfl ?_
          refine lv_lmul hx hb dX3_missOf_101 ?_
          refine lv_lstore_n (lv' := [(2, .long (x2 * ((y0).toInt64))), (14, .int y0), (0, .ref (q 23)), (1, .ref (q 24)), (4, .long x4), (6, .long x6), (8, .long x8), (10, .long x10), (12, .int x12)]) hx hb dX3_missOf_102 rfl hl (by decide) rfl (fun ls hl => ?_)
          refine lv_goto (tgt := 152) hx hb dX3_missOf_103 (by decide) ?_
          exact hJ_152 h (x2 * ((y0).toInt64)) x4 x6 x8 x10 x12 hF H _ ls hP hD hS (lv_sub hl [2, 3, 0, 4, 5, 6, 7, 8] rfl)
      have hJ_83 : ∀ (h : HS) (x2 : Int64) (x4 : Int64) (x6 : Int64) (x8 : Int64) (x10 : Int64) (x12 : Int32), f_X3_missOf_f_83 (f_X3_missOf_f_17 n_17) h x2 x4 x6 x8 x10 x12 = some (rr, hh) → ∀ (H : Heap) (locs : List Loc) (ls : Array Slot), va_P G vwCl (wC q cI cJ cZ cB cT h) H → va_D A (wC q cI cJ cZ cB cT h) → va_S A s.heap H locs → lv_has ls 15 [(0, .ref (q 23)), (1, .ref (q 24)), (2, .long x2), (4, .long x4), (6, .long x6), (8, .long x8), (10, .long x10), (12, .int x12)] → W p l e (gRm 1) s m args below meth c H locs 0 0 (MQ below (va_Ql (fun x (_ : Unit) => x = rr) (gB G (fun (_ : Unit) => (wC q cI cJ cZ cB cT hh)) A) A) args s 0 0 A) (F0 m 83 ls []) := by
        intro h x2 x4 x6 x8 x10 x12 hF H locs ls hP hD hS hl
        unfold f_X3_missOf_f_83 at hF
        refine lv_bipush (v := 100) hx hb dX3_missOf_83 (by decide) ?_
        exact hJ_85 h x2 x4 x6 x8 x10 x12 100 hF H _ ls hP hD hS (lv_sub hl [0, 1, 2, 3, 4, 5, 6, 7] rfl)
      intro h x2 x4 x6 x8 x10 x12 hF H locs ls hP hD hS hl
      rw [f_X3_missOf_f_17_s] at hF
      refine lv_iload hx hb dX3_missOf_17 (lv_at hl 7 rfl) ?_
      refine lv_aload_n hx hb dX3_missOf_19 rfl (lv_at hl 0 rfl) ?_
      refine va_get (D := G) (ci := 3) (v := .int (eI h 8 8)) (C := RX3) (T := TX3) (N := 16) hx hb hts iX3 hown hK hP 23 wC_at23 rfl 8 (by decide) (hts _ m_475) (fun _ h9 => h9) rfl dX3_missOf_20 ?_
      refine lv_icmp_ge (tgt := 158) hx hb dX3_missOf_23 (by decide) (fun c_1 => ?_) (fun c_1 => ?_)
      · have hF := ob_pos c_1 hF
        exact hJ_158 h x2 x4 x6 x8 x10 hF H _ ls hP hD hS (lv_sub hl [2, 3, 4, 5, 6] rfl)
      · have hF := ob_neg c_1 hF
        refine lv_iload hx hb dX3_missOf_26 (lv_at hl 7 rfl) ?_
        refine lv_iconst (v := 3) hx hb dX3_missOf_28 (by decide) ?_
        refine lv_icmp_ge (tgt := 158) hx hb dX3_missOf_29 (by decide) (fun c_2 => ?_) (fun c_2 => ?_)
        · have hF := ob_pos c_2 hF
          exact hJ_158 h x2 x4 x6 x8 x10 hF H _ ls hP hD hS (lv_sub hl [2, 3, 4, 5, 6] rfl)
        · have hF := ob_neg c_2 hF
          refine lv_aload_n hx hb dX3_missOf_32 rfl (lv_at hl 0 rfl) ?_
          refine va_get (D := G) (ci := 3) (v := .ref (q 27)) (C := RX3) (T := TX3) (N := 16) hx hb hts iX3 hown hK hP 23 wC_at23 rfl 3 (by decide) (hts _ m_477) (fun _ h9 => h9) rfl dX3_missOf_33 ?_
          refine lv_iload hx hb dX3_missOf_36 (lv_at hl 7 rfl) ?_
          obtain ⟨hi_3, hF⟩ := ob_if hF
          refine va_iald (D := G) hx hb hK hP 27 0 wC_at27 rfl (vp_in_iff.mpr hi_3) dX3_missOf_38 ?_
          refine gw_topi (y := ((eA h 8 3) ((x12).toNatClampNeg))) rfl ?_
          refine lv_iconst (v := 3) hx hb dX3_missOf_39 (by decide) ?_
          refine lv_imul hx hb dX3_missOf_40 ?_
          refine lv_aload_n hx hb dX3_missOf_41 rfl (lv_at hl 0 rfl) ?_
          refine va_get (D := G) (ci := 3) (v := .ref (q 28)) (C := RX3) (T := TX3) (N := 16) hx hb hts iX3 hown hK hP 23 wC_at23 rfl 4 (by decide) (hts _ m_480) (fun _ h9 => h9) rfl dX3_missOf_42 ?_
          refine lv_iload hx hb dX3_missOf_45 (lv_at hl 7 rfl) ?_
          obtain ⟨hi_4, hF⟩ := ob_if hF
          refine va_iald (D := G) hx hb hK hP 28 0 wC_at28 rfl (vp_in_iff.mpr hi_4) dX3_missOf_47 ?_
          refine gw_topi (y := ((eA h 8 4) ((x12).toNatClampNeg))) rfl ?_
          refine lv_iadd hx hb dX3_missOf_48 ?_
          refine lv_iconst (v := 5) hx hb dX3_missOf_49 (by decide) ?_
          refine lv_imul hx hb dX3_missOf_50 ?_
          refine lv_aload_n hx hb dX3_missOf_51 rfl (lv_at hl 0 rfl) ?_
          refine va_get (D := G) (ci := 3) (v := .ref (q 29)) (C := RX3) (T := TX3) (N := 16) hx hb hts iX3 hown hK hP 23 wC_at23 rfl 5 (by decide) (hts _ m_479) (fun _ h9 => h9) rfl dX3_missOf_52 ?_
          refine lv_iload hx hb dX3_missOf_55 (lv_at hl 7 rfl) ?_
          obtain ⟨hi_5, hF⟩ := ob_if hF
          refine va_iald (D := G) hx hb hK hP 29 0 wC_at29 rfl (vp_in_iff.mpr hi_5) dX3_missOf_57 ?_
          refine gw_topi (y := ((eA h 8 5) ((x12).toNatClampNeg))) rfl ?_
          refine lv_iadd hx hb dX3_missOf_58 ?_
          refine lv_istore (lv' := [(13, .int ((((((eA h 8 3) ((x12).toNatClampNeg)) * 3) + ((eA h 8 4) ((x12).toNatClampNeg))) * 5) + ((eA h 8 5) ((x12).toNatClampNeg)))), (0, .ref (q 23)), (1, .ref (q 24)), (2, .long x2), (4, .long x4), (6, .long x6), (8, .long x8), (10, .long x10), (12, .int x12)]) hx hb dX3_missOf_59 hl (by decide) rfl (fun ls hl => ?_)
          refine lv_iload hx hb dX3_missOf_61 (lv_at hl 0 rfl) ?_
          refine lv_if_lt (tgt := 83) hx hb dX3_missOf_63 (by decide) (fun c_6 => ?_) (fun c_6 => ?_)
          · have hF := ob_pos c_6 hF
            exact hJ_83 h x2 x4 x6 x8 x10 x12 hF H _ ls hP hD hS (lv_sub hl [1, 2, 3, 4, 5, 6, 7, 8] rfl)
          · have hF := ob_neg c_6 hF
            refine lv_iload hx hb dX3_missOf_66 (lv_at hl 0 rfl) ?_
            refine lv_aload_n hx hb dX3_missOf_68 rfl (lv_at hl 2 rfl) ?_
            refine va_alen (D := G) hx hb hK hP 24 0 wC_at24 rfl (v := 150) rfl dX3_missOf_69 ?_
            refine lv_icmp_ge (tgt := 83) hx hb dX3_missOf_70 (by decide) (fun c_7 => ?_) (fun c_7 => ?_)
            · have hF := ob_pos c_7 hF
              exact hJ_83 h x2 x4 x6 x8 x10 x12 hF H _ ls hP hD hS (lv_sub hl [1, 2, 3, 4, 5, 6, 7, 8] rfl)
            · have hF := ob_neg c_7 hF
              refine lv_bipush (v := 100) hx hb dX3_missOf_73 (by decide) ?_
              refine lv_aload_n hx hb dX3_missOf_75 rfl (lv_at hl 2 rfl) ?_
              refine lv_iload hx hb dX3_missOf_76 (lv_at hl 0 rfl) ?_
              obtain ⟨hi_8, hF⟩ := ob_if hF
              refine va_iald (D := G) hx hb hK hP 24 0 wC_at24 rfl (vp_in_iff.mpr hi_8) dX3_missOf_78 ?_
              refine gw_topi (y := ((eA h 8 0) ((((((((eA h 8 3) ((x12).toNatClampNeg)) * 3) + ((eA h 8 4) ((x12).toNatClampNeg))) * 5) + ((eA h 8 5) ((x12).toNatClampNeg)))).toNatClampNeg))) rfl ?_
              refine lv_isub hx hb dX3_missOf_79 ?_
              refine lv_goto (tgt := 85) hx hb dX3_missOf_80 (by decide) ?_
              exact hJ_85 h x2 x4 x6 x8 x10 x12 (100 - ((eA h 8 0) ((((((((eA h 8 3) ((x12).toNatClampNeg)) * 3) + ((eA h 8 4) ((x12).toNatClampNeg))) * 5) + ((eA h 8 5) ((x12).toNatClampNeg)))).toNatClampNeg))) hF H _ ls hP hD hS (lv_sub hl [1, 2, 3, 4, 5, 6, 7, 8] rfl)
  unfold f_X3_missOf_f at hF
  refine lv_lconst (v := 1) hx hb dX3_missOf_0 (by decide) ?_
  refine lv_lstore_n (lv' := [(2, .long 1), (0, .ref (q 23)), (1, .ref (q 24))]) hx hb dX3_missOf_1 rfl hl (by decide) rfl (fun ls hl => ?_)
  refine lv_lconst (v := 1) hx hb dX3_missOf_2 (by decide) ?_
  refine lv_lstore (lv' := [(4, .long 1), (2, .long 1), (0, .ref (q 23)), (1, .ref (q 24))]) hx hb dX3_missOf_3 hl (by decide) rfl (fun ls hl => ?_)
  refine lv_lconst (v := 1) hx hb dX3_missOf_5 (by decide) ?_
  refine lv_lstore (lv' := [(6, .long 1), (4, .long 1), (2, .long 1), (0, .ref (q 23)), (1, .ref (q 24))]) hx hb dX3_missOf_6 hl (by decide) rfl (fun ls hl => ?_)
  refine lv_lconst (v := 1) hx hb dX3_missOf_8 (by decide) ?_
  refine lv_lstore (lv' := [(8, .long 1), (6, .long 1), (4, .long 1), (2, .long 1), (0, .ref (q 23)), (1, .ref (q 24))]) hx hb dX3_missOf_9 hl (by decide) rfl (fun ls hl => ?_)
  refine lv_lconst (v := 1) hx hb dX3_missOf_11 (by decide) ?_
  refine lv_lstore (lv' := [(10, .long 1), (8, .long 1), (6, .long 1), (4, .long 1), (2, .long 1), (0, .ref (q 23)), (1, .ref (q 24))]) hx hb dX3_missOf_12 hl (by decide) rfl (fun ls hl => ?_)
  refine lv_iconst (v := 0) hx hb dX3_missOf_14 (by decide) ?_
  refine lv_istore (lv' := [(12, .int 0), (10, .long 1), (8, .long 1), (6, .long 1), (4, .long 1), (2, .long 1), (0, .ref (q 23)), (1, .ref (q 24))]) hx hb dX3_missOf_15 hl (by decide) rfl (fun ls hl => ?_)
  exact hJ_17 8589934592 h 1 1 1 1 1 0 hF H _ ls hP hD hS (lv_sub hl [6, 7, 5, 4, 3, 2, 1, 0] rfl)
def f_X3_missOf_r_158 (h : HS) (x2 : Int64) (x4 : Int64) (x6 : Int64) (x8 : Int64) (x10 : Int64) : Option (Int64 × HS) := (some ((x2 * ((x6 * x10) - ((x6 - x4) * (x10 - x8)))), h))
def f_X3_missOf_r_152 (k17 : HS → Int64 → Int64 → Int64 → Int64 → Int64 → Int32 → Option (Int64 × HS)) (h : HS) (x2 : Int64) (x4 : Int64) (x6 : Int64) (x8 : Int64) (x10 : Int64) (x12 : Int32) : Option (Int64 × HS) := (k17 h x2 x4 x6 x8 x10 (x12 + 1))
def f_X3_missOf_r_85 (k17 : HS → Int64 → Int64 → Int64 → Int64 → Int64 → Int32 → Option (Int64 × HS)) (h : HS) (x2 : Int64) (x4 : Int64) (x6 : Int64) (x8 : Int64) (x10 : Int64) (x12 : Int32) (y0 : Int32) : Option (Int64 × HS) := (if 0 ≤ (x12).toInt ∧ (x12).toInt < 3 then (if ((eA h 8 4) ((x12).toNatClampNeg)) = 0 then (f_X3_missOf_r_152 k17 h (x2 * ((y0).toInt64)) x4 x6 x8 x10 x12) else (if 0 ≤ (x12).toInt ∧ (x12).toInt < 3 then (if ((eA h 8 4) ((x12).toNatClampNeg)) = 1 then (f_X3_missOf_r_152 k17 h x2 (x4 * ((y0).toInt64)) (x6 * 100) x8 x10 x12) else (f_X3_missOf_r_152 k17 h x2 x4 x6 (x8 * ((y0).toInt64)) (x10 * 100) x12)) else none)) else none)
def f_X3_missOf_r_83 (k17 : HS → Int64 → Int64 → Int64 → Int64 → Int64 → Int32 → Option (Int64 × HS)) (h : HS) (x2 : Int64) (x4 : Int64) (x6 : Int64) (x8 : Int64) (x10 : Int64) (x12 : Int32) : Option (Int64 × HS) := (f_X3_missOf_r_85 k17 h x2 x4 x6 x8 x10 x12 100)
def f_X3_missOf_r_17 : Nat → HS → Int64 → Int64 → Int64 → Int64 → Int64 → Int32 → Option (Int64 × HS)
  | 0, _, _, _, _, _, _, _ => none
  | n + 1, h, x2, x4, x6, x8, x10, x12 => (if (eI h 8 8) ≤ x12 then (f_X3_missOf_r_158 h x2 x4 x6 x8 x10) else (if 3 ≤ x12 then (f_X3_missOf_r_158 h x2 x4 x6 x8 x10) else (if 0 ≤ (x12).toInt ∧ (x12).toInt < 3 then (if 0 ≤ (x12).toInt ∧ (x12).toInt < 3 then (if 0 ≤ (x12).toInt ∧ (x12).toInt < 3 then (if ((((((eA h 8 3) ((x12).toNatClampNeg)) * 3) + ((eA h 8 4) ((x12).toNatClampNeg))) * 5) + ((eA h 8 5) ((x12).toNatClampNeg))) < 0 then (f_X3_missOf_r_83 (f_X3_missOf_r_17 n) h x2 x4 x6 x8 x10 x12) else (if 150 ≤ ((((((eA h 8 3) ((x12).toNatClampNeg)) * 3) + ((eA h 8 4) ((x12).toNatClampNeg))) * 5) + ((eA h 8 5) ((x12).toNatClampNeg))) then (f_X3_missOf_r_83 (f_X3_missOf_r_17 n) h x2 x4 x6 x8 x10 x12) else (if 0 ≤ (((((((eA h 8 3) ((x12).toNatClampNeg)) * 3) + ((eA h 8 4) ((x12).toNatClampNeg))) * 5) + ((eA h 8 5) ((x12).toNatClampNeg)))).toInt ∧ (((((((eA h 8 3) ((x12).toNatClampNeg)) * 3) + ((eA h 8 4) ((x12).toNatClampNeg))) * 5) + ((eA h 8 5) ((x12).toNatClampNeg)))).toInt < 150 then (f_X3_missOf_r_85 (f_X3_missOf_r_17 n) h x2 x4 x6 x8 x10 x12 (100 - ((eA h 8 1) ((((((((eA h 8 3) ((x12).toNatClampNeg)) * 3) + ((eA h 8 4) ((x12).toNatClampNeg))) * 5) + ((eA h 8 5) ((x12).toNatClampNeg)))).toNatClampNeg)))) else none))) else none) else none) else none)))
theorem f_X3_missOf_r_17_s (n : Nat) (h : HS) (x2 : Int64) (x4 : Int64) (x6 : Int64) (x8 : Int64) (x10 : Int64) (x12 : Int32) : f_X3_missOf_r_17 (n + 1) h x2 x4 x6 x8 x10 x12 = (if (eI h 8 8) ≤ x12 then (f_X3_missOf_r_158 h x2 x4 x6 x8 x10) else (if 3 ≤ x12 then (f_X3_missOf_r_158 h x2 x4 x6 x8 x10) else (if 0 ≤ (x12).toInt ∧ (x12).toInt < 3 then (if 0 ≤ (x12).toInt ∧ (x12).toInt < 3 then (if 0 ≤ (x12).toInt ∧ (x12).toInt < 3 then (if ((((((eA h 8 3) ((x12).toNatClampNeg)) * 3) + ((eA h 8 4) ((x12).toNatClampNeg))) * 5) + ((eA h 8 5) ((x12).toNatClampNeg))) < 0 then (f_X3_missOf_r_83 (f_X3_missOf_r_17 n) h x2 x4 x6 x8 x10 x12) else (if 150 ≤ ((((((eA h 8 3) ((x12).toNatClampNeg)) * 3) + ((eA h 8 4) ((x12).toNatClampNeg))) * 5) + ((eA h 8 5) ((x12).toNatClampNeg))) then (f_X3_missOf_r_83 (f_X3_missOf_r_17 n) h x2 x4 x6 x8 x10 x12) else (if 0 ≤ (((((((eA h 8 3) ((x12).toNatClampNeg)) * 3) + ((eA h 8 4) ((x12).toNatClampNeg))) * 5) + ((eA h 8 5) ((x12).toNatClampNeg)))).toInt ∧ (((((((eA h 8 3) ((x12).toNatClampNeg)) * 3) + ((eA h 8 4) ((x12).toNatClampNeg))) * 5) + ((eA h 8 5) ((x12).toNatClampNeg)))).toInt < 150 then (f_X3_missOf_r_85 (f_X3_missOf_r_17 n) h x2 x4 x6 x8 x10 x12 (100 - ((eA h 8 1) ((((((((eA h 8 3) ((x12).toNatClampNeg)) * 3) + ((eA h 8 4) ((x12).toNatClampNeg))) * 5) + ((eA h 8 5) ((x12).toNatClampNeg)))).toNatClampNeg)))) else none))) else none) else none) else none))) := rfl
def f_X3_missOf_r (h : HS) : Option (Int64 × HS) := (f_X3_missOf_r_17 8589934592 h 1 1 1 1 1 0)
set_option maxHeartbeats 4000000 in
set_option maxRecDepth 100000 in
theorem c_X3_missOf_r (l : Launch) (G : va_G) (cI cJ cZ cB cT : ClassId) (q : Nat → Nat) (h : HS)  (rr : Int64) (hh : HS) (hF : f_X3_missOf_r h = some (rr, hh)) : gMl l yX3_missOf (gws yX3_missOf cX3_missOf 15 (some .long)) 1 G (gT cI cJ cZ cB cT) [.ref (q 23), .ref (q 25)] (wC q cI cJ cZ cB cT h) (fun x (_ : Unit) => x = rr) (fun (_ : Unit) => (wC q cI cJ cZ cB cT hh)) := by
  intro sz
  refine gM_start (y := yX3_missOf) (av := [.ref (q 23), .ref (q 25)]) (ws := (wC q cI cJ cZ cB cT h)) (Qf := fun A => va_Ql (fun x (_ : Unit) => x = rr) (gB G (fun (_ : Unit) => (wC q cI cJ cZ cB cT hh)) A) A) (cc := cX3_missOf) (maxL := 15) (ret := (some .long)) (by decide) (Nat.le_of_ble_eq_true rfl) ?_
  intro p e s m args below meth c A ls H hx hb hr hts hown hin hlocks hml hP hK hD hA hS hl hE
  have hl : lv_has ls 15 [(0, .ref (q 23)), (1, .ref (q 25))] := hl
  have hJ_158 : ∀ (h : HS) (x2 : Int64) (x4 : Int64) (x6 : Int64) (x8 : Int64) (x10 : Int64), f_X3_missOf_r_158 h x2 x4 x6 x8 x10 = some (rr, hh) → ∀ (H : Heap) (locs : List Loc) (ls : Array Slot), va_P G vwCl (wC q cI cJ cZ cB cT h) H → va_D A (wC q cI cJ cZ cB cT h) → va_S A s.heap H locs → lv_has ls 15 [(2, .long x2), (4, .long x4), (6, .long x6), (8, .long x8), (10, .long x10)] → W p l e (gRm 1) s m args below meth c H locs 0 0 (MQ below (va_Ql (fun x (_ : Unit) => x = rr) (gB G (fun (_ : Unit) => (wC q cI cJ cZ cB cT hh)) A) A) args s 0 0 A) (F0 m 158 ls []) := by
    intro h x2 x4 x6 x8 x10 hF H locs ls hP hD hS hl
    unfold f_X3_missOf_r_158 at hF
    refine lv_lload_n hx hb dX3_missOf_158 rfl (lv_at hl 0 rfl) ?_
    refine lv_lload hx hb dX3_missOf_159 (lv_at hl 2 rfl) ?_
    refine lv_lload hx hb dX3_missOf_161 (lv_at hl 4 rfl) ?_
    refine lv_lmul hx hb dX3_missOf_163 ?_
    refine lv_lload hx hb dX3_missOf_164 (lv_at hl 2 rfl) ?_
    refine lv_lload hx hb dX3_missOf_166 (lv_at hl 1 rfl) ?_
    refine lv_lsub hx hb dX3_missOf_168 ?_
    refine lv_lload hx hb dX3_missOf_169 (lv_at hl 4 rfl) ?_
    refine lv_lload hx hb dX3_missOf_171 (lv_at hl 3 rfl) ?_
    refine lv_lsub hx hb dX3_missOf_173 ?_
    refine lv_lmul hx hb dX3_missOf_174 ?_
    refine lv_lsub hx hb dX3_missOf_175 ?_
    refine lv_lmul hx hb dX3_missOf_176 ?_
    obtain ⟨rfl, rfl⟩ := ob_pair hF
    exact gw_lret () hx hb hr hlocks hP hD hS rfl dX3_missOf_177
  have hJ_17 : ∀ (n_17 : Nat) (h : HS) (x2 : Int64) (x4 : Int64) (x6 : Int64) (x8 : Int64) (x10 : Int64) (x12 : Int32), f_X3_missOf_r_17 n_17 h x2 x4 x6 x8 x10 x12 = some (rr, hh) → ∀ (H : Heap) (locs : List Loc) (ls : Array Slot), va_P G vwCl (wC q cI cJ cZ cB cT h) H → va_D A (wC q cI cJ cZ cB cT h) → va_S A s.heap H locs → lv_has ls 15 [(0, .ref (q 23)), (1, .ref (q 25)), (2, .long x2), (4, .long x4), (6, .long x6), (8, .long x8), (10, .long x10), (12, .int x12)] → W p l e (gRm 1) s m args below meth c H locs 0 0 (MQ below (va_Ql (fun x (_ : Unit) => x = rr) (gB G (fun (_ : Unit) => (wC q cI cJ cZ cB cT hh)) A) A) args s 0 0 A) (F0 m 17 ls []) := by
    intro n_17
    induction n_17 with
    | zero =>
      intro h x2 x4 x6 x8 x10 x12 hF
      exact absurd hF (by simp [f_X3_missOf_r_17])
    | succ n_17 ih_17 =>
      have hJ_152 : ∀ (h : HS) (x2 : Int64) (x4 : Int64) (x6 : Int64) (x8 : Int64) (x10 : Int64) (x12 : Int32), f_X3_missOf_r_152 (f_X3_missOf_r_17 n_17) h x2 x4 x6 x8 x10 x12 = some (rr, hh) → ∀ (H : Heap) (locs : List Loc) (ls : Array Slot), va_P G vwCl (wC q cI cJ cZ cB cT h) H → va_D A (wC q cI cJ cZ cB cT h) → va_S A s.heap H locs → lv_has ls 15 [(0, .ref (q 23)), (1, .ref (q 25)), (2, .long x2), (4, .long x4), (6, .long x6), (8, .long x8), (10, .long x10), (12, .int x12)] → W p l e (gRm 1) s m args below meth c H locs 0 0 (MQ below (va_Ql (fun x (_ : Unit) => x = rr) (gB G (fun (_ : Unit) => (wC q cI cJ cZ cB cT hh)) A) A) args s 0 0 A) (F0 m 152 ls []) := by
        intro h x2 x4 x6 x8 x10 x12 hF H locs ls hP hD hS hl
        unfold f_X3_missOf_r_152 at hF
        refine lv_iinc (v := (x12 + 1)) (lv' := [(12, .int (x12 + 1)), (0, .ref (q 23)), (1, .ref (q 25)), (2, .long x2), (4, .long x4), (6, .long x6), (8, .long x8), (10, .long x10)]) hx hb dX3_missOf_152 hl (k := 7) rfl rfl (by decide) rfl (fun ls hl => ?_)
        refine lv_goto (tgt := 17) hx hb dX3_missOf_155 (by decide) ?_
        exact ih_17 h x2 x4 x6 x8 x10 (x12 + 1) hF H _ ls hP hD hS (lv_sub hl [1, 2, 3, 4, 5, 6, 7, 0] rfl)
      have hJ_85 : ∀ (h : HS) (x2 : Int64) (x4 : Int64) (x6 : Int64) (x8 : Int64) (x10 : Int64) (x12 : Int32) (y0 : Int32), f_X3_missOf_r_85 (f_X3_missOf_r_17 n_17) h x2 x4 x6 x8 x10 x12 y0 = some (rr, hh) → ∀ (H : Heap) (locs : List Loc) (ls : Array Slot), va_P G vwCl (wC q cI cJ cZ cB cT h) H → va_D A (wC q cI cJ cZ cB cT h) → va_S A s.heap H locs → lv_has ls 15 [(0, .ref (q 23)), (1, .ref (q 25)), (2, .long x2), (4, .long x4), (6, .long x6), (8, .long x8), (10, .long x10), (12, .int x12)] → W p l e (gRm 1) s m args below meth c H locs 0 0 (MQ below (va_Ql (fun x (_ : Unit) => x = rr) (gB G (fun (_ : Unit) => (wC q cI cJ cZ cB cT hh)) A) A) args s 0 0 A) (F0 m 85 ls [.int y0]) := by
        intro h x2 x4 x6 x8 x10 x12 y0 hF H locs ls hP hD hS hl
        unfold f_X3_missOf_r_85 at hF
        refine lv_istore (lv' := [(14, .int y0), (0, .ref (q 23)), (1, .ref (q 25)), (2, .long x2), (4, .long x4), (6, .long x6), (8, .long x8), (10, .long x10), (12, .int x12)]) hx hb dX3_missOf_85 hl (by decide) rfl (fun ls hl => ?_)
        refine lv_aload_n hx hb dX3_missOf_87 rfl (lv_at hl 1 rfl) ?_
        refine va_get (D := G) (ci := 3) (v := .ref (q 28)) (C := RX3) (T := TX3) (N := 16) hx hb hts iX3 hown hK hP 23 wC_at23 rfl 4 (by decide) (hts _ m_480) (fun _ h9 => h9) rfl dX3_missOf_88 ?_
        refine lv_iload hx hb dX3_missOf_91 (lv_at hl 8 rfl) ?_
        obtain ⟨hi_9, hF⟩ := ob_if hF
        refine va_iald (D := G) hx hb hK hP 28 0 wC_at28 rfl (vp_in_iff.mpr hi_9) dX3_missOf_93 ?_
        refine gw_topi (y := ((eA h 8 4) ((x12).toNatClampNeg))) rfl ?_
        refine lv_if_ne (tgt := 106) hx hb dX3_missOf_94 (by decide) (fun c_10 => ?_) (fun c_10 => ?_)
        · have hF := ob_neg c_10 hF
          refine lv_aload_n hx hb dX3_missOf_106 rfl (lv_at hl 1 rfl) ?_
          refine va_get (D := G) (ci := 3) (v := .ref (q 28)) (C := RX3) (T := TX3) (N := 16) hx hb hts iX3 hown hK hP 23 wC_at23 rfl 4 (by decide) (hts _ m_480) (fun _ h9 => h9) rfl dX3_missOf_107 ?_
          refine lv_iload hx hb dX3_missOf_110 (lv_at hl 8 rfl) ?_
          obtain ⟨hi_11, hF⟩ := ob_if hF
          refine va_iald (D := G) hx hb hK hP 28 0 wC_at28 rfl (vp_in_iff.mpr hi_11) dX3_missOf_112 ?_
          refine gw_topi (y := ((eA h 8 4) ((x12).toNatClampNeg))) rfl ?_
          refine lv_iconst (v := 1) hx hb dX3_missOf_113 (by decide) ?_
          refine lv_icmp_ne (tgt := 136) hx hb dX3_missOf_114 (by decide) (fun c_12 => ?_) (fun c_12 => ?_)
          · have hF := ob_neg c_12 hF
            refine lv_lload hx hb dX3_missOf_136 (lv_at hl 6 rfl) ?_
            refine lv_iload hx hb dX3_missOf_138 (lv_at hl 0 rfl) ?_
            refine lv_i2l (v := (y0).toInt64) hx hb dX3_missOf_140 rfl ?_
            refine lv_lmul hx hb dX3_missOf_141 ?_
            refine lv_lstore (lv' := [(8, .long (x8 * ((y0).toInt64))), (14, .int y0), (0, .ref (q 23)), (1, .ref (q 25)), (2, .long x2), (4, .long x4), (6, .long x6), (10, .long x10), (12, .int x12)]) hx hb dX3_missOf_142 hl (by decide) rfl (fun ls hl => ?_)
            refine lv_lload hx hb dX3_missOf_144 (lv_at hl 7 rfl) ?_
            refine lv_ldc2 (v := 100) hx hb hown (hts _ m_469) dX3_missOf_146 ?_
            refine lv_lmul hx hb dX3_missOf_149 ?_
            refine lv_lstore (lv' := [(10, .long (x10 * 100)), (8, .long (x8 * ((y0).toInt64))), (14, .int y0), (0, .ref (q 23)), (1, .ref (q 25)), (2, .long x2), (4, .long x4), (6, .long x6), (12, .int x12)]) hx hb dX3_missOf_150 hl (by decide) rfl (fun ls hl => ?_)
            exact hJ_152 h x2 x4 x6 (x8 * ((y0).toInt64)) (x10 * 100) x12 hF H _ ls hP hD hS (lv_sub hl [3, 4, 5, 6, 7, 1, 0, 8] rfl)
          · have hF := ob_pos c_12 hF
            refine lv_lload hx hb dX3_missOf_117 (lv_at hl 4 rfl) ?_
            refine lv_iload hx hb dX3_missOf_119 (lv_at hl 0 rfl) ?_
            refine lv_i2l (v := (y0).toInt64) hx hb dX3_missOf_121 rfl ?_
            refine lv_lmul hx hb dX3_missOf_122 ?_
            refine lv_lstore (lv' := [(4, .long (x4 * ((y0).toInt64))), (14, .int y0), (0, .ref (q 23)), (1, .ref (q 25)), (2, .long x2), (6, .long x6), (8, .long x8), (10, .long x10), (12, .int x12)]) hx hb dX3_missOf_123 hl (by decide) rfl (fun ls hl => ?_)
            refine lv_lload hx hb dX3_missOf_125 (lv_at hl 5 rfl) ?_
            refine lv_ldc2 (v := 100) hx hb hown (hts _ m_469) dX3_missOf_127 ?_
            refine lv_lmul hx hb dX3_missOf_130 ?_
            refine lv_lstore (lv' := [(6, .long (x6 * 100)), (4, .long (x4 * ((y0).toInt64))), (14, .int y0), (0, .ref (q 23)), (1, .ref (q 25)), (2, .long x2), (8, .long x8), (10, .long x10), (12, .int x12)]) hx hb dX3_missOf_131 hl (by decide) rfl (fun ls hl => ?_)
            refine lv_goto (tgt := 152) hx hb dX3_missOf_133 (by decide) ?_
            exact hJ_152 h x2 (x4 * ((y0).toInt64)) (x6 * 100) x8 x10 x12 hF H _ ls hP hD hS (lv_sub hl [3, 4, 5, 1, 0, 6, 7, 8] rfl)
        · have hF := ob_pos c_10 hF
          refine lv_lload_n hx hb dX3_missOf_97 rfl (lv_at hl 3 rfl) ?_
          refine lv_iload hx hb dX3_missOf_98 (lv_at hl 0 rfl) ?_
          refine lv_i2l (v := (y0).toInt64) hx hb dX3_missOf_100 rfl ?_
          refine lv_lmul hx hb dX3_missOf_101 ?_
          refine lv_lstore_n (lv' := [(2, .long (x2 * ((y0).toInt64))), (14, .int y0), (0, .ref (q 23)), (1, .ref (q 25)), (4, .long x4), (6, .long x6), (8, .long x8), (10, .long x10), (12, .int x12)]) hx hb dX3_missOf_102 rfl hl (by decide) rfl (fun ls hl => ?_)
          refine lv_goto (tgt := 152) hx hb dX3_missOf_103 (by decide) ?_
          exact hJ_152 h (x2 * ((y0).toInt64)) x4 x6 x8 x10 x12 hF H _ ls hP hD hS (lv_sub hl [2, 3, 0, 4, 5, 6, 7, 8] rfl)
      have hJ_83 : ∀ (h : HS) (x2 : Int64) (x4 : Int64) (x6 : Int64) (x8 : Int64) (x10 : Int64) (x12 : Int32), f_X3_missOf_r_83 (f_X3_missOf_r_17 n_17) h x2 x4 x6 x8 x10 x12 = some (rr, hh) → ∀ (H : Heap) (locs : List Loc) (ls : Array Slot), va_P G vwCl (wC q cI cJ cZ cB cT h) H → va_D A (wC q cI cJ cZ cB cT h) → va_S A s.heap H locs → lv_has ls 15 [(0, .ref (q 23)), (1, .ref (q 25)), (2, .long x2), (4, .long x4), (6, .long x6), (8, .long x8), (10, .long x10), (12, .int x12)] → W p l e (gRm 1) s m args below meth c H locs 0 0 (MQ below (va_Ql (fun x (_ : Unit) => x = rr) (gB G (fun (_ : Unit) => (wC q cI cJ cZ cB cT hh)) A) A) args s 0 0 A) (F0 m 83 ls []) := by
        intro h x2 x4 x6 x8 x10 x12 hF H locs ls hP hD hS hl
        unfold f_X3_missOf_r_83 at hF
        refine lv_bipush (v := 100) hx hb dX3_missOf_83 (by decide) ?_
        exact hJ_85 h x2 x4 x6 x8 x10 x12 100 hF H _ ls hP hD hS (lv_sub hl [0, 1, 2, 3, 4, 5, 6, 7] rfl)
      intro h x2 x4 x6 x8 x10 x12 hF H locs ls hP hD hS hl
      rw [f_X3_missOf_r_17_s] at hF
      refine lv_iload hx hb dX3_missOf_17 (lv_at hl 7 rfl) ?_
      refine lv_aload_n hx hb dX3_missOf_19 rfl (lv_at hl 0 rfl) ?_
      refine va_get (D := G) (ci := 3) (v := .int (eI h 8 8)) (C := RX3) (T := TX3) (N := 16) hx hb hts iX3 hown hK hP 23 wC_at23 rfl 8 (by decide) (hts _ m_475) (fun _ h9 => h9) rfl dX3_missOf_20 ?_
      refine lv_icmp_ge (tgt := 158) hx hb dX3_missOf_23 (by decide) (fun c_1 => ?_) (fun c_1 => ?_)
      · have hF := ob_pos c_1 hF
        exact hJ_158 h x2 x4 x6 x8 x10 hF H _ ls hP hD hS (lv_sub hl [2, 3, 4, 5, 6] rfl)
      · have hF := ob_neg c_1 hF
        refine lv_iload hx hb dX3_missOf_26 (lv_at hl 7 rfl) ?_
        refine lv_iconst (v := 3) hx hb dX3_missOf_28 (by decide) ?_
        refine lv_icmp_ge (tgt := 158) hx hb dX3_missOf_29 (by decide) (fun c_2 => ?_) (fun c_2 => ?_)
        · have hF := ob_pos c_2 hF
          exact hJ_158 h x2 x4 x6 x8 x10 hF H _ ls hP hD hS (lv_sub hl [2, 3, 4, 5, 6] rfl)
        · have hF := ob_neg c_2 hF
          refine lv_aload_n hx hb dX3_missOf_32 rfl (lv_at hl 0 rfl) ?_
          refine va_get (D := G) (ci := 3) (v := .ref (q 27)) (C := RX3) (T := TX3) (N := 16) hx hb hts iX3 hown hK hP 23 wC_at23 rfl 3 (by decide) (hts _ m_477) (fun _ h9 => h9) rfl dX3_missOf_33 ?_
          refine lv_iload hx hb dX3_missOf_36 (lv_at hl 7 rfl) ?_
          obtain ⟨hi_3, hF⟩ := ob_if hF
          refine va_iald (D := G) hx hb hK hP 27 0 wC_at27 rfl (vp_in_iff.mpr hi_3) dX3_missOf_38 ?_
          refine gw_topi (y := ((eA h 8 3) ((x12).toNatClampNeg))) rfl ?_
          refine lv_iconst (v := 3) hx hb dX3_missOf_39 (by decide) ?_
          refine lv_imul hx hb dX3_missOf_40 ?_
          refine lv_aload_n hx hb dX3_missOf_41 rfl (lv_at hl 0 rfl) ?_
          refine va_get (D := G) (ci := 3) (v := .ref (q 28)) (C := RX3) (T := TX3) (N := 16) hx hb hts iX3 hown hK hP 23 wC_at23 rfl 4 (by decide) (hts _ m_480) (fun _ h9 => h9) rfl dX3_missOf_42 ?_
          refine lv_iload hx hb dX3_missOf_45 (lv_at hl 7 rfl) ?_
          obtain ⟨hi_4, hF⟩ := ob_if hF
          refine va_iald (D := G) hx hb hK hP 28 0 wC_at28 rfl (vp_in_iff.mpr hi_4) dX3_missOf_47 ?_
          refine gw_topi (y := ((eA h 8 4) ((x12).toNatClampNeg))) rfl ?_
          refine lv_iadd hx hb dX3_missOf_48 ?_
          refine lv_iconst (v := 5) hx hb dX3_missOf_49 (by decide) ?_
          refine lv_imul hx hb dX3_missOf_50 ?_
          refine lv_aload_n hx hb dX3_missOf_51 rfl (lv_at hl 0 rfl) ?_
          refine va_get (D := G) (ci := 3) (v := .ref (q 29)) (C := RX3) (T := TX3) (N := 16) hx hb hts iX3 hown hK hP 23 wC_at23 rfl 5 (by decide) (hts _ m_479) (fun _ h9 => h9) rfl dX3_missOf_52 ?_
          refine lv_iload hx hb dX3_missOf_55 (lv_at hl 7 rfl) ?_
          obtain ⟨hi_5, hF⟩ := ob_if hF
          refine va_iald (D := G) hx hb hK hP 29 0 wC_at29 rfl (vp_in_iff.mpr hi_5) dX3_missOf_57 ?_
          refine gw_topi (y := ((eA h 8 5) ((x12).toNatClampNeg))) rfl ?_
          refine lv_iadd hx hb dX3_missOf_58 ?_
          refine lv_istore (lv' := [(13, .int ((((((eA h 8 3) ((x12).toNatClampNeg)) * 3) + ((eA h 8 4) ((x12).toNatClampNeg))) * 5) + ((eA h 8 5) ((x12).toNatClampNeg)))), (0, .ref (q 23)), (1, .ref (q 25)), (2, .long x2), (4, .long x4), (6, .long x6), (8, .long x8), (10, .long x10), (12, .int x12)]) hx hb dX3_missOf_59 hl (by decide) rfl (fun ls hl => ?_)
          refine lv_iload hx hb dX3_missOf_61 (lv_at hl 0 rfl) ?_
          refine lv_if_lt (tgt := 83) hx hb dX3_missOf_63 (by decide) (fun c_6 => ?_) (fun c_6 => ?_)
          · have hF := ob_pos c_6 hF
            exact hJ_83 h x2 x4 x6 x8 x10 x12 hF H _ ls hP hD hS (lv_sub hl [1, 2, 3, 4, 5, 6, 7, 8] rfl)
          · have hF := ob_neg c_6 hF
            refine lv_iload hx hb dX3_missOf_66 (lv_at hl 0 rfl) ?_
            refine lv_aload_n hx hb dX3_missOf_68 rfl (lv_at hl 2 rfl) ?_
            refine va_alen (D := G) hx hb hK hP 25 0 wC_at25 rfl (v := 150) rfl dX3_missOf_69 ?_
            refine lv_icmp_ge (tgt := 83) hx hb dX3_missOf_70 (by decide) (fun c_7 => ?_) (fun c_7 => ?_)
            · have hF := ob_pos c_7 hF
              exact hJ_83 h x2 x4 x6 x8 x10 x12 hF H _ ls hP hD hS (lv_sub hl [1, 2, 3, 4, 5, 6, 7, 8] rfl)
            · have hF := ob_neg c_7 hF
              refine lv_bipush (v := 100) hx hb dX3_missOf_73 (by decide) ?_
              refine lv_aload_n hx hb dX3_missOf_75 rfl (lv_at hl 2 rfl) ?_
              refine lv_iload hx hb dX3_missOf_76 (lv_at hl 0 rfl) ?_
              obtain ⟨hi_8, hF⟩ := ob_if hF
              refine va_iald (D := G) hx hb hK hP 25 0 wC_at25 rfl (vp_in_iff.mpr hi_8) dX3_missOf_78 ?_
              refine gw_topi (y := ((eA h 8 1) ((((((((eA h 8 3) ((x12).toNatClampNeg)) * 3) + ((eA h 8 4) ((x12).toNatClampNeg))) * 5) + ((eA h 8 5) ((x12).toNatClampNeg)))).toNatClampNeg))) rfl ?_
              refine lv_isub hx hb dX3_missOf_79 ?_
              refine lv_goto (tgt := 85) hx hb dX3_missOf_80 (by decide) ?_
              exact hJ_85 h x2 x4 x6 x8 x10 x12 (100 - ((eA h 8 1) ((((((((eA h 8 3) ((x12).toNatClampNeg)) * 3) + ((eA h 8 4) ((x12).toNatClampNeg))) * 5) + ((eA h 8 5) ((x12).toNatClampNeg)))).toNatClampNeg))) hF H _ ls hP hD hS (lv_sub hl [1, 2, 3, 4, 5, 6, 7, 8] rfl)
  unfold f_X3_missOf_r at hF
  refine lv_lconst (v := 1) hx hb dX3_missOf_0 (by decide) ?_
  refine lv_lstore_n (lv' := [(2, .long 1), (0, .ref (q 23)), (1, .ref (q 25))]) hx hb dX3_missOf_1 rfl hl (by decide) rfl (fun ls hl => ?_)
  refine lv_lconst (v := 1) hx hb dX3_missOf_2 (by decide) ?_
  refine lv_lstore (lv' := [(4, .long 1), (2, .long 1), (0, .ref (q 23)), (1, .ref (q 25))]) hx hb dX3_missOf_3 hl (by decide) rfl (fun ls hl => ?_)
  refine lv_lconst (v := 1) hx hb dX3_missOf_5 (by decide) ?_
  refine lv_lstore (lv' := [(6, .long 1), (4, .long 1), (2, .long 1), (0, .ref (q 23)), (1, .ref (q 25))]) hx hb dX3_missOf_6 hl (by decide) rfl (fun ls hl => ?_)
  refine lv_lconst (v := 1) hx hb dX3_missOf_8 (by decide) ?_
  refine lv_lstore (lv' := [(8, .long 1), (6, .long 1), (4, .long 1), (2, .long 1), (0, .ref (q 23)), (1, .ref (q 25))]) hx hb dX3_missOf_9 hl (by decide) rfl (fun ls hl => ?_)
  refine lv_lconst (v := 1) hx hb dX3_missOf_11 (by decide) ?_
  refine lv_lstore (lv' := [(10, .long 1), (8, .long 1), (6, .long 1), (4, .long 1), (2, .long 1), (0, .ref (q 23)), (1, .ref (q 25))]) hx hb dX3_missOf_12 hl (by decide) rfl (fun ls hl => ?_)
  refine lv_iconst (v := 0) hx hb dX3_missOf_14 (by decide) ?_
  refine lv_istore (lv' := [(12, .int 0), (10, .long 1), (8, .long 1), (6, .long 1), (4, .long 1), (2, .long 1), (0, .ref (q 23)), (1, .ref (q 25))]) hx hb dX3_missOf_15 hl (by decide) rfl (fun ls hl => ?_)
  exact hJ_17 8589934592 h 1 1 1 1 1 0 hF H _ ls hP hD hS (lv_sub hl [6, 7, 5, 4, 3, 2, 1, 0] rfl)
def f_X3_compare_113 (h : HS) : Option HS := (some h)
def f_X3_compare_107 (h : HS) (x1 : Int64) (x3 : Int32) : Option HS := (ob1 (f_X3_keep h x1 x3) (fun h_14 => (f_X3_compare_113 h_14)))
def f_X3_compare_75 (h : HS) (x1 : Int64) (x3 : Int32) : Option HS := (ob2 (f_X3_isBetter h x1) (fun r_9 h_9 => (if r_9 = 0 then (if (eI h_9 8 13) = 0 then (f_X3_compare_113 h_9) else (if (lg_cmp x1 (eL h_9 8 14)) = 0 then (if (eI h_9 8 15) ≤ x3 then (f_X3_compare_113 h_9) else (f_X3_compare_107 h_9 x1 x3)) else (f_X3_compare_113 h_9))) else (f_X3_compare_107 h_9 x1 x3))))
def f_X3_compare_30 : Nat → HS → Int64 → Int32 → Int32 → Option HS
  | 0, _, _, _, _ => none
  | n + 1, h, x1, x3, x4 => (if (eI h 8 8) ≤ x4 then (f_X3_compare_75 h x1 x3) else (if 3 ≤ x4 then (f_X3_compare_75 h x1 x3) else (if 0 ≤ (x4).toInt ∧ (x4).toInt < 3 then (if 0 ≤ (x4).toInt ∧ (x4).toInt < 3 then ((f_X3_compare_30 n) h x1 (((x3 * 100) + (((eA h 8 5) ((x4).toNatClampNeg)) * 10)) + ((eA h 8 4) ((x4).toNatClampNeg))) (x4 + 1)) else none) else none)))
theorem f_X3_compare_30_s (n : Nat) (h : HS) (x1 : Int64) (x3 : Int32) (x4 : Int32) : f_X3_compare_30 (n + 1) h x1 x3 x4 = (if (eI h 8 8) ≤ x4 then (f_X3_compare_75 h x1 x3) else (if 3 ≤ x4 then (f_X3_compare_75 h x1 x3) else (if 0 ≤ (x4).toInt ∧ (x4).toInt < 3 then (if 0 ≤ (x4).toInt ∧ (x4).toInt < 3 then ((f_X3_compare_30 n) h x1 (((x3 * 100) + (((eA h 8 5) ((x4).toNatClampNeg)) * 10)) + ((eA h 8 4) ((x4).toNatClampNeg))) (x4 + 1)) else none) else none))) := rfl
def f_X3_compare (h : HS) : Option HS := (ob2 (f_X3_missOf_f h) (fun r_1 h_1 => (ob2 (f_X3_isEnough h_1 r_1) (fun r_2 h_2 => (if r_2 = 0 then (some h_2) else (ob2 (f_X3_missOf_r h_2) (fun r_4 h_4 => (f_X3_compare_30 8589934592 h_4 r_4 0 0))))))))
theorem e_X3_isBetter : yX3_isBetter.cls = RX3 ∧ yX3_isBetter.cls ≠ "java/lang/invoke/MethodHandle" ∧ yX3_isBetter.cls ≠ "java/lang/invoke/VarHandle" ∧ (parseMethodDescriptor yX3_isBetter.desc).map (fun d => d.parameters.length) = some 1 := by decide +kernel
theorem e_X3_isEnough : yX3_isEnough.cls = RX3 ∧ yX3_isEnough.cls ≠ "java/lang/invoke/MethodHandle" ∧ yX3_isEnough.cls ≠ "java/lang/invoke/VarHandle" ∧ (parseMethodDescriptor yX3_isEnough.desc).map (fun d => d.parameters.length) = some 1 := by decide +kernel
theorem e_X3_keep : yX3_keep.cls = RX3 ∧ yX3_keep.cls ≠ "java/lang/invoke/MethodHandle" ∧ yX3_keep.cls ≠ "java/lang/invoke/VarHandle" ∧ (parseMethodDescriptor yX3_keep.desc).map (fun d => d.parameters.length) = some 2 := by decide +kernel
theorem e_X3_missOf : yX3_missOf.cls = RX3 ∧ yX3_missOf.cls ≠ "java/lang/invoke/MethodHandle" ∧ yX3_missOf.cls ≠ "java/lang/invoke/VarHandle" ∧ (parseMethodDescriptor yX3_missOf.desc).map (fun d => d.parameters.length) = some 1 := by decide +kernel
set_option maxHeartbeats 4000000 in
set_option maxRecDepth 100000 in
theorem c_X3_compare (l : Launch) (G : va_G) (cI cJ cZ cB cT : ClassId) (q : Nat → Nat) (h : HS)  (hh : HS) (hF : f_X3_compare h = some hh) : gMv l yX3_compare (gws yX3_compare cX3_compare 5 none) 2 G (gT cI cJ cZ cB cT) [.ref (q 23)] (wC q cI cJ cZ cB cT h) (fun (_ : Unit) => True) (fun (_ : Unit) => (wC q cI cJ cZ cB cT hh)) := by
  intro sz
  refine gM_start (y := yX3_compare) (av := [.ref (q 23)]) (ws := (wC q cI cJ cZ cB cT h)) (Qf := fun A => va_Qv (fun (_ : Unit) => True) (gB G (fun (_ : Unit) => (wC q cI cJ cZ cB cT hh)) A) A) (cc := cX3_compare) (maxL := 5) (ret := none) (by decide) (Nat.le_of_ble_eq_true rfl) ?_
  intro p e s m args below meth c A ls H hx hb hr hts hown hin hlocks hml hP hK hD hA hS hl hE
  have hl : lv_has ls 5 [(0, .ref (q 23))] := hl
  have hJ_113 : ∀ (h : HS), f_X3_compare_113 h = some hh → ∀ (H : Heap) (locs : List Loc) (ls : Array Slot), va_P G vwCl (wC q cI cJ cZ cB cT h) H → va_D A (wC q cI cJ cZ cB cT h) → va_S A s.heap H locs → lv_has ls 5 [] → W p l e (gRm 2) s m args below meth c H locs 0 0 (MQ below (va_Qv (fun (_ : Unit) => True) (gB G (fun (_ : Unit) => (wC q cI cJ cZ cB cT hh)) A) A) args s 0 0 A) (F0 m 113 ls []) := by
    intro h hF H locs ls hP hD hS hl
    unfold f_X3_compare_113 at hF
    obtain rfl := ob_one hF
    exact gw_vret () hx hb hr hlocks hP hD hS trivial dX3_compare_113
  have hJ_107 : ∀ (h : HS) (x1 : Int64) (x3 : Int32), f_X3_compare_107 h x1 x3 = some hh → ∀ (H : Heap) (locs : List Loc) (ls : Array Slot), va_P G vwCl (wC q cI cJ cZ cB cT h) H → va_D A (wC q cI cJ cZ cB cT h) → va_S A s.heap H locs → lv_has ls 5 [(0, .ref (q 23)), (1, .long x1), (3, .int x3)] → W p l e (gRm 2) s m args below meth c H locs 0 0 (MQ below (va_Qv (fun (_ : Unit) => True) (gB G (fun (_ : Unit) => (wC q cI cJ cZ cB cT hh)) A) A) args s 0 0 A) (F0 m 107 ls []) := by
    intro h x1 x3 hF H locs ls hP hD hS hl
    unfold f_X3_compare_107 at hF
    refine lv_aload_n hx hb dX3_compare_107 rfl (lv_at hl 0 rfl) ?_
    refine lv_lload_n hx hb dX3_compare_108 rfl (lv_at hl 1 rfl) ?_
    refine lv_iload_n hx hb dX3_compare_109 rfl (lv_at hl 2 rfl) ?_
    obtain ⟨h_14, e_14, hF⟩ := ob1_some hF
    refine gx_callv (gx_runV (As := [.long x1, .int x3]) (rest := []) ⟨hx, hb, hml, hown, hts⟩ (c_X3_keep l G cI cJ cZ cB cT q h x1 x3 h_14 e_14 H.size) (gG_V m_497 m_498 m_499 m_486 m_496) rfl e_X3_keep ⟨Nat.le_of_ble_eq_true rfl, Nat.le_of_ble_eq_true rfl⟩ hK hP hD hE hS hA 23 wC_at23 rfl rfl hl.1 rfl (Nat.le_of_ble_eq_true rfl) dX3_compare_110 ⟨Nat.le_refl _, Nat.le_refl _⟩) hP hD hS hA (fun u_14 H locs hw_14 hP hD hS => ?_)
    exact hJ_113 h_14 hF H _ ls hP hD hS (lv_sub hl [] rfl)
  have hJ_75 : ∀ (h : HS) (x1 : Int64) (x3 : Int32), f_X3_compare_75 h x1 x3 = some hh → ∀ (H : Heap) (locs : List Loc) (ls : Array Slot), va_P G vwCl (wC q cI cJ cZ cB cT h) H → va_D A (wC q cI cJ cZ cB cT h) → va_S A s.heap H locs → lv_has ls 5 [(0, .ref (q 23)), (1, .long x1), (3, .int x3)] → W p l e (gRm 2) s m args below meth c H locs 0 0 (MQ below (va_Qv (fun (_ : Unit) => True) (gB G (fun (_ : Unit) => (wC q cI cJ cZ cB cT hh)) A) A) args s 0 0 A) (F0 m 75 ls []) := by
    intro h x1 x3 hF H locs ls hP hD hS hl
    unfold f_X3_compare_75 at hF
    refine lv_aload_n hx hb dX3_compare_75 rfl (lv_at hl 0 rfl) ?_
    refine lv_lload_n hx hb dX3_compare_76 rfl (lv_at hl 1 rfl) ?_
    obtain ⟨r_9, h_9, e_9, hF⟩ := ob2_some hF
    refine gx_calli (gx_runV (As := [.long x1]) (rest := []) ⟨hx, hb, hml, hown, hts⟩ (c_X3_isBetter l G cI cJ cZ cB cT q h x1 r_9 h_9 e_9 H.size) (gG_V m_493 m_494 m_495 m_486 m_492) rfl e_X3_isBetter ⟨Nat.le_of_ble_eq_true rfl, Nat.le_of_ble_eq_true rfl⟩ hK hP hD hE hS hA 23 wC_at23 rfl rfl hl.1 rfl (Nat.le_of_ble_eq_true rfl) dX3_compare_77 ⟨Nat.le_refl _, Nat.le_refl _⟩) hP hD hS hA (fun x_9 u_9 H locs hw_9 hP hD hS => ?_)
    subst x_9
    refine lv_if_ne (tgt := 107) hx hb dX3_compare_80 (by decide) (fun c_10 => ?_) (fun c_10 => ?_)
    · have hF := ob_neg c_10 hF
      exact hJ_107 h_9 x1 x3 hF H _ ls hP hD hS (lv_sub hl [0, 1, 2] rfl)
    · have hF := ob_pos c_10 hF
      refine lv_aload_n hx hb dX3_compare_83 rfl (lv_at hl 0 rfl) ?_
      refine va_get (D := G) (ci := 3) (v := .int (eI h_9 8 13)) (C := RX3) (T := TX3) (N := 16) hx hb hts iX3 hown hK hP 23 wC_at23 rfl 13 (by decide) (hts _ m_473) (fun _ h9 => h9) rfl dX3_compare_84 ?_
      refine lv_if_eq (tgt := 113) hx hb dX3_compare_87 (by decide) (fun c_11 => ?_) (fun c_11 => ?_)
      · have hF := ob_pos c_11 hF
        exact hJ_113 h_9 hF H _ ls hP hD hS (lv_sub hl [] rfl)
      · have hF := ob_neg c_11 hF
        refine lv_lload_n hx hb dX3_compare_90 rfl (lv_at hl 1 rfl) ?_
        refine lv_aload_n hx hb dX3_compare_91 rfl (lv_at hl 0 rfl) ?_
        refine va_get (D := G) (ci := 3) (v := .long (eL h_9 8 14)) (C := RX3) (T := TX3) (N := 16) hx hb hts iX3 hown hK hP 23 wC_at23 rfl 14 (by decide) (hts _ m_472) (fun _ h9 => h9) rfl dX3_compare_92 ?_
        refine W.lcmp hx hb dX3_compare_95 ?_
        refine lv_if_ne (tgt := 113) hx hb dX3_compare_96 (by decide) (fun c_12 => ?_) (fun c_12 => ?_)
        · have hF := ob_neg c_12 hF
          exact hJ_113 h_9 hF H _ ls hP hD hS (lv_sub hl [] rfl)
        · have hF := ob_pos c_12 hF
          refine lv_iload_n hx hb dX3_compare_99 rfl (lv_at hl 2 rfl) ?_
          refine lv_aload_n hx hb dX3_compare_100 rfl (lv_at hl 0 rfl) ?_
          refine va_get (D := G) (ci := 3) (v := .int (eI h_9 8 15)) (C := RX3) (T := TX3) (N := 16) hx hb hts iX3 hown hK hP 23 wC_at23 rfl 15 (by decide) (hts _ m_474) (fun _ h9 => h9) rfl dX3_compare_101 ?_
          refine lv_icmp_ge (tgt := 113) hx hb dX3_compare_104 (by decide) (fun c_13 => ?_) (fun c_13 => ?_)
          · have hF := ob_pos c_13 hF
            exact hJ_113 h_9 hF H _ ls hP hD hS (lv_sub hl [] rfl)
          · have hF := ob_neg c_13 hF
            exact hJ_107 h_9 x1 x3 hF H _ ls hP hD hS (lv_sub hl [0, 1, 2] rfl)
  have hJ_30 : ∀ (n_30 : Nat) (h : HS) (x1 : Int64) (x3 : Int32) (x4 : Int32), f_X3_compare_30 n_30 h x1 x3 x4 = some hh → ∀ (H : Heap) (locs : List Loc) (ls : Array Slot), va_P G vwCl (wC q cI cJ cZ cB cT h) H → va_D A (wC q cI cJ cZ cB cT h) → va_S A s.heap H locs → lv_has ls 5 [(0, .ref (q 23)), (1, .long x1), (3, .int x3), (4, .int x4)] → W p l e (gRm 2) s m args below meth c H locs 0 0 (MQ below (va_Qv (fun (_ : Unit) => True) (gB G (fun (_ : Unit) => (wC q cI cJ cZ cB cT hh)) A) A) args s 0 0 A) (F0 m 30 ls []) := by
    intro n_30
    induction n_30 with
    | zero =>
      intro h x1 x3 x4 hF
      exact absurd hF (by simp [f_X3_compare_30])
    | succ n_30 ih_30 =>
      intro h x1 x3 x4 hF H locs ls hP hD hS hl
      rw [f_X3_compare_30_s] at hF
      refine lv_iload hx hb dX3_compare_30 (lv_at hl 3 rfl) ?_
      refine lv_aload_n hx hb dX3_compare_32 rfl (lv_at hl 0 rfl) ?_
      refine va_get (D := G) (ci := 3) (v := .int (eI h 8 8)) (C := RX3) (T := TX3) (N := 16) hx hb hts iX3 hown hK hP 23 wC_at23 rfl 8 (by decide) (hts _ m_475) (fun _ h9 => h9) rfl dX3_compare_33 ?_
      refine lv_icmp_ge (tgt := 75) hx hb dX3_compare_36 (by decide) (fun c_5 => ?_) (fun c_5 => ?_)
      · have hF := ob_pos c_5 hF
        exact hJ_75 h x1 x3 hF H _ ls hP hD hS (lv_sub hl [0, 1, 2] rfl)
      · have hF := ob_neg c_5 hF
        refine lv_iload hx hb dX3_compare_39 (lv_at hl 3 rfl) ?_
        refine lv_iconst (v := 3) hx hb dX3_compare_41 (by decide) ?_
        refine lv_icmp_ge (tgt := 75) hx hb dX3_compare_42 (by decide) (fun c_6 => ?_) (fun c_6 => ?_)
        · have hF := ob_pos c_6 hF
          exact hJ_75 h x1 x3 hF H _ ls hP hD hS (lv_sub hl [0, 1, 2] rfl)
        · have hF := ob_neg c_6 hF
          refine lv_iload_n hx hb dX3_compare_45 rfl (lv_at hl 2 rfl) ?_
          refine lv_bipush (v := 100) hx hb dX3_compare_46 (by decide) ?_
          refine lv_imul hx hb dX3_compare_48 ?_
          refine lv_aload_n hx hb dX3_compare_49 rfl (lv_at hl 0 rfl) ?_
          refine va_get (D := G) (ci := 3) (v := .ref (q 29)) (C := RX3) (T := TX3) (N := 16) hx hb hts iX3 hown hK hP 23 wC_at23 rfl 5 (by decide) (hts _ m_479) (fun _ h9 => h9) rfl dX3_compare_50 ?_
          refine lv_iload hx hb dX3_compare_53 (lv_at hl 3 rfl) ?_
          obtain ⟨hi_7, hF⟩ := ob_if hF
          refine va_iald (D := G) hx hb hK hP 29 0 wC_at29 rfl (vp_in_iff.mpr hi_7) dX3_compare_55 ?_
          refine gw_topi (y := ((eA h 8 5) ((x4).toNatClampNeg))) rfl ?_
          refine lv_bipush (v := 10) hx hb dX3_compare_56 (by decide) ?_
          refine lv_imul hx hb dX3_compare_58 ?_
          refine lv_iadd hx hb dX3_compare_59 ?_
          refine lv_aload_n hx hb dX3_compare_60 rfl (lv_at hl 0 rfl) ?_
          refine va_get (D := G) (ci := 3) (v := .ref (q 28)) (C := RX3) (T := TX3) (N := 16) hx hb hts iX3 hown hK hP 23 wC_at23 rfl 4 (by decide) (hts _ m_480) (fun _ h9 => h9) rfl dX3_compare_61 ?_
          refine lv_iload hx hb dX3_compare_64 (lv_at hl 3 rfl) ?_
          obtain ⟨hi_8, hF⟩ := ob_if hF
          refine va_iald (D := G) hx hb hK hP 28 0 wC_at28 rfl (vp_in_iff.mpr hi_8) dX3_compare_66 ?_
          refine gw_topi (y := ((eA h 8 4) ((x4).toNatClampNeg))) rfl ?_
          refine lv_iadd hx hb dX3_compare_67 ?_
          refine lv_istore_n (lv' := [(3, .int (((x3 * 100) + (((eA h 8 5) ((x4).toNatClampNeg)) * 10)) + ((eA h 8 4) ((x4).toNatClampNeg)))), (0, .ref (q 23)), (1, .long x1), (4, .int x4)]) hx hb dX3_compare_68 rfl hl (by decide) rfl (fun ls hl => ?_)
          refine lv_iinc (v := (x4 + 1)) (lv' := [(4, .int (x4 + 1)), (3, .int (((x3 * 100) + (((eA h 8 5) ((x4).toNatClampNeg)) * 10)) + ((eA h 8 4) ((x4).toNatClampNeg)))), (0, .ref (q 23)), (1, .long x1)]) hx hb dX3_compare_69 hl (k := 3) rfl rfl (by decide) rfl (fun ls hl => ?_)
          refine lv_goto (tgt := 30) hx hb dX3_compare_72 (by decide) ?_
          exact ih_30 h x1 (((x3 * 100) + (((eA h 8 5) ((x4).toNatClampNeg)) * 10)) + ((eA h 8 4) ((x4).toNatClampNeg))) (x4 + 1) hF H _ ls hP hD hS (lv_sub hl [2, 3, 1, 0] rfl)
  unfold f_X3_compare at hF
  refine lv_aload_n hx hb dX3_compare_0 rfl (lv_at hl 0 rfl) ?_
  refine lv_aload_n hx hb dX3_compare_1 rfl (lv_at hl 0 rfl) ?_
  refine lv_aload_n hx hb dX3_compare_2 rfl (lv_at hl 0 rfl) ?_
  refine va_get (D := G) (ci := 3) (v := .ref (q 24)) (C := RX3) (T := TX3) (N := 16) hx hb hts iX3 hown hK hP 23 wC_at23 rfl 0 (by decide) (hts _ m_481) (fun _ h9 => h9) rfl dX3_compare_3 ?_
  obtain ⟨r_1, h_1, e_1, hF⟩ := ob2_some hF
  refine gx_calll (gx_runV (As := [.ref (q 24)]) (rest := [.ref (q 23)]) ⟨hx, hb, hml, hown, hts⟩ (c_X3_missOf_f l G cI cJ cZ cB cT q h  r_1 h_1 e_1 H.size) (gG_V m_483 m_484 m_485 m_486 m_482) rfl e_X3_missOf ⟨Nat.le_of_ble_eq_true rfl, Nat.le_of_ble_eq_true rfl⟩ hK hP hD hE hS hA 23 wC_at23 rfl rfl hl.1 rfl (Nat.le_of_ble_eq_true rfl) dX3_compare_6 ⟨Nat.le_refl _, Nat.le_refl _⟩) hP hD hS hA (fun x_1 u_1 H locs hw_1 hP hD hS => ?_)
  subst x_1
  obtain ⟨r_2, h_2, e_2, hF⟩ := ob2_some hF
  refine gx_calli (gx_runV (As := [.long r_1]) (rest := []) ⟨hx, hb, hml, hown, hts⟩ (c_X3_isEnough l G cI cJ cZ cB cT q h_1 r_1 r_2 h_2 e_2 H.size) (gG_V m_488 m_489 m_490 m_486 m_487) rfl e_X3_isEnough ⟨Nat.le_of_ble_eq_true rfl, Nat.le_of_ble_eq_true rfl⟩ hK hP hD hE hS hA 23 wC_at23 rfl rfl hl.1 rfl (Nat.le_of_ble_eq_true rfl) dX3_compare_9 ⟨Nat.le_refl _, Nat.le_refl _⟩) hP hD hS hA (fun x_2 u_2 H locs hw_2 hP hD hS => ?_)
  subst x_2
  refine lv_if_ne (tgt := 16) hx hb dX3_compare_12 (by decide) (fun c_3 => ?_) (fun c_3 => ?_)
  · have hF := ob_neg c_3 hF
    refine lv_aload_n hx hb dX3_compare_16 rfl (lv_at hl 0 rfl) ?_
    refine lv_aload_n hx hb dX3_compare_17 rfl (lv_at hl 0 rfl) ?_
    refine va_get (D := G) (ci := 3) (v := .ref (q 25)) (C := RX3) (T := TX3) (N := 16) hx hb hts iX3 hown hK hP 23 wC_at23 rfl 1 (by decide) (hts _ m_491) (fun _ h9 => h9) rfl dX3_compare_18 ?_
    obtain ⟨r_4, h_4, e_4, hF⟩ := ob2_some hF
    refine gx_calll (gx_runV (As := [.ref (q 25)]) (rest := []) ⟨hx, hb, hml, hown, hts⟩ (c_X3_missOf_r l G cI cJ cZ cB cT q h_2  r_4 h_4 e_4 H.size) (gG_V m_483 m_484 m_485 m_486 m_482) rfl e_X3_missOf ⟨Nat.le_of_ble_eq_true rfl, Nat.le_of_ble_eq_true rfl⟩ hK hP hD hE hS hA 23 wC_at23 rfl rfl hl.1 rfl (Nat.le_of_ble_eq_true rfl) dX3_compare_21 ⟨Nat.le_refl _, Nat.le_refl _⟩) hP hD hS hA (fun x_4 u_4 H locs hw_4 hP hD hS => ?_)
    subst x_4
    refine lv_lstore_n (lv' := [(1, .long r_4), (0, .ref (q 23))]) hx hb dX3_compare_24 rfl hl (by decide) rfl (fun ls hl => ?_)
    refine lv_iconst (v := 0) hx hb dX3_compare_25 (by decide) ?_
    refine lv_istore_n (lv' := [(3, .int 0), (1, .long r_4), (0, .ref (q 23))]) hx hb dX3_compare_26 rfl hl (by decide) rfl (fun ls hl => ?_)
    refine lv_iconst (v := 0) hx hb dX3_compare_27 (by decide) ?_
    refine lv_istore (lv' := [(4, .int 0), (3, .int 0), (1, .long r_4), (0, .ref (q 23))]) hx hb dX3_compare_28 hl (by decide) rfl (fun ls hl => ?_)
    exact hJ_30 8589934592 h_4 r_4 0 0 hF H _ ls hP hD hS (lv_sub hl [3, 2, 1, 0] rfl)
  · have hF := ob_pos c_3 hF
    obtain rfl := ob_one hF
    exact gw_vret () hx hb hr hlocks hP hD hS trivial dX3_compare_15
