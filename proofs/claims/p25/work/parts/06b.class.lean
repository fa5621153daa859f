def f_X6_clear_0_12 : Nat → HS → Int32 → Option HS
  | 0, _, _ => none
  | n + 1, h, x1 => (if 4 ≤ x1 then (some h) else (if 0 ≤ (x1).toInt ∧ (x1).toInt < 4 then (if 0 ≤ (x1).toInt ∧ (x1).toInt < 4 then ((f_X6_clear_0_12 n) (sA (sA h 9 3 (upd (eA h 9 3) ((x1).toNatClampNeg) (-1))) 9 4 (upd (eA h 9 4) ((x1).toNatClampNeg) (-1))) (x1 + 1)) else none) else none))
theorem f_X6_clear_0_12_s (n : Nat) (h : HS) (x1 : Int32) : f_X6_clear_0_12 (n + 1) h x1 = (if 4 ≤ x1 then (some h) else (if 0 ≤ (x1).toInt ∧ (x1).toInt < 4 then (if 0 ≤ (x1).toInt ∧ (x1).toInt < 4 then ((f_X6_clear_0_12 n) (sA (sA h 9 3 (upd (eA h 9 3) ((x1).toNatClampNeg) (-1))) 9 4 (upd (eA h 9 4) ((x1).toNatClampNeg) (-1))) (x1 + 1)) else none) else none)) := rfl
def f_X6_clear_0 (h : HS) : Option HS := (f_X6_clear_0_12 8589934592 (sI (sI h 9 1 0) 9 5 0) 0)
set_option maxHeartbeats 4000000 in
set_option maxRecDepth 100000 in
theorem c_X6_clear_0 (l : Launch) (G : va_G) (cI cJ cZ cB cT : ClassId) (q : Nat → Nat) (h : HS)  (hh : HS) (hF : f_X6_clear_0 h = some hh) : gMv l yX6_clear (gws yX6_clear cX6_clear 2 none) 1 G (gT cI cJ cZ cB cT) [.ref (q 32)] (wC q cI cJ cZ cB cT h) (fun (_ : Unit) => True) (fun (_ : Unit) => (wC q cI cJ cZ cB cT hh)) := by
  intro sz
  refine gM_start (y := yX6_clear) (av := [.ref (q 32)]) (ws := (wC q cI cJ cZ cB cT h)) (Qf := fun A => va_Qv (fun (_ : Unit) => True) (gB G (fun (_ : Unit) => (wC q cI cJ cZ cB cT hh)) A) A) (cc := cX6_clear) (maxL := 2) (ret := none) (by decide) (Nat.le_of_ble_eq_true rfl) ?_
  intro p e s m args below meth c A ls H hx hb hr hts hown hin hlocks hml hP hK hD hA hS hl hE
  have hl : lv_has ls 2 [(0, .ref (q 32))] := hl
  have hJ_12 : ∀ (n_12 : Nat) (h : HS) (x1 : Int32), f_X6_clear_0_12 n_12 h x1 = some hh → ∀ (H : Heap) (locs : List Loc) (ls : Array Slot), va_P G vwCl (wC q cI cJ cZ cB cT h) H → va_D A (wC q cI cJ cZ cB cT h) → va_S A s.heap H locs → lv_has ls 2 [(0, .ref (q 32)), (1, .int x1)] → W p l e (gRm 1) s m args below meth c H locs 0 0 (MQ below (va_Qv (fun (_ : Unit) => True) (gB G (fun (_ : Unit) => (wC q cI cJ cZ cB cT hh)) A) A) args s 0 0 A) (F0 m 12 ls []) := by
    intro n_12
    induction n_12 with
    | zero =>
      intro h x1 hF
      exact absurd hF (by simp [f_X6_clear_0_12])
    | succ n_12 ih_12 =>
      intro h x1 hF H locs ls hP hD hS hl
      rw [f_X6_clear_0_12_s] at hF
      refine lv_iload_n hx hb dX6_clear_12 rfl (lv_at hl 1 rfl) ?_
      refine lv_iconst (v := 4) hx hb dX6_clear_13 (by decide) ?_
      refine lv_icmp_ge (tgt := 37) hx hb dX6_clear_14 (by decide) (fun c_1 => ?_) (fun c_1 => ?_)
      · have hF := ob_pos c_1 hF
        obtain rfl := ob_one hF
        exact gw_vret () hx hb hr hlocks hP hD hS trivial dX6_clear_37
      · have hF := ob_neg c_1 hF
        refine lv_aload_n hx hb dX6_clear_17 rfl (lv_at hl 0 rfl) ?_
        refine va_get (D := G) (ci := 6) (v := .ref (q 35)) (C := RX6) (T := TX6) (N := 6) hx hb hts iX6 hown hK hP 32 wC_at32 rfl 3 (by decide) (hts _ m_461) (fun _ h9 => h9) rfl dX6_clear_18 ?_
        refine lv_iload_n hx hb dX6_clear_21 rfl (lv_at hl 1 rfl) ?_
        refine lv_iconst (v := (-1)) hx hb dX6_clear_22 (by decide) ?_
        obtain ⟨hi_2, hF⟩ := ob_if hF
        refine va_iast (D := G) hx hb hK hP hD hS 35 0 wC_at35 rfl (vp_in_iff.mpr hi_2) dX6_clear_23 (fun H locs hP hD hS => ?_)
        rw [wC_sA35] at hP hD
        have hP : va_P G vwCl (wC q cI cJ cZ cB cT (sA h 9 3 (upd (eA h 9 3) ((x1).toNatClampNeg) (-1)))) H := hP
        have hD : va_D A (wC q cI cJ cZ cB cT (sA h 9 3 (upd (eA h 9 3) ((x1).toNatClampNeg) (-1)))) := hD
        refine lv_aload_n hx hb dX6_clear_24 rfl (lv_at hl 0 rfl) ?_
        refine va_get (D := G) (ci := 6) (v := .ref (q 36)) (C := RX6) (T := TX6) (N := 6) hx hb hts iX6 hown hK hP 32 wC_at32 rfl 4 (by decide) (hts _ m_462) (fun _ h9 => h9) rfl dX6_clear_25 ?_
        refine lv_iload_n hx hb dX6_clear_28 rfl (lv_at hl 1 rfl) ?_
        refine lv_iconst (v := (-1)) hx hb dX6_clear_29 (by decide) ?_
        obtain ⟨hi_3, hF⟩ := ob_if hF
        refine va_iast (D := G) hx hb hK hP hD hS 36 0 wC_at36 rfl (vp_in_iff.mpr hi_3) dX6_clear_30 (fun H locs hP hD hS => ?_)
        rw [wC_sA36] at hP hD
        have hP : va_P G vwCl (wC q cI cJ cZ cB cT (sA (sA h 9 3 (upd (eA h 9 3) ((x1).toNatClampNeg) (-1))) 9 4 (upd (eA h 9 4) ((x1).toNatClampNeg) (-1)))) H := hP
        have hD : va_D A (wC q cI cJ cZ cB cT (sA (sA h 9 3 (upd (eA h 9 3) ((x1).toNatClampNeg) (-1))) 9 4 (upd (eA h 9 4) ((x1).toNatClampNeg) (-1)))) := hD
        refine lv_iinc (v := (x1 + 1)) (lv' := [(1, .int (x1 + 1)), (0, .ref (q 32))]) hx hb dX6_clear_31 hl (k := 1) rfl rfl (by decide) rfl (fun ls hl => ?_)
        refine lv_goto (tgt := 12) hx hb dX6_clear_34 (by decide) ?_
        exact ih_12 (sA (sA h 9 3 (upd (eA h 9 3) ((x1).toNatClampNeg) (-1))) 9 4 (upd (eA h 9 4) ((x1).toNatClampNeg) (-1))) (x1 + 1) hF H _ ls hP hD hS (lv_sub hl [1, 0] rfl)
  unfold f_X6_clear_0 at hF
  refine lv_aload_n hx hb dX6_clear_0 rfl (lv_at hl 0 rfl) ?_
  refine lv_iconst (v := 0) hx hb dX6_clear_1 (by decide) ?_
  refine va_put (D := G) (ci := 6) (v := .int 0) (ty := .int) (C := RX6) (T := TX6) (N := 6) hx hb hts iX6 tyX6 tyX6_ok nmX6 hown hK hP hD hS 32 wC_at32 rfl 1 (by decide) (hts _ m_459) (fun _ h9 => h9) rfl (tyX6_ok 1 (by decide)) rfl rfl (Nat.le_of_ble_eq_true rfl) dX6_clear_2 (fun H locs hP hD hS => ?_)
  rw [wC_sI32_1] at hP hD
  refine lv_aload_n hx hb dX6_clear_5 rfl (lv_at hl 0 rfl) ?_
  refine lv_iconst (v := 0) hx hb dX6_clear_6 (by decide) ?_
  refine va_put (D := G) (ci := 6) (v := .int 0) (ty := .int) (C := RX6) (T := TX6) (N := 6) hx hb hts iX6 tyX6 tyX6_ok nmX6 hown hK hP hD hS 32 wC_at32 rfl 5 (by decide) (hts _ m_460) (fun _ h9 => h9) rfl (tyX6_ok 5 (by decide)) rfl rfl (Nat.le_of_ble_eq_true rfl) dX6_clear_7 (fun H locs hP hD hS => ?_)
  rw [wC_sI32_5] at hP hD
  refine lv_iconst (v := 0) hx hb dX6_clear_10 (by decide) ?_
  refine lv_istore_n (lv' := [(1, .int 0), (0, .ref (q 32))]) hx hb dX6_clear_11 rfl hl (by decide) rfl (fun ls hl => ?_)
  exact hJ_12 8589934592 (sI (sI h 9 1 0) 9 5 0) 0 hF H _ ls hP hD hS (lv_sub hl [1, 0] rfl)
def f_X6_hasLaw_0_24 (h : HS) (y0 : Int32) : Option (Int32 × HS) := (if y0 = 0 ∨ y0 = 1 then (some (y0, h)) else none)
def f_X6_hasLaw_0_23 (h : HS) : Option (Int32 × HS) := (f_X6_hasLaw_0_24 h 0)
def f_X6_hasLaw_0 (h : HS) (p1 : Int32) : Option (Int32 × HS) := (if p1 < 0 then (f_X6_hasLaw_0_23 h) else (if 4 ≤ p1 then (f_X6_hasLaw_0_23 h) else (if 0 ≤ (p1).toInt ∧ (p1).toInt < 4 then (if ((eA h 9 3) ((p1).toNatClampNeg)) = (-1) then (f_X6_hasLaw_0_23 h) else (f_X6_hasLaw_0_24 h 1)) else none)))
set_option maxHeartbeats 4000000 in
set_option maxRecDepth 100000 in
theorem c_X6_hasLaw_0 (l : Launch) (G : va_G) (cI cJ cZ cB cT : ClassId) (q : Nat → Nat) (h : HS) (p1 : Int32) (rr : Int32) (hh : HS) (hF : f_X6_hasLaw_0 h p1 = some (rr, hh)) : gMi l yX6_hasLaw (gws yX6_hasLaw cX6_hasLaw 2 (some .boolean)) 1 G (gT cI cJ cZ cB cT) [.ref (q 32), .int p1] (wC q cI cJ cZ cB cT h) (fun x (_ : Unit) => x = rr) (fun (_ : Unit) => (wC q cI cJ cZ cB cT hh)) := by
  intro sz
  refine gM_start (y := yX6_hasLaw) (av := [.ref (q 32), .int p1]) (ws := (wC q cI cJ cZ cB cT h)) (Qf := fun A => va_Qi (fun x (_ : Unit) => x = rr) (gB G (fun (_ : Unit) => (wC q cI cJ cZ cB cT hh)) A) A) (cc := cX6_hasLaw) (maxL := 2) (ret := (some .boolean)) (by decide) (Nat.le_of_ble_eq_true rfl) ?_
  intro p e s m args below meth c A ls H hx hb hr hts hown hin hlocks hml hP hK hD hA hS hl hE
  have hl : lv_has ls 2 [(0, .ref (q 32)), (1, .int p1)] := hl
  have hJ_24 : ∀ (h : HS) (y0 : Int32), f_X6_hasLaw_0_24 h y0 = some (rr, hh) → ∀ (H : Heap) (locs : List Loc) (ls : Array Slot), va_P G vwCl (wC q cI cJ cZ cB cT h) H → va_D A (wC q cI cJ cZ cB cT h) → va_S A s.heap H locs → lv_has ls 2 [] → W p l e (gRm 1) s m args below meth c H locs 0 0 (MQ below (va_Qi (fun x (_ : Unit) => x = rr) (gB G (fun (_ : Unit) => (wC q cI cJ cZ cB cT hh)) A) A) args s 0 0 A) (F0 m 24 ls [.int y0]) := by
    intro h y0 hF H locs ls hP hD hS hl
    unfold f_X6_hasLaw_0_24 at hF
    obtain ⟨hz_5, hF⟩ := ob_if hF
    obtain ⟨rfl, rfl⟩ := ob_pair hF
    exact gw_zret () hx hb hr hlocks (gz hz_5) hP hD hS rfl dX6_hasLaw_24
  have hJ_23 : ∀ (h : HS), f_X6_hasLaw_0_23 h = some (rr, hh) → ∀ (H : Heap) (locs : List Loc) (ls : Array Slot), va_P G vwCl (wC q cI cJ cZ cB cT h) H → va_D A (wC q cI cJ cZ cB cT h) → va_S A s.heap H locs → lv_has ls 2 [] → W p l e (gRm 1) s m args below meth c H locs 0 0 (MQ below (va_Qi (fun x (_ : Unit) => x = rr) (gB G (fun (_ : Unit) => (wC q cI cJ cZ cB cT hh)) A) A) args s 0 0 A) (F0 m 23 ls []) := by
    intro h hF H locs ls hP hD hS hl
    unfold f_X6_hasLaw_0_23 at hF
    refine lv_iconst (v := 0) hx hb dX6_hasLaw_23 (by decide) ?_
    exact hJ_24 h 0 hF H _ ls hP hD hS (lv_sub hl [] rfl)
  unfold f_X6_hasLaw_0 at hF
  refine lv_iload_n hx hb dX6_hasLaw_0 rfl (lv_at hl 1 rfl) ?_
  refine lv_if_lt (tgt := 23) hx hb dX6_hasLaw_1 (by decide) (fun c_1 => ?_) (fun c_1 => ?_)
  · have hF := ob_pos c_1 hF
    exact hJ_23 h hF H _ ls hP hD hS (lv_sub hl [] rfl)
  · have hF := ob_neg c_1 hF
    refine lv_iload_n hx hb dX6_hasLaw_4 rfl (lv_at hl 1 rfl) ?_
    refine lv_iconst (v := 4) hx hb dX6_hasLaw_5 (by decide) ?_
    refine lv_icmp_ge (tgt := 23) hx hb dX6_hasLaw_6 (by decide) (fun c_2 => ?_) (fun c_2 => ?_)
    · have hF := ob_pos c_2 hF
      exact hJ_23 h hF H _ ls hP hD hS (lv_sub hl [] rfl)
    · have hF := ob_neg c_2 hF
      refine lv_aload_n hx hb dX6_hasLaw_9 rfl (lv_at hl 0 rfl) ?_
      refine va_get (D := G) (ci := 6) (v := .ref (q 35)) (C := RX6) (T := TX6) (N := 6) hx hb hts iX6 hown hK hP 32 wC_at32 rfl 3 (by decide) (hts _ m_461) (fun _ h9 => h9) rfl dX6_hasLaw_10 ?_
      refine lv_iload_n hx hb dX6_hasLaw_13 rfl (lv_at hl 1 rfl) ?_
      obtain ⟨hi_3, hF⟩ := ob_if hF
      refine va_iald (D := G) hx hb hK hP 35 0 wC_at35 rfl (vp_in_iff.mpr hi_3) dX6_hasLaw_14 ?_
      refine gw_topi (y := ((eA h 9 3) ((p1).toNatClampNeg))) rfl ?_
      refine lv_iconst (v := (-1)) hx hb dX6_hasLaw_15 (by decide) ?_
      refine lv_icmp_eq (tgt := 23) hx hb dX6_hasLaw_16 (by decide) (fun c_4 => ?_) (fun c_4 => ?_)
      · have hF := ob_pos c_4 hF
        exact hJ_23 h hF H _ ls hP hD hS (lv_sub hl [] rfl)
      · have hF := ob_neg c_4 hF
        refine lv_iconst (v := 1) hx hb dX6_hasLaw_19 (by decide) ?_
        refine lv_goto (tgt := 24) hx hb dX6_hasLaw_20 (by decide) ?_
        exact hJ_24 h 1 hF H _ ls hP hD hS (lv_sub hl [] rfl)
def f_X6_beginLaw_0_19 (h : HS) : Option HS := (some h)
def f_X6_beginLaw_0 (h : HS) (p1 : Int32) : Option HS := (if p1 < 0 then (f_X6_beginLaw_0_19 h) else (if 4 ≤ p1 then (f_X6_beginLaw_0_19 h) else (if 0 ≤ (p1).toInt ∧ (p1).toInt < 4 then (f_X6_beginLaw_0_19 (sA h 9 3 (upd (eA h 9 3) ((p1).toNatClampNeg) (eI h 9 5)))) else none)))
set_option maxHeartbeats 4000000 in
set_option maxRecDepth 100000 in
theorem c_X6_beginLaw_0 (l : Launch) (G : va_G) (cI cJ cZ cB cT : ClassId) (q : Nat → Nat) (h : HS) (p1 : Int32) (hh : HS) (hF : f_X6_beginLaw_0 h p1 = some hh) : gMv l yX6_beginLaw (gws yX6_beginLaw cX6_beginLaw 2 none) 1 G (gT cI cJ cZ cB cT) [.ref (q 32), .int p1] (wC q cI cJ cZ cB cT h) (fun (_ : Unit) => True) (fun (_ : Unit) => (wC q cI cJ cZ cB cT hh)) := by
  intro sz
  refine gM_start (y := yX6_beginLaw) (av := [.ref (q 32), .int p1]) (ws := (wC q cI cJ cZ cB cT h)) (Qf := fun A => va_Qv (fun (_ : Unit) => True) (gB G (fun (_ : Unit) => (wC q cI cJ cZ cB cT hh)) A) A) (cc := cX6_beginLaw) (maxL := 2) (ret := none) (by decide) (Nat.le_of_ble_eq_true rfl) ?_
  intro p e s m args below meth c A ls H hx hb hr hts hown hin hlocks hml hP hK hD hA hS hl hE
  have hl : lv_has ls 2 [(0, .ref (q 32)), (1, .int p1)] := hl
  have hJ_19 : ∀ (h : HS), f_X6_beginLaw_0_19 h = some hh → ∀ (H : Heap) (locs : List Loc) (ls : Array Slot), va_P G vwCl (wC q cI cJ cZ cB cT h) H → va_D A (wC q cI cJ cZ cB cT h) → va_S A s.heap H locs → lv_has ls 2 [] → W p l e (gRm 1) s m args below meth c H locs 0 0 (MQ below (va_Qv (fun (_ : Unit) => True) (gB G (fun (_ : Unit) => (wC q cI cJ cZ cB cT hh)) A) A) args s 0 0 A) (F0 m 19 ls []) := by
    intro h hF H locs ls hP hD hS hl
    unfold f_X6_beginLaw_0_19 at hF
    obtain rfl := ob_one hF
    exact gw_vret () hx hb hr hlocks hP hD hS trivial dX6_beginLaw_19
  unfold f_X6_beginLaw_0 at hF
  refine lv_iload_n hx hb dX6_beginLaw_0 rfl (lv_at hl 1 rfl) ?_
  refine lv_if_lt (tgt := 19) hx hb dX6_beginLaw_1 (by decide) (fun c_1 => ?_) (fun c_1 => ?_)
  · have hF := ob_pos c_1 hF
    exact hJ_19 h hF H _ ls hP hD hS (lv_sub hl [] rfl)
  · have hF := ob_neg c_1 hF
    refine lv_iload_n hx hb dX6_beginLaw_4 rfl (lv_at hl 1 rfl) ?_
    refine lv_iconst (v := 4) hx hb dX6_beginLaw_5 (by decide) ?_
    refine lv_icmp_ge (tgt := 19) hx hb dX6_beginLaw_6 (by decide) (fun c_2 => ?_) (fun c_2 => ?_)
    · have hF := ob_pos c_2 hF
      exact hJ_19 h hF H _ ls hP hD hS (lv_sub hl [] rfl)
    · have hF := ob_neg c_2 hF
      refine lv_aload_n hx hb dX6_beginLaw_9 rfl (lv_at hl 0 rfl) ?_
      refine va_get (D := G) (ci := 6) (v := .ref (q 35)) (C := RX6) (T := TX6) (N := 6) hx hb hts iX6 hown hK hP 32 wC_at32 rfl 3 (by decide) (hts _ m_461) (fun _ h9 => h9) rfl dX6_beginLaw_10 ?_
      refine lv_iload_n hx hb dX6_beginLaw_13 rfl (lv_at hl 1 rfl) ?_
      refine lv_aload_n hx hb dX6_beginLaw_14 rfl (lv_at hl 0 rfl) ?_
      refine va_get (D := G) (ci := 6) (v := .int (eI h 9 5)) (C := RX6) (T := TX6) (N := 6) hx hb hts iX6 hown hK hP 32 wC_at32 rfl 5 (by decide) (hts _ m_460) (fun _ h9 => h9) rfl dX6_beginLaw_15 ?_
      obtain ⟨hi_3, hF⟩ := ob_if hF
      refine va_iast (D := G) hx hb hK hP hD hS 35 0 wC_at35 rfl (vp_in_iff.mpr hi_3) dX6_beginLaw_18 (fun H locs hP hD hS => ?_)
      rw [wC_sA35] at hP hD
      have hP : va_P G vwCl (wC q cI cJ cZ cB cT (sA h 9 3 (upd (eA h 9 3) ((p1).toNatClampNeg) (eI h 9 5)))) H := hP
      have hD : va_D A (wC q cI cJ cZ cB cT (sA h 9 3 (upd (eA h 9 3) ((p1).toNatClampNeg) (eI h 9 5)))) := hD
      exact hJ_19 (sA h 9 3 (upd (eA h 9 3) ((p1).toNatClampNeg) (eI h 9 5))) hF H _ ls hP hD hS (lv_sub hl [] rfl)
def f_X6_closeLaw_0_19 (h : HS) : Option HS := (some h)
def f_X6_closeLaw_0 (h : HS) (p1 : Int32) : Option HS := (if p1 < 0 then (f_X6_closeLaw_0_19 h) else (if 4 ≤ p1 then (f_X6_closeLaw_0_19 h) else (if 0 ≤ (p1).toInt ∧ (p1).toInt < 4 then (f_X6_closeLaw_0_19 (sA h 9 4 (upd (eA h 9 4) ((p1).toNatClampNeg) (eI h 9 5)))) else none)))
set_option maxHeartbeats 4000000 in
set_option maxRecDepth 100000 in
theorem c_X6_closeLaw_0 (l : Launch) (G : va_G) (cI cJ cZ cB cT : ClassId) (q : Nat → Nat) (h : HS) (p1 : Int32) (hh : HS) (hF : f_X6_closeLaw_0 h p1 = some hh) : gMv l yX6_closeLaw (gws yX6_closeLaw cX6_closeLaw 2 none) 1 G (gT cI cJ cZ cB cT) [.ref (q 32), .int p1] (wC q cI cJ cZ cB cT h) (fun (_ : Unit) => True) (fun (_ : Unit) => (wC q cI cJ cZ cB cT hh)) := by
  intro sz
  refine gM_start (y := yX6_closeLaw) (av := [.ref (q 32), .int p1]) (ws := (wC q cI cJ cZ cB cT h)) (Qf := fun A => va_Qv (fun (_ : Unit) => True) (gB G (fun (_ : Unit) => (wC q cI cJ cZ cB cT hh)) A) A) (cc := cX6_closeLaw) (maxL := 2) (ret := none) (by decide) (Nat.le_of_ble_eq_true rfl) ?_
  intro p e s m args below meth c A ls H hx hb hr hts hown hin hlocks hml hP hK hD hA hS hl hE
  have hl : lv_has ls 2 [(0, .ref (q 32)), (1, .int p1)] := hl
  have hJ_19 : ∀ (h : HS), f_X6_closeLaw_0_19 h = some hh → ∀ (H : Heap) (locs : List Loc) (ls : Array Slot), va_P G vwCl (wC q cI cJ cZ cB cT h) H → va_D A (wC q cI cJ cZ cB cT h) → va_S A s.heap H locs → lv_has ls 2 [] → W p l e (gRm 1) s m args below meth c H locs 0 0 (MQ below (va_Qv (fun (_ : Unit) => True) (gB G (fun (_ : Unit) => (wC q cI cJ cZ cB cT hh)) A) A) args s 0 0 A) (F0 m 19 ls []) := by
    intro h hF H locs ls hP hD hS hl
    unfold f_X6_closeLaw_0_19 at hF
    obtain rfl := ob_one hF
    exact gw_vret () hx hb hr hlocks hP hD hS trivial dX6_closeLaw_19
  unfold f_X6_closeLaw_0 at hF
  refine lv_iload_n hx hb dX6_closeLaw_0 rfl (lv_at hl 1 rfl) ?_
  refine lv_if_lt (tgt := 19) hx hb dX6_closeLaw_1 (by decide) (fun c_1 => ?_) (fun c_1 => ?_)
  · have hF := ob_pos c_1 hF
    exact hJ_19 h hF H _ ls hP hD hS (lv_sub hl [] rfl)
  · have hF := ob_neg c_1 hF
    refine lv_iload_n hx hb dX6_closeLaw_4 rfl (lv_at hl 1 rfl) ?_
    refine lv_iconst (v := 4) hx hb dX6_closeLaw_5 (by decide) ?_
    refine lv_icmp_ge (tgt := 19) hx hb dX6_closeLaw_6 (by decide) (fun c_2 => ?_) (fun c_2 => ?_)
    · have hF := ob_pos c_2 hF
      exact hJ_19 h hF H _ ls hP hD hS (lv_sub hl [] rfl)
    · have hF := ob_neg c_2 hF
      refine lv_aload_n hx hb dX6_closeLaw_9 rfl (lv_at hl 0 rfl) ?_
      refine va_get (D := G) (ci := 6) (v := .ref (q 36)) (C := RX6) (T := TX6) (N := 6) hx hb hts iX6 hown hK hP 32 wC_at32 rfl 4 (by decide) (hts _ m_462) (fun _ h9 => h9) rfl dX6_closeLaw_10 ?_
      refine lv_iload_n hx hb dX6_closeLaw_13 rfl (lv_at hl 1 rfl) ?_
      refine lv_aload_n hx hb dX6_closeLaw_14 rfl (lv_at hl 0 rfl) ?_
      refine va_get (D := G) (ci := 6) (v := .int (eI h 9 5)) (C := RX6) (T := TX6) (N := 6) hx hb hts iX6 hown hK hP 32 wC_at32 rfl 5 (by decide) (hts _ m_460) (fun _ h9 => h9) rfl dX6_closeLaw_15 ?_
      obtain ⟨hi_3, hF⟩ := ob_if hF
      refine va_iast (D := G) hx hb hK hP hD hS 36 0 wC_at36 rfl (vp_in_iff.mpr hi_3) dX6_closeLaw_18 (fun H locs hP hD hS => ?_)
      rw [wC_sA36] at hP hD
      have hP : va_P G vwCl (wC q cI cJ cZ cB cT (sA h 9 4 (upd (eA h 9 4) ((p1).toNatClampNeg) (eI h 9 5)))) H := hP
      have hD : va_D A (wC q cI cJ cZ cB cT (sA h 9 4 (upd (eA h 9 4) ((p1).toNatClampNeg) (eI h 9 5)))) := hD
      exact hJ_19 (sA h 9 4 (upd (eA h 9 4) ((p1).toNatClampNeg) (eI h 9 5))) hF H _ ls hP hD hS (lv_sub hl [] rfl)
def f_X6_firstStep_0_19 (h : HS) (y0 : Int32) : Option (Int32 × HS) := (some (y0, h))
def f_X6_firstStep_0_18 (h : HS) : Option (Int32 × HS) := (f_X6_firstStep_0_19 h 0)
def f_X6_firstStep_0 (h : HS) (p1 : Int32) : Option (Int32 × HS) := (if p1 < 0 then (f_X6_firstStep_0_18 h) else (if 4 ≤ p1 then (f_X6_firstStep_0_18 h) else (if 0 ≤ (p1).toInt ∧ (p1).toInt < 4 then (f_X6_firstStep_0_19 h ((eA h 9 3) ((p1).toNatClampNeg))) else none)))
set_option maxHeartbeats 4000000 in
set_option maxRecDepth 100000 in
theorem c_X6_firstStep_0 (l : Launch) (G : va_G) (cI cJ cZ cB cT : ClassId) (q : Nat → Nat) (h : HS) (p1 : Int32) (rr : Int32) (hh : HS) (hF : f_X6_firstStep_0 h p1 = some (rr, hh)) : gMi l yX6_firstStep (gws yX6_firstStep cX6_firstStep 2 (some .int)) 1 G (gT cI cJ cZ cB cT) [.ref (q 32), .int p1] (wC q cI cJ cZ cB cT h) (fun x (_ : Unit) => x = rr) (fun (_ : Unit) => (wC q cI cJ cZ cB cT hh)) := by
  intro sz
  refine gM_start (y := yX6_firstStep) (av := [.ref (q 32), .int p1]) (ws := (wC q cI cJ cZ cB cT h)) (Qf := fun A => va_Qi (fun x (_ : Unit) => x = rr) (gB G (fun (_ : Unit) => (wC q cI cJ cZ cB cT hh)) A) A) (cc := cX6_firstStep) (maxL := 2) (ret := (some .int)) (by decide) (Nat.le_of_ble_eq_true rfl) ?_
  intro p e s m args below meth c A ls H hx hb hr hts hown hin hlocks hml hP hK hD hA hS hl hE
  have hl : lv_has ls 2 [(0, .ref (q 32)), (1, .int p1)] := hl
  have hJ_19 : ∀ (h : HS) (y0 : Int32), f_X6_firstStep_0_19 h y0 = some (rr, hh) → ∀ (H : Heap) (locs : List Loc) (ls : Array Slot), va_P G vwCl (wC q cI cJ cZ cB cT h) H → va_D A (wC q cI cJ cZ cB cT h) → va_S A s.heap H locs → lv_has ls 2 [] → W p l e (gRm 1) s m args below meth c H locs 0 0 (MQ below (va_Qi (fun x (_ : Unit) => x = rr) (gB G (fun (_ : Unit) => (wC q cI cJ cZ cB cT hh)) A) A) args s 0 0 A) (F0 m 19 ls [.int y0]) := by
    intro h y0 hF H locs ls hP hD hS hl
    unfold f_X6_firstStep_0_19 at hF
    obtain ⟨rfl, rfl⟩ := ob_pair hF
    exact gw_iret () hx hb hr hlocks hP hD hS rfl dX6_firstStep_19
  have hJ_18 : ∀ (h : HS), f_X6_firstStep_0_18 h = some (rr, hh) → ∀ (H : Heap) (locs : List Loc) (ls : Array Slot), va_P G vwCl (wC q cI cJ cZ cB cT h) H → va_D A (wC q cI cJ cZ cB cT h) → va_S A s.heap H locs → lv_has ls 2 [] → W p l e (gRm 1) s m args below meth c H locs 0 0 (MQ below (va_Qi (fun x (_ : Unit) => x = rr) (gB G (fun (_ : Unit) => (wC q cI cJ cZ cB cT hh)) A) A) args s 0 0 A) (F0 m 18 ls []) := by
    intro h hF H locs ls hP hD hS hl
    unfold f_X6_firstStep_0_18 at hF
    refine lv_iconst (v := 0) hx hb dX6_firstStep_18 (by decide) ?_
    exact hJ_19 h 0 hF H _ ls hP hD hS (lv_sub hl [] rfl)
  unfold f_X6_firstStep_0 at hF
  refine lv_iload_n hx hb dX6_firstStep_0 rfl (lv_at hl 1 rfl) ?_
  refine lv_if_lt (tgt := 18) hx hb dX6_firstStep_1 (by decide) (fun c_1 => ?_) (fun c_1 => ?_)
  · have hF := ob_pos c_1 hF
    exact hJ_18 h hF H _ ls hP hD hS (lv_sub hl [] rfl)
  · have hF := ob_neg c_1 hF
    refine lv_iload_n hx hb dX6_firstStep_4 rfl (lv_at hl 1 rfl) ?_
    refine lv_iconst (v := 4) hx hb dX6_firstStep_5 (by decide) ?_
    refine lv_icmp_ge (tgt := 18) hx hb dX6_firstStep_6 (by decide) (fun c_2 => ?_) (fun c_2 => ?_)
    · have hF := ob_pos c_2 hF
      exact hJ_18 h hF H _ ls hP hD hS (lv_sub hl [] rfl)
    · have hF := ob_neg c_2 hF
      refine lv_aload_n hx hb dX6_firstStep_9 rfl (lv_at hl 0 rfl) ?_
      refine va_get (D := G) (ci := 6) (v := .ref (q 35)) (C := RX6) (T := TX6) (N := 6) hx hb hts iX6 hown hK hP 32 wC_at32 rfl 3 (by decide) (hts _ m_461) (fun _ h9 => h9) rfl dX6_firstStep_10 ?_
      refine lv_iload_n hx hb dX6_firstStep_13 rfl (lv_at hl 1 rfl) ?_
      obtain ⟨hi_3, hF⟩ := ob_if hF
      refine va_iald (D := G) hx hb hK hP 35 0 wC_at35 rfl (vp_in_iff.mpr hi_3) dX6_firstStep_14 ?_
      refine gw_topi (y := ((eA h 9 3) ((p1).toNatClampNeg))) rfl ?_
      refine lv_goto (tgt := 19) hx hb dX6_firstStep_15 (by decide) ?_
      exact hJ_19 h ((eA h 9 3) ((p1).toNatClampNeg)) hF H _ ls hP hD hS (lv_sub hl [] rfl)
def f_X6_stepsEnd_0_19 (h : HS) (y0 : Int32) : Option (Int32 × HS) := (some (y0, h))
def f_X6_stepsEnd_0_18 (h : HS) : Option (Int32 × HS) := (f_X6_stepsEnd_0_19 h 0)
def f_X6_stepsEnd_0 (h : HS) (p1 : Int32) : Option (Int32 × HS) := (if p1 < 0 then (f_X6_stepsEnd_0_18 h) else (if 4 ≤ p1 then (f_X6_stepsEnd_0_18 h) else (if 0 ≤ (p1).toInt ∧ (p1).toInt < 4 then (f_X6_stepsEnd_0_19 h ((eA h 9 4) ((p1).toNatClampNeg))) else none)))
set_option maxHeartbeats 4000000 in
set_option maxRecDepth 100000 in
theorem c_X6_stepsEnd_0 (l : Launch) (G : va_G) (cI cJ cZ cB cT : ClassId) (q : Nat → Nat) (h : HS) (p1 : Int32) (rr : Int32) (hh : HS) (hF : f_X6_stepsEnd_0 h p1 = some (rr, hh)) : gMi l yX6_stepsEnd (gws yX6_stepsEnd cX6_stepsEnd 2 (some .int)) 1 G (gT cI cJ cZ cB cT) [.ref (q 32), .int p1] (wC q cI cJ cZ cB cT h) (fun x (_ : Unit) => x = rr) (fun (_ : Unit) => (wC q cI cJ cZ cB cT hh)) := by
  intro sz
  refine gM_start (y := yX6_stepsEnd) (av := [.ref (q 32), .int p1]) (ws := (wC q cI cJ cZ cB cT h)) (Qf := fun A => va_Qi (fun x (_ : Unit) => x = rr) (gB G (fun (_ : Unit) => (wC q cI cJ cZ cB cT hh)) A) A) (cc := cX6_stepsEnd) (maxL := 2) (ret := (some .int)) (by decide) (Nat.le_of_ble_eq_true rfl) ?_
  intro p e s m args below meth c A ls H hx hb hr hts hown hin hlocks hml hP hK hD hA hS hl hE
  have hl : lv_has ls 2 [(0, .ref (q 32)), (1, .int p1)] := hl
  have hJ_19 : ∀ (h : HS) (y0 : Int32), f_X6_stepsEnd_0_19 h y0 = some (rr, hh) → ∀ (H : Heap) (locs : List Loc) (ls : Array Slot), va_P G vwCl (wC q cI cJ cZ cB cT h) H → va_D A (wC q cI cJ cZ cB cT h) → va_S A s.heap H locs → lv_has ls 2 [] → W p l e (gRm 1) s m args below meth c H locs 0 0 (MQ below (va_Qi (fun x (_ : Unit) => x = rr) (gB G (fun (_ : Unit) => (wC q cI cJ cZ cB cT hh)) A) A) args s 0 0 A) (F0 m 19 ls [.int y0]) := by
    intro h y0 hF H locs ls hP hD hS hl
    unfold f_X6_stepsEnd_0_19 at hF
    obtain ⟨rfl, rfl⟩ := ob_pair hF
    exact gw_iret () hx hb hr hlocks hP hD hS rfl dX6_stepsEnd_19
  have hJ_18 : ∀ (h : HS), f_X6_stepsEnd_0_18 h = some (rr, hh) → ∀ (H : Heap) (locs : List Loc) (ls : Array Slot), va_P G vwCl (wC q cI cJ cZ cB cT h) H → va_D A (wC q cI cJ cZ cB cT h) → va_S A s.heap H locs → lv_has ls 2 [] → W p l e (gRm 1) s m args below meth c H locs 0 0 (MQ below (va_Qi (fun x (_ : Unit) => x = rr) (gB G (fun (_ : Unit) => (wC q cI cJ cZ cB cT hh)) A) A) args s 0 0 A) (F0 m 18 ls []) := by
    intro h hF H locs ls hP hD hS hl
    unfold f_X6_stepsEnd_0_18 at hF
    refine lv_iconst (v := 0) hx hb dX6_stepsEnd_18 (by decide) ?_
    exact hJ_19 h 0 hF H _ ls hP hD hS (lv_sub hl [] rfl)
  unfold f_X6_stepsEnd_0 at hF
  refine lv_iload_n hx hb dX6_stepsEnd_0 rfl (lv_at hl 1 rfl) ?_
  refine lv_if_lt (tgt := 18) hx hb dX6_stepsEnd_1 (by decide) (fun c_1 => ?_) (fun c_1 => ?_)
  · have hF := ob_pos c_1 hF
    exact hJ_18 h hF H _ ls hP hD hS (lv_sub hl [] rfl)
  · have hF := ob_neg c_1 hF
    refine lv_iload_n hx hb dX6_stepsEnd_4 rfl (lv_at hl 1 rfl) ?_
    refine lv_iconst (v := 4) hx hb dX6_stepsEnd_5 (by decide) ?_
    refine lv_icmp_ge (tgt := 18) hx hb dX6_stepsEnd_6 (by decide) (fun c_2 => ?_) (fun c_2 => ?_)
    · have hF := ob_pos c_2 hF
      exact hJ_18 h hF H _ ls hP hD hS (lv_sub hl [] rfl)
    · have hF := ob_neg c_2 hF
      refine lv_aload_n hx hb dX6_stepsEnd_9 rfl (lv_at hl 0 rfl) ?_
      refine va_get (D := G) (ci := 6) (v := .ref (q 36)) (C := RX6) (T := TX6) (N := 6) hx hb hts iX6 hown hK hP 32 wC_at32 rfl 4 (by decide) (hts _ m_462) (fun _ h9 => h9) rfl dX6_stepsEnd_10 ?_
      refine lv_iload_n hx hb dX6_stepsEnd_13 rfl (lv_at hl 1 rfl) ?_
      obtain ⟨hi_3, hF⟩ := ob_if hF
      refine va_iald (D := G) hx hb hK hP 36 0 wC_at36 rfl (vp_in_iff.mpr hi_3) dX6_stepsEnd_14 ?_
      refine gw_topi (y := ((eA h 9 4) ((p1).toNatClampNeg))) rfl ?_
      refine lv_goto (tgt := 19) hx hb dX6_stepsEnd_15 (by decide) ?_
      exact hJ_19 h ((eA h 9 4) ((p1).toNatClampNeg)) hF H _ ls hP hD hS (lv_sub hl [] rfl)
def f_X6_addStep_0_32 (h : HS) : Option HS := (some h)
def f_X6_addStep_0 (h : HS) (p1 : Int32) : Option HS := (if 300 ≤ (eI h 9 5) then (f_X6_addStep_0_32 h) else (if 0 ≤ ((eI h 9 5)).toInt ∧ ((eI h 9 5)).toInt < 300 then (f_X6_addStep_0_32 (sI (sA h 9 2 (upd (eA h 9 2) (((eI h 9 5)).toNatClampNeg) p1)) 9 5 ((eI h 9 5) + 1))) else none))
set_option maxHeartbeats 4000000 in
set_option maxRecDepth 100000 in
theorem c_X6_addStep_0 (l : Launch) (G : va_G) (cI cJ cZ cB cT : ClassId) (q : Nat → Nat) (h : HS) (p1 : Int32) (hh : HS) (hF : f_X6_addStep_0 h p1 = some hh) : gMv l yX6_addStep (gws yX6_addStep cX6_addStep 2 none) 1 G (gT cI cJ cZ cB cT) [.ref (q 32), .int p1] (wC q cI cJ cZ cB cT h) (fun (_ : Unit) => True) (fun (_ : Unit) => (wC q cI cJ cZ cB cT hh)) := by
  intro sz
  refine gM_start (y := yX6_addStep) (av := [.ref (q 32), .int p1]) (ws := (wC q cI cJ cZ cB cT h)) (Qf := fun A => va_Qv (fun (_ : Unit) => True) (gB G (fun (_ : Unit) => (wC q cI cJ cZ cB cT hh)) A) A) (cc := cX6_addStep) (maxL := 2) (ret := none) (by decide) (Nat.le_of_ble_eq_true rfl) ?_
  intro p e s m args below meth c A ls H hx hb hr hts hown hin hlocks hml hP hK hD hA hS hl hE
  have hl : lv_has ls 2 [(0, .ref (q 32)), (1, .int p1)] := hl
  have hJ_32 : ∀ (h : HS), f_X6_addStep_0_32 h = some hh → ∀ (H : Heap) (locs : List Loc) (ls : Array Slot), va_P G vwCl (wC q cI cJ cZ cB cT h) H → va_D A (wC q cI cJ cZ cB cT h) → va_S A s.heap H locs → lv_has ls 2 [] → W p l e (gRm 1) s m args below meth c H locs 0 0 (MQ below (va_Qv (fun (_ : Unit) => True) (gB G (fun (_ : Unit) => (wC q cI cJ cZ cB cT hh)) A) A) args s 0 0 A) (F0 m 32 ls []) := by
    intro h hF H locs ls hP hD hS hl
    unfold f_X6_addStep_0_32 at hF
    obtain rfl := ob_one hF
    exact gw_vret () hx hb hr hlocks hP hD hS trivial dX6_addStep_32
  unfold f_X6_addStep_0 at hF
  refine lv_aload_n hx hb dX6_addStep_0 rfl (lv_at hl 0 rfl) ?_
  refine va_get (D := G) (ci := 6) (v := .int (eI h 9 5)) (C := RX6) (T := TX6) (N := 6) hx hb hts iX6 hown hK hP 32 wC_at32 rfl 5 (by decide) (hts _ m_460) (fun _ h9 => h9) rfl dX6_addStep_1 ?_
  refine lv_aload_n hx hb dX6_addStep_4 rfl (lv_at hl 0 rfl) ?_
  refine va_get (D := G) (ci := 6) (v := .ref (q 34)) (C := RX6) (T := TX6) (N := 6) hx hb hts iX6 hown hK hP 32 wC_at32 rfl 2 (by decide) (hts _ m_463) (fun _ h9 => h9) rfl dX6_addStep_5 ?_
  refine va_alen (D := G) hx hb hK hP 34 0 wC_at34 rfl (v := 300) rfl dX6_addStep_8 ?_
  refine lv_icmp_ge (tgt := 32) hx hb dX6_addStep_9 (by decide) (fun c_1 => ?_) (fun c_1 => ?_)
  · have hF := ob_pos c_1 hF
    exact hJ_32 h hF H _ ls hP hD hS (lv_sub hl [] rfl)
  · have hF := ob_neg c_1 hF
    refine lv_aload_n hx hb dX6_addStep_12 rfl (lv_at hl 0 rfl) ?_
    refine va_get (D := G) (ci := 6) (v := .ref (q 34)) (C := RX6) (T := TX6) (N := 6) hx hb hts iX6 hown hK hP 32 wC_at32 rfl 2 (by decide) (hts _ m_463) (fun _ h9 => h9) rfl dX6_addStep_13 ?_
    refine lv_aload_n hx hb dX6_addStep_16 rfl (lv_at hl 0 rfl) ?_
    refine va_get (D := G) (ci := 6) (v := .int (eI h 9 5)) (C := RX6) (T := TX6) (N := 6) hx hb hts iX6 hown hK hP 32 wC_at32 rfl 5 (by decide) (hts _ m_460) (fun _ h9 => h9) rfl dX6_addStep_17 ?_
    refine lv_iload_n hx hb dX6_addStep_20 rfl (lv_at hl 1 rfl) ?_
    obtain ⟨hi_2, hF⟩ := ob_if hF
    refine va_iast (D := G) hx hb hK hP hD hS 34 0 wC_at34 rfl (vp_in_iff.mpr hi_2) dX6_addStep_21 (fun H locs hP hD hS => ?_)
    rw [wC_sA34] at hP hD
    have hP : va_P G vwCl (wC q cI cJ cZ cB cT (sA h 9 2 (upd (eA h 9 2) (((eI h 9 5)).toNatClampNeg) p1))) H := hP
    have hD : va_D A (wC q cI cJ cZ cB cT (sA h 9 2 (upd (eA h 9 2) (((eI h 9 5)).toNatClampNeg) p1))) := hD
    refine lv_aload_n hx hb dX6_addStep_22 rfl (lv_at hl 0 rfl) ?_
    refine lv_dup hx hb dX6_addStep_23 rfl ?_
    refine va_get (D := G) (ci := 6) (v := .int (eI h 9 5)) (C := RX6) (T := TX6) (N := 6) hx hb hts iX6 hown hK hP 32 wC_at32 rfl 5 (by decide) (hts _ m_460) (fun _ h9 => h9) rfl dX6_addStep_24 ?_
    refine lv_iconst (v := 1) hx hb dX6_addStep_27 (by decide) ?_
    refine lv_iadd hx hb dX6_addStep_28 ?_
    refine va_put (D := G) (ci := 6) (v := .int ((eI h 9 5) + 1)) (ty := .int) (C := RX6) (T := TX6) (N := 6) hx hb hts iX6 tyX6 tyX6_ok nmX6 hown hK hP hD hS 32 wC_at32 rfl 5 (by decide) (hts _ m_460) (fun _ h9 => h9) rfl (tyX6_ok 5 (by decide)) rfl rfl (Nat.le_of_ble_eq_true rfl) dX6_addStep_29 (fun H locs hP hD hS => ?_)
    rw [wC_sI32_5] at hP hD
    exact hJ_32 (sI (sA h 9 2 (upd (eA h 9 2) (((eI h 9 5)).toNatClampNeg) p1)) 9 5 ((eI h 9 5) + 1)) hF H _ ls hP hD hS (lv_sub hl [] rfl)
def f_X6_stepAt_0_31 (h : HS) (y0 : Int32) : Option (Int32 × HS) := (some (y0, h))
def f_X6_stepAt_0_30 (h : HS) : Option (Int32 × HS) := (f_X6_stepAt_0_31 h 0)
def f_X6_stepAt_0 (h : HS) (p1 : Int32) : Option (Int32 × HS) := (if p1 < 0 then (f_X6_stepAt_0_30 h) else (if (eI h 9 5) ≤ p1 then (f_X6_stepAt_0_30 h) else (if 300 ≤ p1 then (f_X6_stepAt_0_30 h) else (if 0 ≤ (p1).toInt ∧ (p1).toInt < 300 then (f_X6_stepAt_0_31 h ((eA h 9 2) ((p1).toNatClampNeg))) else none))))
set_option maxHeartbeats 4000000 in
set_option maxRecDepth 100000 in
theorem c_X6_stepAt_0 (l : Launch) (G : va_G) (cI cJ cZ cB cT : ClassId) (q : Nat → Nat) (h : HS) (p1 : Int32) (rr : Int32) (hh : HS) (hF : f_X6_stepAt_0 h p1 = some (rr, hh)) : gMi l yX6_stepAt (gws yX6_stepAt cX6_stepAt 2 (some .int)) 1 G (gT cI cJ cZ cB cT) [.ref (q 32), .int p1] (wC q cI cJ cZ cB cT h) (fun x (_ : Unit) => x = rr) (fun (_ : Unit) => (wC q cI cJ cZ cB cT hh)) := by
  intro sz
  refine gM_start (y := yX6_stepAt) (av := [.ref (q 32), .int p1]) (ws := (wC q cI cJ cZ cB cT h)) (Qf := fun A => va_Qi (fun x (_ : Unit) => x = rr) (gB G (fun (_ : Unit) => (wC q cI cJ cZ cB cT hh)) A) A) (cc := cX6_stepAt) (maxL := 2) (ret := (some .int)) (by decide) (Nat.le_of_ble_eq_true rfl) ?_
  intro p e s m args below meth c A ls H hx hb hr hts hown hin hlocks hml hP hK hD hA hS hl hE
  have hl : lv_has ls 2 [(0, .ref (q 32)), (1, .int p1)] := hl
  have hJ_31 : ∀ (h : HS) (y0 : Int32), f_X6_stepAt_0_31 h y0 = some (rr, hh) → ∀ (H : Heap) (locs : List Loc) (ls : Array Slot), va_P G vwCl (wC q cI cJ cZ cB cT h) H → va_D A (wC q cI cJ cZ cB cT h) → va_S A s.heap H locs → lv_has ls 2 [] → W p l e (gRm 1) s m args below meth c H locs 0 0 (MQ below (va_Qi (fun x (_ : Unit) => x = rr) (gB G (fun (_ : Unit) => (wC q cI cJ cZ cB cT hh)) A) A) args s 0 0 A) (F0 m 31 ls [.int y0]) := by
    intro h y0 hF H locs ls hP hD hS hl
    unfold f_X6_stepAt_0_31 at hF
    obtain ⟨rfl, rfl⟩ := ob_pair hF
    exact gw_iret () hx hb hr hlocks hP hD hS rfl dX6_stepAt_31
  have hJ_30 : ∀ (h : HS), f_X6_stepAt_0_30 h = some (rr, hh) → ∀ (H : Heap) (locs : List Loc) (ls : Array Slot), va_P G vwCl (wC q cI cJ cZ cB cT h) H → va_D A (wC q cI cJ cZ cB cT h) → va_S A s.heap H locs → lv_has ls 2 [] → W p l e (gRm 1) s m args below meth c H locs 0 0 (MQ below (va_Qi (fun x (_ : Unit) => x = rr) (gB G (fun (_ : Unit) => (wC q cI cJ cZ cB cT hh)) A) A) args s 0 0 A) (F0 m 30 ls []) := by
    intro h hF H locs ls hP hD hS hl
    unfold f_X6_stepAt_0_30 at hF
    refine lv_iconst (v := 0) hx hb dX6_stepAt_30 (by decide) ?_
    exact hJ_31 h 0 hF H _ ls hP hD hS (lv_sub hl [] rfl)
  unfold f_X6_stepAt_0 at hF
  refine lv_iload_n hx hb dX6_stepAt_0 rfl (lv_at hl 1 rfl) ?_
  refine lv_if_lt (tgt := 30) hx hb dX6_stepAt_1 (by decide) (fun c_1 => ?_) (fun c_1 => ?_)
  · have hF := ob_pos c_1 hF
    exact hJ_30 h hF H _ ls hP hD hS (lv_sub hl [] rfl)
  · have hF := ob_neg c_1 hF
    refine lv_iload_n hx hb dX6_stepAt_4 rfl (lv_at hl 1 rfl) ?_
    refine lv_aload_n hx hb dX6_stepAt_5 rfl (lv_at hl 0 rfl) ?_
    refine va_get (D := G) (ci := 6) (v := .int (eI h 9 5)) (C := RX6) (T := TX6) (N := 6) hx hb hts iX6 hown hK hP 32 wC_at32 rfl 5 (by decide) (hts _ m_460) (fun _ h9 => h9) rfl dX6_stepAt_6 ?_
    refine lv_icmp_ge (tgt := 30) hx hb dX6_stepAt_9 (by decide) (fun c_2 => ?_) (fun c_2 => ?_)
    · have hF := ob_pos c_2 hF
      exact hJ_30 h hF H _ ls hP hD hS (lv_sub hl [] rfl)
    · have hF := ob_neg c_2 hF
      refine lv_iload_n hx hb dX6_stepAt_12 rfl (lv_at hl 1 rfl) ?_
      refine lv_aload_n hx hb dX6_stepAt_13 rfl (lv_at hl 0 rfl) ?_
      refine va_get (D := G) (ci := 6) (v := .ref (q 34)) (C := RX6) (T := TX6) (N := 6) hx hb hts iX6 hown hK hP 32 wC_at32 rfl 2 (by decide) (hts _ m_463) (fun _ h9 => h9) rfl dX6_stepAt_14 ?_
      refine va_alen (D := G) hx hb hK hP 34 0 wC_at34 rfl (v := 300) rfl dX6_stepAt_17 ?_
      refine lv_icmp_ge (tgt := 30) hx hb dX6_stepAt_18 (by decide) (fun c_3 => ?_) (fun c_3 => ?_)
      · have hF := ob_pos c_3 hF
        exact hJ_30 h hF H _ ls hP hD hS (lv_sub hl [] rfl)
      · have hF := ob_neg c_3 hF
        refine lv_aload_n hx hb dX6_stepAt_21 rfl (lv_at hl 0 rfl) ?_
        refine va_get (D := G) (ci := 6) (v := .ref (q 34)) (C := RX6) (T := TX6) (N := 6) hx hb hts iX6 hown hK hP 32 wC_at32 rfl 2 (by decide) (hts _ m_463) (fun _ h9 => h9) rfl dX6_stepAt_22 ?_
        refine lv_iload_n hx hb dX6_stepAt_25 rfl (lv_at hl 1 rfl) ?_
        obtain ⟨hi_4, hF⟩ := ob_if hF
        refine va_iald (D := G) hx hb hK hP 34 0 wC_at34 rfl (vp_in_iff.mpr hi_4) dX6_stepAt_26 ?_
        refine gw_topi (y := ((eA h 9 2) ((p1).toNatClampNeg))) rfl ?_
        refine lv_goto (tgt := 31) hx hb dX6_stepAt_27 (by decide) ?_
        exact hJ_31 h ((eA h 9 2) ((p1).toNatClampNeg)) hF H _ ls hP hD hS (lv_sub hl [] rfl)
def f_X6_clauseField_0_19 (h : HS) : Option (Int32 × HS) := (some ((-1), h))
def f_X6_clauseField_0 (h : HS) (p1 : Int32) (p2 : Int32) : Option (Int32 × HS) := (if p1 < 0 then (f_X6_clauseField_0_19 h) else (if 24 ≤ p1 then (f_X6_clauseField_0_19 h) else (if p2 < 0 then (f_X6_clauseField_0_19 h) else (if p2 < 4 then (if 0 ≤ (((p1 * 4) + p2)).toInt ∧ (((p1 * 4) + p2)).toInt < 96 then (some (((eA h 9 0) ((((p1 * 4) + p2)).toNatClampNeg)), h)) else none) else (f_X6_clauseField_0_19 h)))))
set_option maxHeartbeats 4000000 in
set_option maxRecDepth 100000 in
theorem c_X6_clauseField_0 (l : Launch) (G : va_G) (cI cJ cZ cB cT : ClassId) (q : Nat → Nat) (h : HS) (p1 : Int32) (p2 : Int32) (rr : Int32) (hh : HS) (hF : f_X6_clauseField_0 h p1 p2 = some (rr, hh)) : gMi l yX6_clauseField (gws yX6_clauseField cX6_clauseField 3 (some .int)) 1 G (gT cI cJ cZ cB cT) [.ref (q 32), .int p1, .int p2] (wC q cI cJ cZ cB cT h) (fun x (_ : Unit) => x = rr) (fun (_ : Unit) => (wC q cI cJ cZ cB cT hh)) := by
  intro sz
  refine gM_start (y := yX6_clauseField) (av := [.ref (q 32), .int p1, .int p2]) (ws := (wC q cI cJ cZ cB cT h)) (Qf := fun A => va_Qi (fun x (_ : Unit) => x = rr) (gB G (fun (_ : Unit) => (wC q cI cJ cZ cB cT hh)) A) A) (cc := cX6_clauseField) (maxL := 3) (ret := (some .int)) (by decide) (Nat.le_of_ble_eq_true rfl) ?_
  intro p e s m args below meth c A ls H hx hb hr hts hown hin hlocks hml hP hK hD hA hS hl hE
  have hl : lv_has ls 3 [(0, .ref (q 32)), (1, .int p1), (2, .int p2)] := hl
  have hJ_19 : ∀ (h : HS), f_X6_clauseField_0_19 h = some (rr, hh) → ∀ (H : Heap) (locs : List Loc) (ls : Array Slot), va_P G vwCl (wC q cI cJ cZ cB cT h) H → va_D A (wC q cI cJ cZ cB cT h) → va_S A s.heap H locs → lv_has ls 3 [] → W p l e (gRm 1) s m args below meth c H locs 0 0 (MQ below (va_Qi (fun x (_ : Unit) => x = rr) (gB G (fun (_ : Unit) => (wC q cI cJ cZ cB cT hh)) A) A) args s 0 0 A) (F0 m 19 ls []) := by
    intro h hF H locs ls hP hD hS hl
    unfold f_X6_clauseField_0_19 at hF
    refine lv_iconst (v := (-1)) hx hb dX6_clauseField_19 (by decide) ?_
    obtain ⟨rfl, rfl⟩ := ob_pair hF
    exact gw_iret () hx hb hr hlocks hP hD hS rfl dX6_clauseField_20
  unfold f_X6_clauseField_0 at hF
  refine lv_iload_n hx hb dX6_clauseField_0 rfl (lv_at hl 1 rfl) ?_
  refine lv_if_lt (tgt := 19) hx hb dX6_clauseField_1 (by decide) (fun c_1 => ?_) (fun c_1 => ?_)
  · have hF := ob_pos c_1 hF
    exact hJ_19 h hF H _ ls hP hD hS (lv_sub hl [] rfl)
  · have hF := ob_neg c_1 hF
    refine lv_iload_n hx hb dX6_clauseField_4 rfl (lv_at hl 1 rfl) ?_
    refine lv_bipush (v := 24) hx hb dX6_clauseField_5 (by decide) ?_
    refine lv_icmp_ge (tgt := 19) hx hb dX6_clauseField_7 (by decide) (fun c_2 => ?_) (fun c_2 => ?_)
    · have hF := ob_pos c_2 hF
      exact hJ_19 h hF H _ ls hP hD hS (lv_sub hl [] rfl)
    · have hF := ob_neg c_2 hF
      refine lv_iload_n hx hb dX6_clauseField_10 rfl (lv_at hl 2 rfl) ?_
      refine lv_if_lt (tgt := 19) hx hb dX6_clauseField_11 (by decide) (fun c_3 => ?_) (fun c_3 => ?_)
      · have hF := ob_pos c_3 hF
        exact hJ_19 h hF H _ ls hP hD hS (lv_sub hl [] rfl)
      · have hF := ob_neg c_3 hF
        refine lv_iload_n hx hb dX6_clauseField_14 rfl (lv_at hl 2 rfl) ?_
        refine lv_iconst (v := 4) hx hb dX6_clauseField_15 (by decide) ?_
        refine lv_icmp_lt (tgt := 21) hx hb dX6_clauseField_16 (by decide) (fun c_4 => ?_) (fun c_4 => ?_)
        · have hF := ob_pos c_4 hF
          refine lv_aload_n hx hb dX6_clauseField_21 rfl (lv_at hl 0 rfl) ?_
          refine va_get (D := G) (ci := 6) (v := .ref (q 33)) (C := RX6) (T := TX6) (N := 6) hx hb hts iX6 hown hK hP 32 wC_at32 rfl 0 (by decide) (hts _ m_464) (fun _ h9 => h9) rfl dX6_clauseField_22 ?_
          refine lv_iload_n hx hb dX6_clauseField_25 rfl (lv_at hl 1 rfl) ?_
          refine lv_iconst (v := 4) hx hb dX6_clauseField_26 (by decide) ?_
          refine lv_imul hx hb dX6_clauseField_27 ?_
          refine lv_iload_n hx hb dX6_clauseField_28 rfl (lv_at hl 2 rfl) ?_
          refine lv_iadd hx hb dX6_clauseField_29 ?_
          obtain ⟨hi_5, hF⟩ := ob_if hF
          refine va_iald (D := G) hx hb hK hP 33 0 wC_at33 rfl (vp_in_iff.mpr hi_5) dX6_clauseField_30 ?_
          refine gw_topi (y := ((eA h 9 0) ((((p1 * 4) + p2)).toNatClampNeg))) rfl ?_
          obtain ⟨rfl, rfl⟩ := ob_pair hF
          exact gw_iret () hx hb hr hlocks hP hD hS rfl dX6_clauseField_31
        · have hF := ob_neg c_4 hF
          exact hJ_19 h hF H _ ls hP hD hS (lv_sub hl [] rfl)
def f_X6_setClause_0_30 (h : HS) : Option HS := (some h)
def f_X6_setClause_0 (h : HS) (p1 : Int32) (p2 : Int32) (p3 : Int32) : Option HS := (if p1 < 0 then (f_X6_setClause_0_30 h) else (if 24 ≤ p1 then (f_X6_setClause_0_30 h) else (if p2 < 0 then (f_X6_setClause_0_30 h) else (if 4 ≤ p2 then (f_X6_setClause_0_30 h) else (if 0 ≤ (((p1 * 4) + p2)).toInt ∧ (((p1 * 4) + p2)).toInt < 96 then (f_X6_setClause_0_30 (sA h 9 0 (upd (eA h 9 0) ((((p1 * 4) + p2)).toNatClampNeg) p3))) else none)))))
set_option maxHeartbeats 4000000 in
set_option maxRecDepth 100000 in
theorem c_X6_setClause_0 (l : Launch) (G : va_G) (cI cJ cZ cB cT : ClassId) (q : Nat → Nat) (h : HS) (p1 : Int32) (p2 : Int32) (p3 : Int32) (hh : HS) (hF : f_X6_setClause_0 h p1 p2 p3 = some hh) : gMv l yX6_setClause (gws yX6_setClause cX6_setClause 4 none) 1 G (gT cI cJ cZ cB cT) [.ref (q 32), .int p1, .int p2, .int p3] (wC q cI cJ cZ cB cT h) (fun (_ : Unit) => True) (fun (_ : Unit) => (wC q cI cJ cZ cB cT hh)) := by
  intro sz
  refine gM_start (y := yX6_setClause) (av := [.ref (q 32), .int p1, .int p2, .int p3]) (ws := (wC q cI cJ cZ cB cT h)) (Qf := fun A => va_Qv (fun (_ : Unit) => True) (gB G (fun (_ : Unit) => (wC q cI cJ cZ cB cT hh)) A) A) (cc := cX6_setClause) (maxL := 4) (ret := none) (by decide) (Nat.le_of_ble_eq_true rfl) ?_
  intro p e s m args below meth c A ls H hx hb hr hts hown hin hlocks hml hP hK hD hA hS hl hE
  have hl : lv_has ls 4 [(0, .ref (q 32)), (1, .int p1), (2, .int p2), (3, .int p3)] := hl
  have hJ_30 : ∀ (h : HS), f_X6_setClause_0_30 h = some hh → ∀ (H : Heap) (locs : List Loc) (ls : Array Slot), va_P G vwCl (wC q cI cJ cZ cB cT h) H → va_D A (wC q cI cJ cZ cB cT h) → va_S A s.heap H locs → lv_has ls 4 [] → W p l e (gRm 1) s m args below meth c H locs 0 0 (MQ below (va_Qv (fun (_ : Unit) => True) (gB G (fun (_ : Unit) => (wC q cI cJ cZ cB cT hh)) A) A) args s 0 0 A) (F0 m 30 ls []) := by
    intro h hF H locs ls hP hD hS hl
    unfold f_X6_setClause_0_30 at hF
    obtain rfl := ob_one hF
    exact gw_vret () hx hb hr hlocks hP hD hS trivial dX6_setClause_30
  unfold f_X6_setClause_0 at hF
  refine lv_iload_n hx hb dX6_setClause_0 rfl (lv_at hl 1 rfl) ?_
  refine lv_if_lt (tgt := 30) hx hb dX6_setClause_1 (by decide) (fun c_1 => ?_) (fun c_1 => ?_)
  · have hF := ob_pos c_1 hF
    exact hJ_30 h hF H _ ls hP hD hS (lv_sub hl [] rfl)
  · have hF := ob_neg c_1 hF
    refine lv_iload_n hx hb dX6_setClause_4 rfl (lv_at hl 1 rfl) ?_
    refine lv_bipush (v := 24) hx hb dX6_setClause_5 (by decide) ?_
    refine lv_icmp_ge (tgt := 30) hx hb dX6_setClause_7 (by decide) (fun c_2 => ?_) (fun c_2 => ?_)
    · have hF := ob_pos c_2 hF
      exact hJ_30 h hF H _ ls hP hD hS (lv_sub hl [] rfl)
    · have hF := ob_neg c_2 hF
      refine lv_iload_n hx hb dX6_setClause_10 rfl (lv_at hl 2 rfl) ?_
      refine lv_if_lt (tgt := 30) hx hb dX6_setClause_11 (by decide) (fun c_3 => ?_) (fun c_3 => ?_)
      · have hF := ob_pos c_3 hF
        exact hJ_30 h hF H _ ls hP hD hS (lv_sub hl [] rfl)
      · have hF := ob_neg c_3 hF
        refine lv_iload_n hx hb dX6_setClause_14 rfl (lv_at hl 2 rfl) ?_
        refine lv_iconst (v := 4) hx hb dX6_setClause_15 (by decide) ?_
        refine lv_icmp_ge (tgt := 30) hx hb dX6_setClause_16 (by decide) (fun c_4 => ?_) (fun c_4 => ?_)
        · have hF := ob_pos c_4 hF
          exact hJ_30 h hF H _ ls hP hD hS (lv_sub hl [] rfl)
        · have hF := ob_neg c_4 hF
          refine lv_aload_n hx hb dX6_setClause_19 rfl (lv_at hl 0 rfl) ?_
          refine va_get (D := G) (ci := 6) (v := .ref (q 33)) (C := RX6) (T := TX6) (N := 6) hx hb hts iX6 hown hK hP 32 wC_at32 rfl 0 (by decide) (hts _ m_464) (fun _ h9 => h9) rfl dX6_setClause_20 ?_
          refine lv_iload_n hx hb dX6_setClause_23 rfl (lv_at hl 1 rfl) ?_
          refine lv_iconst (v := 4) hx hb dX6_setClause_24 (by decide) ?_
          refine lv_imul hx hb dX6_setClause_25 ?_
          refine lv_iload_n hx hb dX6_setClause_26 rfl (lv_at hl 2 rfl) ?_
          refine lv_iadd hx hb dX6_setClause_27 ?_
          refine lv_iload_n hx hb dX6_setClause_28 rfl (lv_at hl 3 rfl) ?_
          obtain ⟨hi_5, hF⟩ := ob_if hF
          refine va_iast (D := G) hx hb hK hP hD hS 33 0 wC_at33 rfl (vp_in_iff.mpr hi_5) dX6_setClause_29 (fun H locs hP hD hS => ?_)
          rw [wC_sA33] at hP hD
          have hP : va_P G vwCl (wC q cI cJ cZ cB cT (sA h 9 0 (upd (eA h 9 0) ((((p1 * 4) + p2)).toNatClampNeg) p3))) H := hP
          have hD : va_D A (wC q cI cJ cZ cB cT (sA h 9 0 (upd (eA h 9 0) ((((p1 * 4) + p2)).toNatClampNeg) p3))) := hD
          exact hJ_30 (sA h 9 0 (upd (eA h 9 0) ((((p1 * 4) + p2)).toNatClampNeg) p3)) hF H _ ls hP hD hS (lv_sub hl [] rfl)
def f_X6_clear_1_12 : Nat → HS → Int32 → Option HS
  | 0, _, _ => none
  | n + 1, h, x1 => (if 4 ≤ x1 then (some h) else (if 0 ≤ (x1).toInt ∧ (x1).toInt < 4 then (if 0 ≤ (x1).toInt ∧ (x1).toInt < 4 then ((f_X6_clear_1_12 n) (sA (sA h 10 3 (upd (eA h 10 3) ((x1).toNatClampNeg) (-1))) 10 4 (upd (eA h 10 4) ((x1).toNatClampNeg) (-1))) (x1 + 1)) else none) else none))
theorem f_X6_clear_1_12_s (n : Nat) (h : HS) (x1 : Int32) : f_X6_clear_1_12 (n + 1) h x1 = (if 4 ≤ x1 then (some h) else (if 0 ≤ (x1).toInt ∧ (x1).toInt < 4 then (if 0 ≤ (x1).toInt ∧ (x1).toInt < 4 then ((f_X6_clear_1_12 n) (sA (sA h 10 3 (upd (eA h 10 3) ((x1).toNatClampNeg) (-1))) 10 4 (upd (eA h 10 4) ((x1).toNatClampNeg) (-1))) (x1 + 1)) else none) else none)) := rfl
def f_X6_clear_1 (h : HS) : Option HS := (f_X6_clear_1_12 8589934592 (sI (sI h 10 1 0) 10 5 0) 0)
set_option maxHeartbeats 4000000 in
set_option maxRecDepth 100000 in
theorem c_X6_clear_1 (l : Launch) (G : va_G) (cI cJ cZ cB cT : ClassId) (q : Nat → Nat) (h : HS)  (hh : HS) (hF : f_X6_clear_1 h = some hh) : gMv l yX6_clear (gws yX6_clear cX6_clear 2 none) 1 G (gT cI cJ cZ cB cT) [.ref (q 37)] (wC q cI cJ cZ cB cT h) (fun (_ : Unit) => True) (fun (_ : Unit) => (wC q cI cJ cZ cB cT hh)) := by
  intro sz
  refine gM_start (y := yX6_clear) (av := [.ref (q 37)]) (ws := (wC q cI cJ cZ cB cT h)) (Qf := fun A => va_Qv (fun (_ : Unit) => True) (gB G (fun (_ : Unit) => (wC q cI cJ cZ cB cT hh)) A) A) (cc := cX6_clear) (maxL := 2) (ret := none) (by decide) (Nat.le_of_ble_eq_true rfl) ?_
  intro p e s m args below meth c A ls H hx hb hr hts hown hin hlocks hml hP hK hD hA hS hl hE
  have hl : lv_has ls 2 [(0, .ref (q 37))] := hl
  have hJ_12 : ∀ (n_12 : Nat) (h : HS) (x1 : Int32), f_X6_clear_1_12 n_12 h x1 = some hh → ∀ (H : Heap) (locs : List Loc) (ls : Array Slot), va_P G vwCl (wC q cI cJ cZ cB cT h) H → va_D A (wC q cI cJ cZ cB cT h) → va_S A s.heap H locs → lv_has ls 2 [(0, .ref (q 37)), (1, .int x1)] → W p l e (gRm 1) s m args below meth c H locs 0 0 (MQ below (va_Qv (fun (_ : Unit) => True) (gB G (fun (_ : Unit) => (wC q cI cJ cZ cB cT hh)) A) A) args s 0 0 A) (F0 m 12 ls []) := by
    intro n_12
    induction n_12 with
    | zero =>
      intro h x1 hF
      exact absurd hF (by simp [f_X6_clear_1_12])
    | succ n_12 ih_12 =>
      intro h x1 hF H locs ls hP hD hS hl
      rw [f_X6_clear_1_12_s] at hF
      refine lv_iload_n hx hb dX6_clear_12 rfl (lv_at hl 1 rfl) ?_
      refine lv_iconst (v := 4) hx hb dX6_clear_13 (by decide) ?_
      refine lv_icmp_ge (tgt := 37) hx hb dX6_clear_14 (by decide) (fun c_1 => ?_) (fun c_1 => ?_)
      · have hF := ob_pos c_1 hF
        obtain rfl := ob_one hF
        exact gw_vret () hx hb hr hlocks hP hD hS trivial dX6_clear_37
      · have hF := ob_neg c_1 hF
        refine lv_aload_n hx hb dX6_clear_17 rfl (lv_at hl 0 rfl) ?_
        refine va_get (D := G) (ci := 6) (v := .ref (q 40)) (C := RX6) (T := TX6) (N := 6) hx hb hts iX6 hown hK hP 37 wC_at37 rfl 3 (by decide) (hts _ m_461) (fun _ h9 => h9) rfl dX6_clear_18 ?_
        refine lv_iload_n hx hb dX6_clear_21 rfl (lv_at hl 1 rfl) ?_
        refine lv_iconst (v := (-1)) hx hb dX6_clear_22 (by decide) ?_
        obtain ⟨hi_2, hF⟩ := ob_if hF
        refine va_iast (D := G) hx hb hK hP hD hS 40 0 wC_at40 rfl (vp_in_iff.mpr hi_2) dX6_clear_23 (fun H locs hP hD hS => ?_)
        rw [wC_sA40] at hP hD
        have hP : va_P G vwCl (wC q cI cJ cZ cB cT (sA h 10 3 (upd (eA h 10 3) ((x1).toNatClampNeg) (-1)))) H := hP
        have hD : va_D A (wC q cI cJ cZ cB cT (sA h 10 3 (upd (eA h 10 3) ((x1).toNatClampNeg) (-1)))) := hD
        refine lv_aload_n hx hb dX6_clear_24 rfl (lv_at hl 0 rfl) ?_
        refine va_get (D := G) (ci := 6) (v := .ref (q 41)) (C := RX6) (T := TX6) (N := 6) hx hb hts iX6 hown hK hP 37 wC_at37 rfl 4 (by decide) (hts _ m_462) (fun _ h9 => h9) rfl dX6_clear_25 ?_
        refine lv_iload_n hx hb dX6_clear_28 rfl (lv_at hl 1 rfl) ?_
        refine lv_iconst (v := (-1)) hx hb dX6_clear_29 (by decide) ?_
        obtain ⟨hi_3, hF⟩ := ob_if hF
        refine va_iast (D := G) hx hb hK hP hD hS 41 0 wC_at41 rfl (vp_in_iff.mpr hi_3) dX6_clear_30 (fun H locs hP hD hS => ?_)
        rw [wC_sA41] at hP hD
        have hP : va_P G vwCl (wC q cI cJ cZ cB cT (sA (sA h 10 3 (upd (eA h 10 3) ((x1).toNatClampNeg) (-1))) 10 4 (upd (eA h 10 4) ((x1).toNatClampNeg) (-1)))) H := hP
        have hD : va_D A (wC q cI cJ cZ cB cT (sA (sA h 10 3 (upd (eA h 10 3) ((x1).toNatClampNeg) (-1))) 10 4 (upd (eA h 10 4) ((x1).toNatClampNeg) (-1)))) := hD
        refine lv_iinc (v := (x1 + 1)) (lv' := [(1, .int (x1 + 1)), (0, .ref (q 37))]) hx hb dX6_clear_31 hl (k := 1) rfl rfl (by decide) rfl (fun ls hl => ?_)
        refine lv_goto (tgt := 12) hx hb dX6_clear_34 (by decide) ?_
        exact ih_12 (sA (sA h 10 3 (upd (eA h 10 3) ((x1).toNatClampNeg) (-1))) 10 4 (upd (eA h 10 4) ((x1).toNatClampNeg) (-1))) (x1 + 1) hF H _ ls hP hD hS (lv_sub hl [1, 0] rfl)
  unfold f_X6_clear_1 at hF
  refine lv_aload_n hx hb dX6_clear_0 rfl (lv_at hl 0 rfl) ?_
  refine lv_iconst (v := 0) hx hb dX6_clear_1 (by decide) ?_
  refine va_put (D := G) (ci := 6) (v := .int 0) (ty := .int) (C := RX6) (T := TX6) (N := 6) hx hb hts iX6 tyX6 tyX6_ok nmX6 hown hK hP hD hS 37 wC_at37 rfl 1 (by decide) (hts _ m_459) (fun _ h9 => h9) rfl (tyX6_ok 1 (by decide)) rfl rfl (Nat.le_of_ble_eq_true rfl) dX6_clear_2 (fun H locs hP hD hS => ?_)
  rw [wC_sI37_1] at hP hD
  refine lv_aload_n hx hb dX6_clear_5 rfl (lv_at hl 0 rfl) ?_
  refine lv_iconst (v := 0) hx hb dX6_clear_6 (by decide) ?_
  refine va_put (D := G) (ci := 6) (v := .int 0) (ty := .int) (C := RX6) (T := TX6) (N := 6) hx hb hts iX6 tyX6 tyX6_ok nmX6 hown hK hP hD hS 37 wC_at37 rfl 5 (by decide) (hts _ m_460) (fun _ h9 => h9) rfl (tyX6_ok 5 (by decide)) rfl rfl (Nat.le_of_ble_eq_true rfl) dX6_clear_7 (fun H locs hP hD hS => ?_)
  rw [wC_sI37_5] at hP hD
  refine lv_iconst (v := 0) hx hb dX6_clear_10 (by decide) ?_
  refine lv_istore_n (lv' := [(1, .int 0), (0, .ref (q 37))]) hx hb dX6_clear_11 rfl hl (by decide) rfl (fun ls hl => ?_)
  exact hJ_12 8589934592 (sI (sI h 10 1 0) 10 5 0) 0 hF H _ ls hP hD hS (lv_sub hl [1, 0] rfl)
def f_X6_hasLaw_1_24 (h : HS) (y0 : Int32) : Option (Int32 × HS) := (if y0 = 0 ∨ y0 = 1 then (some (y0, h)) else none)
def f_X6_hasLaw_1_23 (h : HS) : Option (Int32 × HS) := (f_X6_hasLaw_1_24 h 0)
def f_X6_hasLaw_1 (h : HS) (p1 : Int32) : Option (Int32 × HS) := (if p1 < 0 then (f_X6_hasLaw_1_23 h) else (if 4 ≤ p1 then (f_X6_hasLaw_1_23 h) else (if 0 ≤ (p1).toInt ∧ (p1).toInt < 4 then (if ((eA h 10 3) ((p1).toNatClampNeg)) = (-1) then (f_X6_hasLaw_1_23 h) else (f_X6_hasLaw_1_24 h 1)) else none)))
set_option maxHeartbeats 4000000 in
set_option maxRecDepth 100000 in
theorem c_X6_hasLaw_1 (l : Launch) (G : va_G) (cI cJ cZ cB cT : ClassId) (q : Nat → Nat) (h : HS) (p1 : Int32) (rr : Int32) (hh : HS) (hF : f_X6_hasLaw_1 h p1 = some (rr, hh)) : gMi l yX6_hasLaw (gws yX6_hasLaw cX6_hasLaw 2 (some .boolean)) 1 G (gT cI cJ cZ cB cT) [.ref (q 37), .int p1] (wC q cI cJ cZ cB cT h) (fun x (_ : Unit) => x = rr) (fun (_ : Unit) => (wC q cI cJ cZ cB cT hh)) := by
  intro sz
  refine gM_start (y := yX6_hasLaw) (av := [.ref (q 37), .int p1]) (ws := (wC q cI cJ cZ cB cT h)) (Qf := fun A => va_Qi (fun x (_ : Unit) => x = rr) (gB G (fun (_ : Unit) => (wC q cI cJ cZ cB cT hh)) A) A) (cc := cX6_hasLaw) (maxL := 2) (ret := (some .boolean)) (by decide) (Nat.le_of_ble_eq_true rfl) ?_
  intro p e s m args below meth c A ls H hx hb hr hts hown hin hlocks hml hP hK hD hA hS hl hE
  have hl : lv_has ls 2 [(0, .ref (q 37)), (1, .int p1)] := hl
  have hJ_24 : ∀ (h : HS) (y0 : Int32), f_X6_hasLaw_1_24 h y0 = some (rr, hh) → ∀ (H : Heap) (locs : List Loc) (ls : Array Slot), va_P G vwCl (wC q cI cJ cZ cB cT h) H → va_D A (wC q cI cJ cZ cB cT h) → va_S A s.heap H locs → lv_has ls 2 [] → W p l e (gRm 1) s m args below meth c H locs 0 0 (MQ below (va_Qi (fun x (_ : Unit) => x = rr) (gB G (fun (_ : Unit) => (wC q cI cJ cZ cB cT hh)) A) A) args s 0 0 A) (F0 m 24 ls [.int y0]) := by
    intro h y0 hF H locs ls hP hD hS hl
    unfold f_X6_hasLaw_1_24 at hF
    obtain ⟨hz_5, hF⟩ := ob_if hF
    obtain ⟨rfl, rfl⟩ := ob_pair hF
    exact gw_zret () hx hb hr hlocks (gz hz_5) hP hD hS rfl dX6_hasLaw_24
  have hJ_23 : ∀ (h : HS), f_X6_hasLaw_1_23 h = some (rr, hh) → ∀ (H : Heap) (locs : List Loc) (ls : Array Slot), va_P G vwCl (wC q cI cJ cZ cB cT h) H → va_D A (wC q cI cJ cZ cB cT h) → va_S A s.heap H locs → lv_has ls 2 [] → W p l e (gRm 1) s m args below meth c H locs 0 0 (MQ below (va_Qi (fun x (_ : Unit) => x = rr) (gB G (fun (_ : Unit) => (wC q cI cJ cZ cB cT hh)) A) A) args s 0 0 A) (F0 m 23 ls []) := by
    intro h hF H locs ls hP hD hS hl
    unfold f_X6_hasLaw_1_23 at hF
    refine lv_iconst (v := 0) hx hb dX6_hasLaw_23 (by decide) ?_
    exact hJ_24 h 0 hF H _ ls hP hD hS (lv_sub hl [] rfl)
  unfold f_X6_hasLaw_1 at hF
  refine lv_iload_n hx hb dX6_hasLaw_0 rfl (lv_at hl 1 rfl) ?_
  refine lv_if_lt (tgt := 23) hx hb dX6_hasLaw_1 (by decide) (fun c_1 => ?_) (fun c_1 => ?_)
  · have hF := ob_pos c_1 hF
    exact hJ_23 h hF H _ ls hP hD hS (lv_sub hl [] rfl)
  · have hF := ob_neg c_1 hF
    refine lv_iload_n hx hb dX6_hasLaw_4 rfl (lv_at hl 1 rfl) ?_
    refine lv_iconst (v := 4) hx hb dX6_hasLaw_5 (by decide) ?_
    refine lv_icmp_ge (tgt := 23) hx hb dX6_hasLaw_6 (by decide) (fun c_2 => ?_) (fun c_2 => ?_)
    · have hF := ob_pos c_2 hF
      exact hJ_23 h hF H _ ls hP hD hS (lv_sub hl [] rfl)
    · have hF := ob_neg c_2 hF
      refine lv_aload_n hx hb dX6_hasLaw_9 rfl (lv_at hl 0 rfl) ?_
      refine va_get (D := G) (ci := 6) (v := .ref (q 40)) (C := RX6) (T := TX6) (N := 6) hx hb hts iX6 hown hK hP 37 wC_at37 rfl 3 (by decide) (hts _ m_461) (fun _ h9 => h9) rfl dX6_hasLaw_10 ?_
      refine lv_iload_n hx hb dX6_hasLaw_13 rfl (lv_at hl 1 rfl) ?_
      obtain ⟨hi_3, hF⟩ := ob_if hF
      refine va_iald (D := G) hx hb hK hP 40 0 wC_at40 rfl (vp_in_iff.mpr hi_3) dX6_hasLaw_14 ?_
      refine gw_topi (y := ((eA h 10 3) ((p1).toNatClampNeg))) rfl ?_
      refine lv_iconst (v := (-1)) hx hb dX6_hasLaw_15 (by decide) ?_
      refine lv_icmp_eq (tgt := 23) hx hb dX6_hasLaw_16 (by decide) (fun c_4 => ?_) (fun c_4 => ?_)
      · have hF := ob_pos c_4 hF
        exact hJ_23 h hF H _ ls hP hD hS (lv_sub hl [] rfl)
      · have hF := ob_neg c_4 hF
        refine lv_iconst (v := 1) hx hb dX6_hasLaw_19 (by decide) ?_
        refine lv_goto (tgt := 24) hx hb dX6_hasLaw_20 (by decide) ?_
        exact hJ_24 h 1 hF H _ ls hP hD hS (lv_sub hl [] rfl)
def f_X6_beginLaw_1_19 (h : HS) : Option HS := (some h)
def f_X6_beginLaw_1 (h : HS) (p1 : Int32) : Option HS := (if p1 < 0 then (f_X6_beginLaw_1_19 h) else (if 4 ≤ p1 then (f_X6_beginLaw_1_19 h) else (if 0 ≤ (p1).toInt ∧ (p1).toInt < 4 then (f_X6_beginLaw_1_19 (sA h 10 3 (upd (eA h 10 3) ((p1).toNatClampNeg) (eI h 10 5)))) else none)))
set_option maxHeartbeats 4000000 in
set_option maxRecDepth 100000 in
theorem c_X6_beginLaw_1 (l : Launch) (G : va_G) (cI cJ cZ cB cT : ClassId) (q : Nat → Nat) (h : HS) (p1 : Int32) (hh : HS) (hF : f_X6_beginLaw_1 h p1 = some hh) : gMv l yX6_beginLaw (gws yX6_beginLaw cX6_beginLaw 2 none) 1 G (gT cI cJ cZ cB cT) [.ref (q 37), .int p1] (wC q cI cJ cZ cB cT h) (fun (_ : Unit) => True) (fun (_ : Unit) => (wC q cI cJ cZ cB cT hh)) := by
  intro sz
  refine gM_start (y := yX6_beginLaw) (av := [.ref (q 37), .int p1]) (ws := (wC q cI cJ cZ cB cT h)) (Qf := fun A => va_Qv (fun (_ : Unit) => True) (gB G (fun (_ : Unit) => (wC q cI cJ cZ cB cT hh)) A) A) (cc := cX6_beginLaw) (maxL := 2) (ret := none) (by decide) (Nat.le_of_ble_eq_true rfl) ?_
  intro p e s m args below meth c A ls H hx hb hr hts hown hin hlocks hml hP hK hD hA hS hl hE
  have hl : lv_has ls 2 [(0, .ref (q 37)), (1, .int p1)] := hl
  have hJ_19 : ∀ (h : HS), f_X6_beginLaw_1_19 h = some hh → ∀ (H : Heap) (locs : List Loc) (ls : Array Slot), va_P G vwCl (wC q cI cJ cZ cB cT h) H → va_D A (wC q cI cJ cZ cB cT h) → va_S A s.heap H locs → lv_has ls 2 [] → W p l e (gRm 1) s m args below meth c H locs 0 0 (MQ below (va_Qv (fun (_ : Unit) => True) (gB G (fun (_ : Unit) => (wC q cI cJ cZ cB cT hh)) A) A) args s 0 0 A) (F0 m 19 ls []) := by
    intro h hF H locs ls hP hD hS hl
    unfold f_X6_beginLaw_1_19 at hF
    obtain rfl := ob_one hF
    exact gw_vret () hx hb hr hlocks hP hD hS trivial dX6_beginLaw_19
  unfold f_X6_beginLaw_1 at hF
  refine lv_iload_n hx hb dX6_beginLaw_0 rfl (lv_at hl 1 rfl) ?_
  refine lv_if_lt (tgt := 19) hx hb dX6_beginLaw_1 (by decide) (fun c_1 => ?_) (fun c_1 => ?_)
  · have hF := ob_pos c_1 hF
    exact hJ_19 h hF H _ ls hP hD hS (lv_sub hl [] rfl)
  · have hF := ob_neg c_1 hF
    refine lv_iload_n hx hb dX6_beginLaw_4 rfl (lv_at hl 1 rfl) ?_
    refine lv_iconst (v := 4) hx hb dX6_beginLaw_5 (by decide) ?_
    refine lv_icmp_ge (tgt := 19) hx hb dX6_beginLaw_6 (by decide) (fun c_2 => ?_) (fun c_2 => ?_)
    · have hF := ob_pos c_2 hF
      exact hJ_19 h hF H _ ls hP hD hS (lv_sub hl [] rfl)
    · have hF := ob_neg c_2 hF
      refine lv_aload_n hx hb dX6_beginLaw_9 rfl (lv_at hl 0 rfl) ?_
      refine va_get (D := G) (ci := 6) (v := .ref (q 40)) (C := RX6) (T := TX6) (N := 6) hx hb hts iX6 hown hK hP 37 wC_at37 rfl 3 (by decide) (hts _ m_461) (fun _ h9 => h9) rfl dX6_beginLaw_10 ?_
      refine lv_iload_n hx hb dX6_beginLaw_13 rfl (lv_at hl 1 rfl) ?_
      refine lv_aload_n hx hb dX6_beginLaw_14 rfl (lv_at hl 0 rfl) ?_
      refine va_get (D := G) (ci := 6) (v := .int (eI h 10 5)) (C := RX6) (T := TX6) (N := 6) hx hb hts iX6 hown hK hP 37 wC_at37 rfl 5 (by decide) (hts _ m_460) (fun _ h9 => h9) rfl dX6_beginLaw_15 ?_
      obtain ⟨hi_3, hF⟩ := ob_if hF
      refine va_iast (D := G) hx hb hK hP hD hS 40 0 wC_at40 rfl (vp_in_iff.mpr hi_3) dX6_beginLaw_18 (fun H locs hP hD hS => ?_)
      rw [wC_sA40] at hP hD
      have hP : va_P G vwCl (wC q cI cJ cZ cB cT (sA h 10 3 (upd (eA h 10 3) ((p1).toNatClampNeg) (eI h 10 5)))) H := hP
      have hD : va_D A (wC q cI cJ cZ cB cT (sA h 10 3 (upd (eA h 10 3) ((p1).toNatClampNeg) (eI h 10 5)))) := hD
      exact hJ_19 (sA h 10 3 (upd (eA h 10 3) ((p1).toNatClampNeg) (eI h 10 5))) hF H _ ls hP hD hS (lv_sub hl [] rfl)
def f_X6_closeLaw_1_19 (h : HS) : Option HS := (some h)
def f_X6_closeLaw_1 (h : HS) (p1 : Int32) : Option HS := (if p1 < 0 then (f_X6_closeLaw_1_19 h) else (if 4 ≤ p1 then (f_X6_closeLaw_1_19 h) else (if 0 ≤ (p1).toInt ∧ (p1).toInt < 4 then (f_X6_closeLaw_1_19 (sA h 10 4 (upd (eA h 10 4) ((p1).toNatClampNeg) (eI h 10 5)))) else none)))
set_option maxHeartbeats 4000000 in
set_option maxRecDepth 100000 in
theorem c_X6_closeLaw_1 (l : Launch) (G : va_G) (cI cJ cZ cB cT : ClassId) (q : Nat → Nat) (h : HS) (p1 : Int32) (hh : HS) (hF : f_X6_closeLaw_1 h p1 = some hh) : gMv l yX6_closeLaw (gws yX6_closeLaw cX6_closeLaw 2 none) 1 G (gT cI cJ cZ cB cT) [.ref (q 37), .int p1] (wC q cI cJ cZ cB cT h) (fun (_ : Unit) => True) (fun (_ : Unit) => (wC q cI cJ cZ cB cT hh)) := by
  intro sz
  refine gM_start (y := yX6_closeLaw) (av := [.ref (q 37), .int p1]) (ws := (wC q cI cJ cZ cB cT h)) (Qf := fun A => va_Qv (fun (_ : Unit) => True) (gB G (fun (_ : Unit) => (wC q cI cJ cZ cB cT hh)) A) A) (cc := cX6_closeLaw) (maxL := 2) (ret := none) (by decide) (Nat.le_of_ble_eq_true rfl) ?_
  intro p e s m args below meth c A ls H hx hb hr hts hown hin hlocks hml hP hK hD hA hS hl hE
  have hl : lv_has ls 2 [(0, .ref (q 37)), (1, .int p1)] := hl
  have hJ_19 : ∀ (h : HS), f_X6_closeLaw_1_19 h = some hh → ∀ (H : Heap) (locs : List Loc) (ls : Array Slot), va_P G vwCl (wC q cI cJ cZ cB cT h) H → va_D A (wC q cI cJ cZ cB cT h) → va_S A s.heap H locs → lv_has ls 2 [] → W p l e (gRm 1) s m args below meth c H locs 0 0 (MQ below (va_Qv (fun (_ : Unit) => True) (gB G (fun (_ : Unit) => (wC q cI cJ cZ cB cT hh)) A) A) args s 0 0 A) (F0 m 19 ls []) := by
    intro h hF H locs ls hP hD hS hl
    unfold f_X6_closeLaw_1_19 at hF
    obtain rfl := ob_one hF
    exact gw_vret () hx hb hr hlocks hP hD hS trivial dX6_closeLaw_19
  unfold f_X6_closeLaw_1 at hF
  refine lv_iload_n hx hb dX6_closeLaw_0 rfl (lv_at hl 1 rfl) ?_
  refine lv_if_lt (tgt := 19) hx hb dX6_closeLaw_1 (by decide) (fun c_1 => ?_) (fun c_1 => ?_)
  · have hF := ob_pos c_1 hF
    exact hJ_19 h hF H _ ls hP hD hS (lv_sub hl [] rfl)
  · have hF := ob_neg c_1 hF
    refine lv_iload_n hx hb dX6_closeLaw_4 rfl (lv_at hl 1 rfl) ?_
    refine lv_iconst (v := 4) hx hb dX6_closeLaw_5 (by decide) ?_
    refine lv_icmp_ge (tgt := 19) hx hb dX6_closeLaw_6 (by decide) (fun c_2 => ?_) (fun c_2 => ?_)
    · have hF := ob_pos c_2 hF
      exact hJ_19 h hF H _ ls hP hD hS (lv_sub hl [] rfl)
    · have hF := ob_neg c_2 hF
      refine lv_aload_n hx hb dX6_closeLaw_9 rfl (lv_at hl 0 rfl) ?_
      refine va_get (D := G) (ci := 6) (v := .ref (q 41)) (C := RX6) (T := TX6) (N := 6) hx hb hts iX6 hown hK hP 37 wC_at37 rfl 4 (by decide) (hts _ m_462) (fun _ h9 => h9) rfl dX6_closeLaw_10 ?_
      refine lv_iload_n hx hb dX6_closeLaw_13 rfl (lv_at hl 1 rfl) ?_
      refine lv_aload_n hx hb dX6_closeLaw_14 rfl (lv_at hl 0 rfl) ?_
      refine va_get (D := G) (ci := 6) (v := .int (eI h 10 5)) (C := RX6) (T := TX6) (N := 6) hx hb hts iX6 hown hK hP 37 wC_at37 rfl 5 (by decide) (hts _ m_460) (fun _ h9 => h9) rfl dX6_closeLaw_15 ?_
      obtain ⟨hi_3, hF⟩ := ob_if hF
      refine va_iast (D := G) hx hb hK hP hD hS 41 0 wC_at41 rfl (vp_in_iff.mpr hi_3) dX6_closeLaw_18 (fun H locs hP hD hS => ?_)
      rw [wC_sA41] at hP hD
      have hP : va_P G vwCl (wC q cI cJ cZ cB cT (sA h 10 4 (upd (eA h 10 4) ((p1).toNatClampNeg) (eI h 10 5)))) H := hP
      have hD : va_D A (wC q cI cJ cZ cB cT (sA h 10 4 (upd (eA h 10 4) ((p1).toNatClampNeg) (eI h 10 5)))) := hD
      exact hJ_19 (sA h 10 4 (upd (eA h 10 4) ((p1).toNatClampNeg) (eI h 10 5))) hF H _ ls hP hD hS (lv_sub hl [] rfl)
def f_X6_firstStep_1_19 (h : HS) (y0 : Int32) : Option (Int32 × HS) := (some (y0, h))
def f_X6_firstStep_1_18 (h : HS) : Option (Int32 × HS) := (f_X6_firstStep_1_19 h 0)
def f_X6_firstStep_1 (h : HS) (p1 : Int32) : Option (Int32 × HS) := (if p1 < 0 then (f_X6_firstStep_1_18 h) else (if 4 ≤ p1 then (f_X6_firstStep_1_18 h) else (if 0 ≤ (p1).toInt ∧ (p1).toInt < 4 then (f_X6_firstStep_1_19 h ((eA h 10 3) ((p1).toNatClampNeg))) else none)))
set_option maxHeartbeats 4000000 in
set_option maxRecDepth 100000 in
theorem c_X6_firstStep_1 (l : Launch) (G : va_G) (cI cJ cZ cB cT : ClassId) (q : Nat → Nat) (h : HS) (p1 : Int32) (rr : Int32) (hh : HS) (hF : f_X6_firstStep_1 h p1 = some (rr, hh)) : gMi l yX6_firstStep (gws yX6_firstStep cX6_firstStep 2 (some .int)) 1 G (gT cI cJ cZ cB cT) [.ref (q 37), .int p1] (wC q cI cJ cZ cB cT h) (fun x (_ : Unit) => x = rr) (fun (_ : Unit) => (wC q cI cJ cZ cB cT hh)) := by
  intro sz
  refine gM_start (y := yX6_firstStep) (av := [.ref (q 37), .int p1]) (ws := (wC q cI cJ cZ cB cT h)) (Qf := fun A => va_Qi (fun x (_ : Unit) => x = rr) (gB G (fun (_ : Unit) => (wC q cI cJ cZ cB cT hh)) A) A) (cc := cX6_firstStep) (maxL := 2) (ret := (some .int)) (by decide) (Nat.le_of_ble_eq_true rfl) ?_
  intro p e s m args below meth c A ls H hx hb hr hts hown hin hlocks hml hP hK hD hA hS hl hE
  have hl : lv_has ls 2 [(0, .ref (q 37)), (1, .int p1)] := hl
  have hJ_19 : ∀ (h : HS) (y0 : Int32), f_X6_firstStep_1_19 h y0 = some (rr, hh) → ∀ (H : Heap) (locs : List Loc) (ls : Array Slot), va_P G vwCl (wC q cI cJ cZ cB cT h) H → va_D A (wC q cI cJ cZ cB cT h) → va_S A s.heap H locs → lv_has ls 2 [] → W p l e (gRm 1) s m args below meth c H locs 0 0 (MQ below (va_Qi (fun x (_ : Unit) => x = rr) (gB G (fun (_ : Unit) => (wC q cI cJ cZ cB cT hh)) A) A) args s 0 0 A) (F0 m 19 ls [.int y0]) := by
    intro h y0 hF H locs ls hP hD hS hl
    unfold f_X6_firstStep_1_19 at hF
    obtain ⟨rfl, rfl⟩ := ob_pair hF
    exact gw_iret () hx hb hr hlocks hP hD hS rfl dX6_firstStep_19
  have hJ_18 : ∀ (h : HS), f_X6_firstStep_1_18 h = some (rr, hh) → ∀ (H : Heap) (locs : List Loc) (ls : Array Slot), va_P G vwCl (wC q cI cJ cZ cB cT h) H → va_D A (wC q cI cJ cZ cB cT h) → va_S A s.heap H locs → lv_has ls 2 [] → W p l e (gRm 1) s m args below meth c H locs 0 0 (MQ below (va_Qi (fun x (_ : Unit) => x = rr) (gB G (fun (_ : Unit) => (wC q cI cJ cZ cB cT hh)) A) A) args s 0 0 A) (F0 m 18 ls []) := by
    intro h hF H locs ls hP hD hS hl
    unfold f_X6_firstStep_1_18 at hF
    refine lv_iconst (v := 0) hx hb dX6_firstStep_18 (by decide) ?_
    exact hJ_19 h 0 hF H _ ls hP hD hS (lv_sub hl [] rfl)
  unfold f_X6_firstStep_1 at hF
  refine lv_iload_n hx hb dX6_firstStep_0 rfl (lv_at hl 1 rfl) ?_
  refine lv_if_lt (tgt := 18) hx hb dX6_firstStep_1 (by decide) (fun c_1 => ?_) (fun c_1 => ?_)
  · have hF := ob_pos c_1 hF
    exact hJ_18 h hF H _ ls hP hD hS (lv_sub hl [] rfl)
  · have hF := ob_neg c_1 hF
    refine lv_iload_n hx hb dX6_firstStep_4 rfl (lv_at hl 1 rfl) ?_
    refine lv_iconst (v := 4) hx hb dX6_firstStep_5 (by decide) ?_
    refine lv_icmp_ge (tgt := 18) hx hb dX6_firstStep_6 (by decide) (fun c_2 => ?_) (fun c_2 => ?_)
    · have hF := ob_pos c_2 hF
      exact hJ_18 h hF H _ ls hP hD hS (lv_sub hl [] rfl)
    · have hF := ob_neg c_2 hF
      refine lv_aload_n hx hb dX6_firstStep_9 rfl (lv_at hl 0 rfl) ?_
      refine va_get (D := G) (ci := 6) (v := .ref (q 40)) (C := RX6) (T := TX6) (N := 6) hx hb hts iX6 hown hK hP 37 wC_at37 rfl 3 (by decide) (hts _ m_461) (fun _ h9 => h9) rfl dX6_firstStep_10 ?_
      refine lv_iload_n hx hb dX6_firstStep_13 rfl (lv_at hl 1 rfl) ?_
      obtain ⟨hi_3, hF⟩ := ob_if hF
      refine va_iald (D := G) hx hb hK hP 40 0 wC_at40 rfl (vp_in_iff.mpr hi_3) dX6_firstStep_14 ?_
      refine gw_topi (y := ((eA h 10 3) ((p1).toNatClampNeg))) rfl ?_
      refine lv_goto (tgt := 19) hx hb dX6_firstStep_15 (by decide) ?_
      exact hJ_19 h ((eA h 10 3) ((p1).toNatClampNeg)) hF H _ ls hP hD hS (lv_sub hl [] rfl)
def f_X6_stepsEnd_1_19 (h : HS) (y0 : Int32) : Option (Int32 × HS) := (some (y0, h))
def f_X6_stepsEnd_1_18 (h : HS) : Option (Int32 × HS) := (f_X6_stepsEnd_1_19 h 0)
def f_X6_stepsEnd_1 (h : HS) (p1 : Int32) : Option (Int32 × HS) := (if p1 < 0 then (f_X6_stepsEnd_1_18 h) else (if 4 ≤ p1 then (f_X6_stepsEnd_1_18 h) else (if 0 ≤ (p1).toInt ∧ (p1).toInt < 4 then (f_X6_stepsEnd_1_19 h ((eA h 10 4) ((p1).toNatClampNeg))) else none)))
set_option maxHeartbeats 4000000 in
set_option maxRecDepth 100000 in
theorem c_X6_stepsEnd_1 (l : Launch) (G : va_G) (cI cJ cZ cB cT : ClassId) (q : Nat → Nat) (h : HS) (p1 : Int32) (rr : Int32) (hh : HS) (hF : f_X6_stepsEnd_1 h p1 = some (rr, hh)) : gMi l yX6_stepsEnd (gws yX6_stepsEnd cX6_stepsEnd 2 (some .int)) 1 G (gT cI cJ cZ cB cT) [.ref (q 37), .int p1] (wC q cI cJ cZ cB cT h) (fun x (_ : Unit) => x = rr) (fun (_ : Unit) => (wC q cI cJ cZ cB cT hh)) := by
  intro sz
  refine gM_start (y := yX6_stepsEnd) (av := [.ref (q 37), .int p1]) (ws := (wC q cI cJ cZ cB cT h)) (Qf := fun A => va_Qi (fun x (_ : Unit) => x = rr) (gB G (fun (_ : Unit) => (wC q cI cJ cZ cB cT hh)) A) A) (cc := cX6_stepsEnd) (maxL := 2) (ret := (some .int)) (by decide) (Nat.le_of_ble_eq_true rfl) ?_
  intro p e s m args below meth c A ls H hx hb hr hts hown hin hlocks hml hP hK hD hA hS hl hE
  have hl : lv_has ls 2 [(0, .ref (q 37)), (1, .int p1)] := hl
  have hJ_19 : ∀ (h : HS) (y0 : Int32), f_X6_stepsEnd_1_19 h y0 = some (rr, hh) → ∀ (H : Heap) (locs : List Loc) (ls : Array Slot), va_P G vwCl (wC q cI cJ cZ cB cT h) H → va_D A (wC q cI cJ cZ cB cT h) → va_S A s.heap H locs → lv_has ls 2 [] → W p l e (gRm 1) s m args below meth c H locs 0 0 (MQ below (va_Qi (fun x (_ : Unit) => x = rr) (gB G (fun (_ : Unit) => (wC q cI cJ cZ cB cT hh)) A) A) args s 0 0 A) (F0 m 19 ls [.int y0]) := by
    intro h y0 hF H locs ls hP hD hS hl
    unfold f_X6_stepsEnd_1_19 at hF
    obtain ⟨rfl, rfl⟩ := ob_pair hF
    exact gw_iret () hx hb hr hlocks hP hD hS rfl dX6_stepsEnd_19
  have hJ_18 : ∀ (h : HS), f_X6_stepsEnd_1_18 h = some (rr, hh) → ∀ (H : Heap) (locs : List Loc) (ls : Array Slot), va_P G vwCl (wC q cI cJ cZ cB cT h) H → va_D A (wC q cI cJ cZ cB cT h) → va_S A s.heap H locs → lv_has ls 2 [] → W p l e (gRm 1) s m args below meth c H locs 0 0 (MQ below (va_Qi (fun x (_ : Unit) => x = rr) (gB G (fun (_ : Unit) => (wC q cI cJ cZ cB cT hh)) A) A) args s 0 0 A) (F0 m 18 ls []) := by
    intro h hF H locs ls hP hD hS hl
    unfold f_X6_stepsEnd_1_18 at hF
    refine lv_iconst (v := 0) hx hb dX6_stepsEnd_18 (by decide) ?_
    exact hJ_19 h 0 hF H _ ls hP hD hS (lv_sub hl [] rfl)
  unfold f_X6_stepsEnd_1 at hF
  refine lv_iload_n hx hb dX6_stepsEnd_0 rfl (lv_at hl 1 rfl) ?_
  refine lv_if_lt (tgt := 18) hx hb dX6_stepsEnd_1 (by decide) (fun c_1 => ?_) (fun c_1 => ?_)
  · have hF := ob_pos c_1 hF
    exact hJ_18 h hF H _ ls hP hD hS (lv_sub hl [] rfl)
  · have hF := ob_neg c_1 hF
    refine lv_iload_n hx hb dX6_stepsEnd_4 rfl (lv_at hl 1 rfl) ?_
    refine lv_iconst (v := 4) hx hb dX6_stepsEnd_5 (by decide) ?_
    refine lv_icmp_ge (tgt := 18) hx hb dX6_stepsEnd_6 (by decide) (fun c_2 => ?_) (fun c_2 => ?_)
    · have hF := ob_pos c_2 hF
      exact hJ_18 h hF H _ ls hP hD hS (lv_sub hl [] rfl)
    · have hF := ob_neg c_2 hF
      refine lv_aload_n hx hb dX6_stepsEnd_9 rfl (lv_at hl 0 rfl) ?_
      refine va_get (D := G) (ci := 6) (v := .ref (q 41)) (C := RX6) (T := TX6) (N := 6) hx hb hts iX6 hown hK hP 37 wC_at37 rfl 4 (by decide) (hts _ m_462) (fun _ h9 => h9) rfl dX6_stepsEnd_10 ?_
      refine lv_iload_n hx hb dX6_stepsEnd_13 rfl (lv_at hl 1 rfl) ?_
      obtain ⟨hi_3, hF⟩ := ob_if hF
      refine va_iald (D := G) hx hb hK hP 41 0 wC_at41 rfl (vp_in_iff.mpr hi_3) dX6_stepsEnd_14 ?_
      refine gw_topi (y := ((eA h 10 4) ((p1).toNatClampNeg))) rfl ?_
      refine lv_goto (tgt := 19) hx hb dX6_stepsEnd_15 (by decide) ?_
      exact hJ_19 h ((eA h 10 4) ((p1).toNatClampNeg)) hF H _ ls hP hD hS (lv_sub hl [] rfl)
def f_X6_addStep_1_32 (h : HS) : Option HS := (some h)
def f_X6_addStep_1 (h : HS) (p1 : Int32) : Option HS := (if 300 ≤ (eI h 10 5) then (f_X6_addStep_1_32 h) else (if 0 ≤ ((eI h 10 5)).toInt ∧ ((eI h 10 5)).toInt < 300 then (f_X6_addStep_1_32 (sI (sA h 10 2 (upd (eA h 10 2) (((eI h 10 5)).toNatClampNeg) p1)) 10 5 ((eI h 10 5) + 1))) else none))
set_option maxHeartbeats 4000000 in
set_option maxRecDepth 100000 in
theorem c_X6_addStep_1 (l : Launch) (G : va_G) (cI cJ cZ cB cT : ClassId) (q : Nat → Nat) (h : HS) (p1 : Int32) (hh : HS) (hF : f_X6_addStep_1 h p1 = some hh) : gMv l yX6_addStep (gws yX6_addStep cX6_addStep 2 none) 1 G (gT cI cJ cZ cB cT) [.ref (q 37), .int p1] (wC q cI cJ cZ cB cT h) (fun (_ : Unit) => True) (fun (_ : Unit) => (wC q cI cJ cZ cB cT hh)) := by
  intro sz
  refine gM_start (y := yX6_addStep) (av := [.ref (q 37), .int p1]) (ws := (wC q cI cJ cZ cB cT h)) (Qf := fun A => va_Qv (fun (_ : Unit) => True) (gB G (fun (_ : Unit) => (wC q cI cJ cZ cB cT hh)) A) A) (cc := cX6_addStep) (maxL := 2) (ret := none) (by decide) (Nat.le_of_ble_eq_true rfl) ?_
  intro p e s m args below meth c A ls H hx hb hr hts hown hin hlocks hml hP hK hD hA hS hl hE
  have hl : lv_has ls 2 [(0, .ref (q 37)), (1, .int p1)] := hl
  have hJ_32 : ∀ (h : HS), f_X6_addStep_1_32 h = some hh → ∀ (H : Heap) (locs : List Loc) (ls : Array Slot), va_P G vwCl (wC q cI cJ cZ cB cT h) H → va_D A (wC q cI cJ cZ cB cT h) → va_S A s.heap H locs → lv_has ls 2 [] → W p l e (gRm 1) s m args below meth c H locs 0 0 (MQ below (va_Qv (fun (_ : Unit) => True) (gB G (fun (_ : Unit) => (wC q cI cJ cZ cB cT hh)) A) A) args s 0 0 A) (F0 m 32 ls []) := by
    intro h hF H locs ls hP hD hS hl
    unfold f_X6_addStep_1_32 at hF
    obtain rfl := ob_one hF
    exact gw_vret () hx hb hr hlocks hP hD hS trivial dX6_addStep_32
  unfold f_X6_addStep_1 at hF
  refine lv_aload_n hx hb dX6_addStep_0 rfl (lv_at hl 0 rfl) ?_
  refine va_get (D := G) (ci := 6) (v := .int (eI h 10 5)) (C := RX6) (T := TX6) (N := 6) hx hb hts iX6 hown hK hP 37 wC_at37 rfl 5 (by decide) (hts _ m_460) (fun _ h9 => h9) rfl dX6_addStep_1 ?_
  refine lv_aload_n hx hb dX6_addStep_4 rfl (lv_at hl 0 rfl) ?_
  refine va_get (D := G) (ci := 6) (v := .ref (q 39)) (C := RX6) (T := TX6) (N := 6) hx hb hts iX6 hown hK hP 37 wC_at37 rfl 2 (by decide) (hts _ m_463) (fun _ h9 => h9) rfl dX6_addStep_5 ?_
  refine va_alen (D := G) hx hb hK hP 39 0 wC_at39 rfl (v := 300) rfl dX6_addStep_8 ?_
  refine lv_icmp_ge (tgt := 32) hx hb dX6_addStep_9 (by decide) (fun c_1 => ?_) (fun c_1 => ?_)
  · have hF := ob_pos c_1 hF
    exact hJ_32 h hF H _ ls hP hD hS (lv_sub hl [] rfl)
  · have hF := ob_neg c_1 hF
    refine lv_aload_n hx hb dX6_addStep_12 rfl (lv_at hl 0 rfl) ?_
    refine va_get (D := G) (ci := 6) (v := .ref (q 39)) (C := RX6) (T := TX6) (N := 6) hx hb hts iX6 hown hK hP 37 wC_at37 rfl 2 (by decide) (hts _ m_463) (fun _ h9 => h9) rfl dX6_addStep_13 ?_
    refine lv_aload_n hx hb dX6_addStep_16 rfl (lv_at hl 0 rfl) ?_
    refine va_get (D := G) (ci := 6) (v := .int (eI h 10 5)) (C := RX6) (T := TX6) (N := 6) hx hb hts iX6 hown hK hP 37 wC_at37 rfl 5 (by decide) (hts _ m_460) (fun _ h9 => h9) rfl dX6_addStep_17 ?_
    refine lv_iload_n hx hb dX6_addStep_20 rfl (lv_at hl 1 rfl) ?_
    obtain ⟨hi_2, hF⟩ := ob_if hF
    refine va_iast (D := G) hx hb hK hP hD hS 39 0 wC_at39 rfl (vp_in_iff.mpr hi_2) dX6_addStep_21 (fun H locs hP hD hS => ?_)
    rw [wC_sA39] at hP hD
    have hP : va_P G vwCl (wC q cI cJ cZ cB cT (sA h 10 2 (upd (eA h 10 2) (((eI h 10 5)).toNatClampNeg) p1))) H := hP
    have hD : va_D A (wC q cI cJ cZ cB cT (sA h 10 2 (upd (eA h 10 2) (((eI h 10 5)).toNatClampNeg) p1))) := hD
    refine lv_aload_n hx hb dX6_addStep_22 rfl (lv_at hl 0 rfl) ?_
    refine lv_dup hx hb dX6_addStep_23 rfl ?_
    refine va_get (D := G) (ci := 6) (v := .int (eI h 10 5)) (C := RX6) (T := TX6) (N := 6) hx hb hts iX6 hown hK hP 37 wC_at37 rfl 5 (by decide) (hts _ m_460) (fun _ h9 => h9) rfl dX6_addStep_24 ?_
    refine lv_iconst (v := 1) hx hb dX6_addStep_27 (by decide) ?_
    refine lv_iadd hx hb dX6_addStep_28 ?_
    refine va_put (D := G) (ci := 6) (v := .int ((eI h 10 5) + 1)) (ty := .int) (C := RX6) (T := TX6) (N := 6) hx hb hts iX6 tyX6 tyX6_ok nmX6 hown hK hP hD hS 37 wC_at37 rfl 5 (by decide) (hts _ m_460) (fun _ h9 => h9) rfl (tyX6_ok 5 (by decide)) rfl rfl (Nat.le_of_ble_eq_true rfl) dX6_addStep_29 (fun H locs hP hD hS => ?_)
    rw [wC_sI37_5] at hP hD
    exact hJ_32 (sI (sA h 10 2 (upd (eA h 10 2) (((eI h 10 5)).toNatClampNeg) p1)) 10 5 ((eI h 10 5) + 1)) hF H _ ls hP hD hS (lv_sub hl [] rfl)
def f_X6_stepAt_1_31 (h : HS) (y0 : Int32) : Option (Int32 × HS) := (some (y0, h))
def f_X6_stepAt_1_30 (h : HS) : Option (Int32 × HS) := (f_X6_stepAt_1_31 h 0)
def f_X6_stepAt_1 (h : HS) (p1 : Int32) : Option (Int32 × HS) := (if p1 < 0 then (f_X6_stepAt_1_30 h) else (if (eI h 10 5) ≤ p1 then (f_X6_stepAt_1_30 h) else (if 300 ≤ p1 then (f_X6_stepAt_1_30 h) else (if 0 ≤ (p1).toInt ∧ (p1).toInt < 300 then (f_X6_stepAt_1_31 h ((eA h 10 2) ((p1).toNatClampNeg))) else none))))
set_option maxHeartbeats 4000000 in
set_option maxRecDepth 100000 in
theorem c_X6_stepAt_1 (l : Launch) (G : va_G) (cI cJ cZ cB cT : ClassId) (q : Nat → Nat) (h : HS) (p1 : Int32) (rr : Int32) (hh : HS) (hF : f_X6_stepAt_1 h p1 = some (rr, hh)) : gMi l yX6_stepAt (gws yX6_stepAt cX6_stepAt 2 (some .int)) 1 G (gT cI cJ cZ cB cT) [.ref (q 37), .int p1] (wC q cI cJ cZ cB cT h) (fun x (_ : Unit) => x = rr) (fun (_ : Unit) => (wC q cI cJ cZ cB cT hh)) := by
  intro sz
  refine gM_start (y := yX6_stepAt) (av := [.ref (q 37), .int p1]) (ws := (wC q cI cJ cZ cB cT h)) (Qf := fun A => va_Qi (fun x (_ : Unit) => x = rr) (gB G (fun (_ : Unit) => (wC q cI cJ cZ cB cT hh)) A) A) (cc := cX6_stepAt) (maxL := 2) (ret := (some .int)) (by decide) (Nat.le_of_ble_eq_true rfl) ?_
  intro p e s m args below meth c A ls H hx hb hr hts hown hin hlocks hml hP hK hD hA hS hl hE
  have hl : lv_has ls 2 [(0, .ref (q 37)), (1, .int p1)] := hl
  have hJ_31 : ∀ (h : HS) (y0 : Int32), f_X6_stepAt_1_31 h y0 = some (rr, hh) → ∀ (H : Heap) (locs : List Loc) (ls : Array Slot), va_P G vwCl (wC q cI cJ cZ cB cT h) H → va_D A (wC q cI cJ cZ cB cT h) → va_S A s.heap H locs → lv_has ls 2 [] → W p l e (gRm 1) s m args below meth c H locs 0 0 (MQ below (va_Qi (fun x (_ : Unit) => x = rr) (gB G (fun (_ : Unit) => (wC q cI cJ cZ cB cT hh)) A) A) args s 0 0 A) (F0 m 31 ls [.int y0]) := by
    intro h y0 hF H locs ls hP hD hS hl
    unfold f_X6_stepAt_1_31 at hF
    obtain ⟨rfl, rfl⟩ := ob_pair hF
    exact gw_iret () hx hb hr hlocks hP hD hS rfl dX6_stepAt_31
  have hJ_30 : ∀ (h : HS), f_X6_stepAt_1_30 h = some (rr, hh) → ∀ (H : Heap) (locs : List Loc) (ls : Array Slot), va_P G vwCl (wC q cI cJ cZ cB cT h) H → va_D A (wC q cI cJ cZ cB cT h) → va_S A s.heap H locs → lv_has ls 2 [] → W p l e (gRm 1) s m args below meth c H locs 0 0 (MQ below (va_Qi (fun x (_ : Unit) => x = rr) (gB G (fun (_ : Unit) => (wC q cI cJ cZ cB cT hh)) A) A) args s 0 0 A) (F0 m 30 ls []) := by
    intro h hF H locs ls hP hD hS hl
    unfold f_X6_stepAt_1_30 at hF
    refine lv_iconst (v := 0) hx hb dX6_stepAt_30 (by decide) ?_
    exact hJ_31 h 0 hF H _ ls hP hD hS (lv_sub hl [] rfl)
  unfold f_X6_stepAt_1 at hF
  refine lv_iload_n hx hb dX6_stepAt_0 rfl (lv_at hl 1 rfl) ?_
  refine lv_if_lt (tgt := 30) hx hb dX6_stepAt_1 (by decide) (fun c_1 => ?_) (fun c_1 => ?_)
  · have hF := ob_pos c_1 hF
    exact hJ_30 h hF H _ ls hP hD hS (lv_sub hl [] rfl)
  · have hF := ob_neg c_1 hF
    refine lv_iload_n hx hb dX6_stepAt_4 rfl (lv_at hl 1 rfl) ?_
    refine lv_aload_n hx hb dX6_stepAt_5 rfl (lv_at hl 0 rfl) ?_
    refine va_get (D := G) (ci := 6) (v := .int (eI h 10 5)) (C := RX6) (T := TX6) (N := 6) hx hb hts iX6 hown hK hP 37 wC_at37 rfl 5 (by decide) (hts _ m_460) (fun _ h9 => h9) rfl dX6_stepAt_6 ?_
    refine lv_icmp_ge (tgt := 30) hx hb dX6_stepAt_9 (by decide) (fun c_2 => ?_) (fun c_2 => ?_)
    · have hF := ob_pos c_2 hF
      exact hJ_30 h hF H _ ls hP hD hS (lv_sub hl [] rfl)
    · have hF := ob_neg c_2 hF
      refine lv_iload_n hx hb dX6_stepAt_12 rfl (lv_at hl 1 rfl) ?_
      refine lv_aload_n hx hb dX6_stepAt_13 rfl (lv_at hl 0 rfl) ?_
      refine va_get (D := G) (ci := 6) (v := .ref (q 39)) (C := RX6) (T := TX6) (N := 6) hx hb hts iX6 hown hK hP 37 wC_at37 rfl 2 (by decide) (hts _ m_463) (fun _ h9 => h9) rfl dX6_stepAt_14 ?_
      refine va_alen (D := G) hx hb hK hP 39 0 wC_at39 rfl (v := 300) rfl dX6_stepAt_17 ?_
      refine lv_icmp_ge (tgt := 30) hx hb dX6_stepAt_18 (by decide) (fun c_3 => ?_) (fun c_3 => ?_)
      · have hF := ob_pos c_3 hF
        exact hJ_30 h hF H _ ls hP hD hS (lv_sub hl [] rfl)
      · have hF := ob_neg c_3 hF
        refine lv_aload_n hx hb dX6_stepAt_21 rfl (lv_at hl 0 rfl) ?_
        refine va_get (D := G) (ci := 6) (v := .ref (q 39)) (C := RX6) (T := TX6) (N := 6) hx hb hts iX6 hown hK hP 37 wC_at37 rfl 2 (by decide) (hts _ m_463) (fun _ h9 => h9) rfl dX6_stepAt_22 ?_
        refine lv_iload_n hx hb dX6_stepAt_25 rfl (lv_at hl 1 rfl) ?_
        obtain ⟨hi_4, hF⟩ := ob_if hF
        refine va_iald (D := G) hx hb hK hP 39 0 wC_at39 rfl (vp_in_iff.mpr hi_4) dX6_stepAt_26 ?_
        refine gw_topi (y := ((eA h 10 2) ((p1).toNatClampNeg))) rfl ?_
        refine lv_goto (tgt := 31) hx hb dX6_stepAt_27 (by decide) ?_
        exact hJ_31 h ((eA h 10 2) ((p1).toNatClampNeg)) hF H _ ls hP hD hS (lv_sub hl [] rfl)
def f_X6_clauseField_1_19 (h : HS) : Option (Int32 × HS) := (some ((-1), h))
def f_X6_clauseField_1 (h : HS) (p1 : Int32) (p2 : Int32) : Option (Int32 × HS) := (if p1 < 0 then (f_X6_clauseField_1_19 h) else (if 24 ≤ p1 then (f_X6_clauseField_1_19 h) else (if p2 < 0 then (f_X6_clauseField_1_19 h) else (if p2 < 4 then (if 0 ≤ (((p1 * 4) + p2)).toInt ∧ (((p1 * 4) + p2)).toInt < 96 then (some (((eA h 10 0) ((((p1 * 4) + p2)).toNatClampNeg)), h)) else none) else (f_X6_clauseField_1_19 h)))))
set_option maxHeartbeats 4000000 in
set_option maxRecDepth 100000 in
theorem c_X6_clauseField_1 (l : Launch) (G : va_G) (cI cJ cZ cB cT : ClassId) (q : Nat → Nat) (h : HS) (p1 : Int32) (p2 : Int32) (rr : Int32) (hh : HS) (hF : f_X6_clauseField_1 h p1 p2 = some (rr, hh)) : gMi l yX6_clauseField (gws yX6_clauseField cX6_clauseField 3 (some .int)) 1 G (gT cI cJ cZ cB cT) [.ref (q 37), .int p1, .int p2] (wC q cI cJ cZ cB cT h) (fun x (_ : Unit) => x = rr) (fun (_ : Unit) => (wC q cI cJ cZ cB cT hh)) := by
  intro sz
  refine gM_start (y := yX6_clauseField) (av := [.ref (q 37), .int p1, .int p2]) (ws := (wC q cI cJ cZ cB cT h)) (Qf := fun A => va_Qi (fun x (_ : Unit) => x = rr) (gB G (fun (_ : Unit) => (wC q cI cJ cZ cB cT hh)) A) A) (cc := cX6_clauseField) (maxL := 3) (ret := (some .int)) (by decide) (Nat.le_of_ble_eq_true rfl) ?_
  intro p e s m args below meth c A ls H hx hb hr hts hown hin hlocks hml hP hK hD hA hS hl hE
  have hl : lv_has ls 3 [(0, .ref (q 37)), (1, .int p1), (2, .int p2)] := hl
  have hJ_19 : ∀ (h : HS), f_X6_clauseField_1_19 h = some (rr, hh) → ∀ (H : Heap) (locs : List Loc) (ls : Array Slot), va_P G vwCl (wC q cI cJ cZ cB cT h) H → va_D A (wC q cI cJ cZ cB cT h) → va_S A s.heap H locs → lv_has ls 3 [] → W p l e (gRm 1) s m args below meth c H locs 0 0 (MQ below (va_Qi (fun x (_ : Unit) => x = rr) (gB G (fun (_ : Unit) => (wC q cI cJ cZ cB cT hh)) A) A) args s 0 0 A) (F0 m 19 ls []) := by
    intro h hF H locs ls hP hD hS hl
    unfold f_X6_clauseField_1_19 at hF
    refine lv_iconst (v := (-1)) hx hb dX6_clauseField_19 (by decide) ?_
    obtain ⟨rfl, rfl⟩ := ob_pair hF
    exact gw_iret () hx hb hr hlocks hP hD hS rfl dX6_clauseField_20
  unfold f_X6_clauseField_1 at hF
  refine lv_iload_n hx hb dX6_clauseField_0 rfl (lv_at hl 1 rfl) ?_
  refine lv_if_lt (tgt := 19) hx hb dX6_clauseField_1 (by decide) (fun c_1 => ?_) (fun c_1 => ?_)
  · have hF := ob_pos c_1 hF
    exact hJ_19 h hF H _ ls hP hD hS (lv_sub hl [] rfl)
  · have hF := ob_neg c_1 hF
    refine lv_iload_n hx hb dX6_clauseField_4 rfl (lv_at hl 1 rfl) ?_
    refine lv_bipush (v := 24) hx hb dX6_clauseField_5 (by decide) ?_
    refine lv_icmp_ge (tgt := 19) hx hb dX6_clauseField_7 (by decide) (fun c_2 => ?_) (fun c_2 => ?_)
    · have hF := ob_pos c_2 hF
      exact hJ_19 h hF H _ ls hP hD hS (lv_sub hl [] rfl)
    · have hF := ob_neg c_2 hF
      refine lv_iload_n hx hb dX6_clauseField_10 rfl (lv_at hl 2 rfl) ?_
      refine lv_if_lt (tgt := 19) hx hb dX6_clauseField_11 (by decide) (fun c_3 => ?_) (fun c_3 => ?_)
      · have hF := ob_pos c_3 hF
        exact hJ_19 h hF H _ ls hP hD hS (lv_sub hl [] rfl)
      · have hF := ob_neg c_3 hF
        refine lv_iload_n hx hb dX6_clauseField_14 rfl (lv_at hl 2 rfl) ?_
        refine lv_iconst (v := 4) hx hb dX6_clauseField_15 (by decide) ?_
        refine lv_icmp_lt (tgt := 21) hx hb dX6_clauseField_16 (by decide) (fun c_4 => ?_) (fun c_4 => ?_)
        · have hF := ob_pos c_4 hF
          refine lv_aload_n hx hb dX6_clauseField_21 rfl (lv_at hl 0 rfl) ?_
          refine va_get (D := G) (ci := 6) (v := .ref (q 38)) (C := RX6) (T := TX6) (N := 6) hx hb hts iX6 hown hK hP 37 wC_at37 rfl 0 (by decide) (hts _ m_464) (fun _ h9 => h9) rfl dX6_clauseField_22 ?_
          refine lv_iload_n hx hb dX6_clauseField_25 rfl (lv_at hl 1 rfl) ?_
          refine lv_iconst (v := 4) hx hb dX6_clauseField_26 (by decide) ?_
          refine lv_imul hx hb dX6_clauseField_27 ?_
          refine lv_iload_n hx hb dX6_clauseField_28 rfl (lv_at hl 2 rfl) ?_
          refine lv_iadd hx hb dX6_clauseField_29 ?_
          obtain ⟨hi_5, hF⟩ := ob_if hF
          refine va_iald (D := G) hx hb hK hP 38 0 wC_at38 rfl (vp_in_iff.mpr hi_5) dX6_clauseField_30 ?_
          refine gw_topi (y := ((eA h 10 0) ((((p1 * 4) + p2)).toNatClampNeg))) rfl ?_
          obtain ⟨rfl, rfl⟩ := ob_pair hF
          exact gw_iret () hx hb hr hlocks hP hD hS rfl dX6_clauseField_31
        · have hF := ob_neg c_4 hF
          exact hJ_19 h hF H _ ls hP hD hS (lv_sub hl [] rfl)
def f_X6_setClause_1_30 (h : HS) : Option HS := (some h)
def f_X6_setClause_1 (h : HS) (p1 : Int32) (p2 : Int32) (p3 : Int32) : Option HS := (if p1 < 0 then (f_X6_setClause_1_30 h) else (if 24 ≤ p1 then (f_X6_setClause_1_30 h) else (if p2 < 0 then (f_X6_setClause_1_30 h) else (if 4 ≤ p2 then (f_X6_setClause_1_30 h) else (if 0 ≤ (((p1 * 4) + p2)).toInt ∧ (((p1 * 4) + p2)).toInt < 96 then (f_X6_setClause_1_30 (sA h 10 0 (upd (eA h 10 0) ((((p1 * 4) + p2)).toNatClampNeg) p3))) else none)))))
set_option maxHeartbeats 4000000 in
set_option maxRecDepth 100000 in
theorem c_X6_setClause_1 (l : Launch) (G : va_G) (cI cJ cZ cB cT : ClassId) (q : Nat → Nat) (h : HS) (p1 : Int32) (p2 : Int32) (p3 : Int32) (hh : HS) (hF : f_X6_setClause_1 h p1 p2 p3 = some hh) : gMv l yX6_setClause (gws yX6_setClause cX6_setClause 4 none) 1 G (gT cI cJ cZ cB cT) [.ref (q 37), .int p1, .int p2, .int p3] (wC q cI cJ cZ cB cT h) (fun (_ : Unit) => True) (fun (_ : Unit) => (wC q cI cJ cZ cB cT hh)) := by
  intro sz
  refine gM_start (y := yX6_setClause) (av := [.ref (q 37), .int p1, .int p2, .int p3]) (ws := (wC q cI cJ cZ cB cT h)) (Qf := fun A => va_Qv (fun (_ : Unit) => True) (gB G (fun (_ : Unit) => (wC q cI cJ cZ cB cT hh)) A) A) (cc := cX6_setClause) (maxL := 4) (ret := none) (by decide) (Nat.le_of_ble_eq_true rfl) ?_
  intro p e s m args below meth c A ls H hx hb hr hts hown hin hlocks hml hP hK hD hA hS hl hE
  have hl : lv_has ls 4 [(0, .ref (q 37)), (1, .int p1), (2, .int p2), (3, .int p3)] := hl
  have hJ_30 : ∀ (h : HS), f_X6_setClause_1_30 h = some hh → ∀ (H : Heap) (locs : List Loc) (ls : Array Slot), va_P G vwCl (wC q cI cJ cZ cB cT h) H → va_D A (wC q cI cJ cZ cB cT h) → va_S A s.heap H locs → lv_has ls 4 [] → W p l e (gRm 1) s m args below meth c H locs 0 0 (MQ below (va_Qv (fun (_ : Unit) => True) (gB G (fun (_ : Unit) => (wC q cI cJ cZ cB cT hh)) A) A) args s 0 0 A) (F0 m 30 ls []) := by
    intro h hF H locs ls hP hD hS hl
    unfold f_X6_setClause_1_30 at hF
    obtain rfl := ob_one hF
    exact gw_vret () hx hb hr hlocks hP hD hS trivial dX6_setClause_30
  unfold f_X6_setClause_1 at hF
  refine lv_iload_n hx hb dX6_setClause_0 rfl (lv_at hl 1 rfl) ?_
  refine lv_if_lt (tgt := 30) hx hb dX6_setClause_1 (by decide) (fun c_1 => ?_) (fun c_1 => ?_)
  · have hF := ob_pos c_1 hF
    exact hJ_30 h hF H _ ls hP hD hS (lv_sub hl [] rfl)
  · have hF := ob_neg c_1 hF
    refine lv_iload_n hx hb dX6_setClause_4 rfl (lv_at hl 1 rfl) ?_
    refine lv_bipush (v := 24) hx hb dX6_setClause_5 (by decide) ?_
    refine lv_icmp_ge (tgt := 30) hx hb dX6_setClause_7 (by decide) (fun c_2 => ?_) (fun c_2 => ?_)
    · have hF := ob_pos c_2 hF
      exact hJ_30 h hF H _ ls hP hD hS (lv_sub hl [] rfl)
    · have hF := ob_neg c_2 hF
      refine lv_iload_n hx hb dX6_setClause_10 rfl (lv_at hl 2 rfl) ?_
      refine lv_if_lt (tgt := 30) hx hb dX6_setClause_11 (by decide) (fun c_3 => ?_) (fun c_3 => ?_)
      · have hF := ob_pos c_3 hF
        exact hJ_30 h hF H _ ls hP hD hS (lv_sub hl [] rfl)
      · have hF := ob_neg c_3 hF
        refine lv_iload_n hx hb dX6_setClause_14 rfl (lv_at hl 2 rfl) ?_
        refine lv_iconst (v := 4) hx hb dX6_setClause_15 (by decide) ?_
        refine lv_icmp_ge (tgt := 30) hx hb dX6_setClause_16 (by decide) (fun c_4 => ?_) (fun c_4 => ?_)
        · have hF := ob_pos c_4 hF
          exact hJ_30 h hF H _ ls hP hD hS (lv_sub hl [] rfl)
        · have hF := ob_neg c_4 hF
          refine lv_aload_n hx hb dX6_setClause_19 rfl (lv_at hl 0 rfl) ?_
          refine va_get (D := G) (ci := 6) (v := .ref (q 38)) (C := RX6) (T := TX6) (N := 6) hx hb hts iX6 hown hK hP 37 wC_at37 rfl 0 (by decide) (hts _ m_464) (fun _ h9 => h9) rfl dX6_setClause_20 ?_
          refine lv_iload_n hx hb dX6_setClause_23 rfl (lv_at hl 1 rfl) ?_
          refine lv_iconst (v := 4) hx hb dX6_setClause_24 (by decide) ?_
          refine lv_imul hx hb dX6_setClause_25 ?_
          refine lv_iload_n hx hb dX6_setClause_26 rfl (lv_at hl 2 rfl) ?_
          refine lv_iadd hx hb dX6_setClause_27 ?_
          refine lv_iload_n hx hb dX6_setClause_28 rfl (lv_at hl 3 rfl) ?_
          obtain ⟨hi_5, hF⟩ := ob_if hF
          refine va_iast (D := G) hx hb hK hP hD hS 38 0 wC_at38 rfl (vp_in_iff.mpr hi_5) dX6_setClause_29 (fun H locs hP hD hS => ?_)
          rw [wC_sA38] at hP hD
          have hP : va_P G vwCl (wC q cI cJ cZ cB cT (sA h 10 0 (upd (eA h 10 0) ((((p1 * 4) + p2)).toNatClampNeg) p3))) H := hP
          have hD : va_D A (wC q cI cJ cZ cB cT (sA h 10 0 (upd (eA h 10 0) ((((p1 * 4) + p2)).toNatClampNeg) p3))) := hD
          exact hJ_30 (sA h 10 0 (upd (eA h 10 0) ((((p1 * 4) + p2)).toNatClampNeg) p3)) hF H _ ls hP hD hS (lv_sub hl [] rfl)
def f_X6_clear_2_12 : Nat → HS → Int32 → Option HS
  | 0, _, _ => none
  | n + 1, h, x1 => (if 4 ≤ x1 then (some h) else (if 0 ≤ (x1).toInt ∧ (x1).toInt < 4 then (if 0 ≤ (x1).toInt ∧ (x1).toInt < 4 then ((f_X6_clear_2_12 n) (sA (sA h 11 3 (upd (eA h 11 3) ((x1).toNatClampNeg) (-1))) 11 4 (upd (eA h 11 4) ((x1).toNatClampNeg) (-1))) (x1 + 1)) else none) else none))
theorem f_X6_clear_2_12_s (n : Nat) (h : HS) (x1 : Int32) : f_X6_clear_2_12 (n + 1) h x1 = (if 4 ≤ x1 then (some h) else (if 0 ≤ (x1).toInt ∧ (x1).toInt < 4 then (if 0 ≤ (x1).toInt ∧ (x1).toInt < 4 then ((f_X6_clear_2_12 n) (sA (sA h 11 3 (upd (eA h 11 3) ((x1).toNatClampNeg) (-1))) 11 4 (upd (eA h 11 4) ((x1).toNatClampNeg) (-1))) (x1 + 1)) else none) else none)) := rfl
def f_X6_clear_2 (h : HS) : Option HS := (f_X6_clear_2_12 8589934592 (sI (sI h 11 1 0) 11 5 0) 0)
set_option maxHeartbeats 4000000 in
set_option maxRecDepth 100000 in
theorem c_X6_clear_2 (l : Launch) (G : va_G) (cI cJ cZ cB cT : ClassId) (q : Nat → Nat) (h : HS)  (hh : HS) (hF : f_X6_clear_2 h = some hh) : gMv l yX6_clear (gws yX6_clear cX6_clear 2 none) 1 G (gT cI cJ cZ cB cT) [.ref (q 42)] (wC q cI cJ cZ cB cT h) (fun (_ : Unit) => True) (fun (_ : Unit) => (wC q cI cJ cZ cB cT hh)) := by
  intro sz
  refine gM_start (y := yX6_clear) (av := [.ref (q 42)]) (ws := (wC q cI cJ cZ cB cT h)) (Qf := fun A => va_Qv (fun (_ : Unit) => True) (gB G (fun (_ : Unit) => (wC q cI cJ cZ cB cT hh)) A) A) (cc := cX6_clear) (maxL := 2) (ret := none) (by decide) (Nat.le_of_ble_eq_true rfl) ?_
  intro p e s m args below meth c A ls H hx hb hr hts hown hin hlocks hml hP hK hD hA hS hl hE
  have hl : lv_has ls 2 [(0, .ref (q 42))] := hl
  have hJ_12 : ∀ (n_12 : Nat) (h : HS) (x1 : Int32), f_X6_clear_2_12 n_12 h x1 = some hh → ∀ (H : Heap) (locs : List Loc) (ls : Array Slot), va_P G vwCl (wC q cI cJ cZ cB cT h) H → va_D A (wC q cI cJ cZ cB cT h) → va_S A s.heap H locs → lv_has ls 2 [(0, .ref (q 42)), (1, .int x1)] → W p l e (gRm 1) s m args below meth c H locs 0 0 (MQ below (va_Qv (fun (_ : Unit) => True) (gB G (fun (_ : Unit) => (wC q cI cJ cZ cB cT hh)) A) A) args s 0 0 A) (F0 m 12 ls []) := by
    intro n_12
    induction n_12 with
    | zero =>
      intro h x1 hF
      exact absurd hF (by simp [f_X6_clear_2_12])
    | succ n_12 ih_12 =>
      intro h x1 hF H locs ls hP hD hS hl
      rw [f_X6_clear_2_12_s] at hF
      refine lv_iload_n hx hb dX6_clear_12 rfl (lv_at hl 1 rfl) ?_
      refine lv_iconst (v := 4) hx hb dX6_clear_13 (by decide) ?_
      refine lv_icmp_ge (tgt := 37) hx hb dX6_clear_14 (by decide) (fun c_1 => ?_) (fun c_1 => ?_)
      · have hF := ob_pos c_1 hF
        obtain rfl := ob_one hF
        exact gw_vret () hx hb hr hlocks hP hD hS trivial dX6_clear_37
      · have hF := ob_neg c_1 hF
        refine lv_aload_n hx hb dX6_clear_17 rfl (lv_at hl 0 rfl) ?_
        refine va_get (D := G) (ci := 6) (v := .ref (q 45)) (C := RX6) (T := TX6) (N := 6) hx hb hts iX6 hown hK hP 42 wC_at42 rfl 3 (by decide) (hts _ m_461) (fun _ h9 => h9) rfl dX6_clear_18 ?_
        refine lv_iload_n hx hb dX6_clear_21 rfl (lv_at hl 1 rfl) ?_
        refine lv_iconst (v := (-1)) hx hb dX6_clear_22 (by decide) ?_
        obtain ⟨hi_2, hF⟩ := ob_if hF
        refine va_iast (D := G) hx hb hK hP hD hS 45 0 wC_at45 rfl (vp_in_iff.mpr hi_2) dX6_clear_23 (fun H locs hP hD hS => ?_)
        rw [wC_sA45] at hP hD
        have hP : va_P G vwCl (wC q cI cJ cZ cB cT (sA h 11 3 (upd (eA h 11 3) ((x1).toNatClampNeg) (-1)))) H := hP
        have hD : va_D A (wC q cI cJ cZ cB cT (sA h 11 3 (upd (eA h 11 3) ((x1).toNatClampNeg) (-1)))) := hD
        refine lv_aload_n hx hb dX6_clear_24 rfl (lv_at hl 0 rfl) ?_
        refine va_get (D := G) (ci := 6) (v := .ref (q 46)) (C := RX6) (T := TX6) (N := 6) hx hb hts iX6 hown hK hP 42 wC_at42 rfl 4 (by decide) (hts _ m_462) (fun _ h9 => h9) rfl dX6_clear_25 ?_
        refine lv_iload_n hx hb dX6_clear_28 rfl (lv_at hl 1 rfl) ?_
        refine lv_iconst (v := (-1)) hx hb dX6_clear_29 (by decide) ?_
        obtain ⟨hi_3, hF⟩ := ob_if hF
        refine va_iast (D := G) hx hb hK hP hD hS 46 0 wC_at46 rfl (vp_in_iff.mpr hi_3) dX6_clear_30 (fun H locs hP hD hS => ?_)
        rw [wC_sA46] at hP hD
        have hP : va_P G vwCl (wC q cI cJ cZ cB cT (sA (sA h 11 3 (upd (eA h 11 3) ((x1).toNatClampNeg) (-1))) 11 4 (upd (eA h 11 4) ((x1).toNatClampNeg) (-1)))) H := hP
        have hD : va_D A (wC q cI cJ cZ cB cT (sA (sA h 11 3 (upd (eA h 11 3) ((x1).toNatClampNeg) (-1))) 11 4 (upd (eA h 11 4) ((x1).toNatClampNeg) (-1)))) := hD
        refine lv_iinc (v := (x1 + 1)) (lv' := [(1, .int (x1 + 1)), (0, .ref (q 42))]) hx hb dX6_clear_31 hl (k := 1) rfl rfl (by decide) rfl (fun ls hl => ?_)
        refine lv_goto (tgt := 12) hx hb dX6_clear_34 (by decide) ?_
        exact ih_12 (sA (sA h 11 3 (upd (eA h 11 3) ((x1).toNatClampNeg) (-1))) 11 4 (upd (eA h 11 4) ((x1).toNatClampNeg) (-1))) (x1 + 1) hF H _ ls hP hD hS (lv_sub hl [1, 0] rfl)
  unfold f_X6_clear_2 at hF
  refine lv_aload_n hx hb dX6_clear_0 rfl (lv_at hl 0 rfl) ?_
  refine lv_iconst (v := 0) hx hb dX6_clear_1 (by decide) ?_
  refine va_put (D := G) (ci := 6) (v := .int 0) (ty := .int) (C := RX6) (T := TX6) (N := 6) hx hb hts iX6 tyX6 tyX6_ok nmX6 hown hK hP hD hS 42 wC_at42 rfl 1 (by decide) (hts _ m_459) (fun _ h9 => h9) rfl (tyX6_ok 1 (by decide)) rfl rfl (Nat.le_of_ble_eq_true rfl) dX6_clear_2 (fun H locs hP hD hS => ?_)
  rw [wC_sI42_1] at hP hD
  refine lv_aload_n hx hb dX6_clear_5 rfl (lv_at hl 0 rfl) ?_
  refine lv_iconst (v := 0) hx hb dX6_clear_6 (by decide) ?_
  refine va_put (D := G) (ci := 6) (v := .int 0) (ty := .int) (C := RX6) (T := TX6) (N := 6) hx hb hts iX6 tyX6 tyX6_ok nmX6 hown hK hP hD hS 42 wC_at42 rfl 5 (by decide) (hts _ m_460) (fun _ h9 => h9) rfl (tyX6_ok 5 (by decide)) rfl rfl (Nat.le_of_ble_eq_true rfl) dX6_clear_7 (fun H locs hP hD hS => ?_)
  rw [wC_sI42_5] at hP hD
  refine lv_iconst (v := 0) hx hb dX6_clear_10 (by decide) ?_
  refine lv_istore_n (lv' := [(1, .int 0), (0, .ref (q 42))]) hx hb dX6_clear_11 rfl hl (by decide) rfl (fun ls hl => ?_)
  exact hJ_12 8589934592 (sI (sI h 11 1 0) 11 5 0) 0 hF H _ ls hP hD hS (lv_sub hl [1, 0] rfl)
def f_X6_hasLaw_2_24 (h : HS) (y0 : Int32) : Option (Int32 × HS) := (if y0 = 0 ∨ y0 = 1 then (some (y0, h)) else none)
def f_X6_hasLaw_2_23 (h : HS) : Option (Int32 × HS) := (f_X6_hasLaw_2_24 h 0)
def f_X6_hasLaw_2 (h : HS) (p1 : Int32) : Option (Int32 × HS) := (if p1 < 0 then (f_X6_hasLaw_2_23 h) else (if 4 ≤ p1 then (f_X6_hasLaw_2_23 h) else (if 0 ≤ (p1).toInt ∧ (p1).toInt < 4 then (if ((eA h 11 3) ((p1).toNatClampNeg)) = (-1) then (f_X6_hasLaw_2_23 h) else (f_X6_hasLaw_2_24 h 1)) else none)))
set_option maxHeartbeats 4000000 in
set_option maxRecDepth 100000 in
theorem c_X6_hasLaw_2 (l : Launch) (G : va_G) (cI cJ cZ cB cT : ClassId) (q : Nat → Nat) (h : HS) (p1 : Int32) (rr : Int32) (hh : HS) (hF : f_X6_hasLaw_2 h p1 = some (rr, hh)) : gMi l yX6_hasLaw (gws yX6_hasLaw cX6_hasLaw 2 (some .boolean)) 1 G (gT cI cJ cZ cB cT) [.ref (q 42), .int p1] (wC q cI cJ cZ cB cT h) (fun x (_ : Unit) => x = rr) (fun (_ : Unit) => (wC q cI cJ cZ cB cT hh)) := by
  intro sz
  refine gM_start (y := yX6_hasLaw) (av := [.ref (q 42), .int p1]) (ws := (wC q cI cJ cZ cB cT h)) (Qf := fun A => va_Qi (fun x (_ : Unit) => x = rr) (gB G (fun (_ : Unit) => (wC q cI cJ cZ cB cT hh)) A) A) (cc := cX6_hasLaw) (maxL := 2) (ret := (some .boolean)) (by decide) (Nat.le_of_ble_eq_true rfl) ?_
  intro p e s m args below meth c A ls H hx hb hr hts hown hin hlocks hml hP hK hD hA hS hl hE
  have hl : lv_has ls 2 [(0, .ref (q 42)), (1, .int p1)] := hl
  have hJ_24 : ∀ (h : HS) (y0 : Int32), f_X6_hasLaw_2_24 h y0 = some (rr, hh) → ∀ (H : Heap) (locs : List Loc) (ls : Array Slot), va_P G vwCl (wC q cI cJ cZ cB cT h) H → va_D A (wC q cI cJ cZ cB cT h) → va_S A s.heap H locs → lv_has ls 2 [] → W p l e (gRm 1) s m args below meth c H locs 0 0 (MQ below (va_Qi (fun x (_ : Unit) => x = rr) (gB G (fun (_ : Unit) => (wC q cI cJ cZ cB cT hh)) A) A) args s 0 0 A) (F0 m 24 ls [.int y0]) := by
    intro h y0 hF H locs ls hP hD hS hl
    unfold f_X6_hasLaw_2_24 at hF
    obtain ⟨hz_5, hF⟩ := ob_if hF
    obtain ⟨rfl, rfl⟩ := ob_pair hF
    exact gw_zret () hx hb hr hlocks (gz hz_5) hP hD hS rfl dX6_hasLaw_24
  have hJ_23 : ∀ (h : HS), f_X6_hasLaw_2_23 h = some (rr, hh) → ∀ (H : Heap) (locs : List Loc) (ls : Array Slot), va_P G vwCl (wC q cI cJ cZ cB cT h) H → va_D A (wC q cI cJ cZ cB cT h) → va_S A s.heap H locs → lv_has ls 2 [] → W p l e (gRm 1) s m args below meth c H locs 0 0 (MQ below (va_Qi (fun x (_ : Unit) => x = rr) (gB G (fun (_ : Unit) => (wC q cI cJ cZ cB cT hh)) A) A) args s 0 0 A) (F0 m 23 ls []) := by
    intro h hF H locs ls hP hD hS hl
    unfold f_X6_hasLaw_2_23 at hF
    refine lv_iconst (v := 0) hx hb dX6_hasLaw_23 (by decide) ?_
    exact hJ_24 h 0 hF H _ ls hP hD hS (lv_sub hl [] rfl)
  unfold f_X6_hasLaw_2 at hF
  refine lv_iload_n hx hb dX6_hasLaw_0 rfl (lv_at hl 1 rfl) ?_
  refine lv_if_lt (tgt := 23) hx hb dX6_hasLaw_1 (by decide) (fun c_1 => ?_) (fun c_1 => ?_)
  · have hF := ob_pos c_1 hF
    exact hJ_23 h hF H _ ls hP hD hS (lv_sub hl [] rfl)
  · have hF := ob_neg c_1 hF
    refine lv_iload_n hx hb dX6_hasLaw_4 rfl (lv_at hl 1 rfl) ?_
    refine lv_iconst (v := 4) hx hb dX6_hasLaw_5 (by decide) ?_
    refine lv_icmp_ge (tgt := 23) hx hb dX6_hasLaw_6 (by decide) (fun c_2 => ?_) (fun c_2 => ?_)
    · have hF := ob_pos c_2 hF
      exact hJ_23 h hF H _ ls hP hD hS (lv_sub hl [] rfl)
    · have hF := ob_neg c_2 hF
      refine lv_aload_n hx hb dX6_hasLaw_9 rfl (lv_at hl 0 rfl) ?_
      refine va_get (D := G) (ci := 6) (v := .ref (q 45)) (C := RX6) (T := TX6) (N := 6) hx hb hts iX6 hown hK hP 42 wC_at42 rfl 3 (by decide) (hts _ m_461) (fun _ h9 => h9) rfl dX6_hasLaw_10 ?_
      refine lv_iload_n hx hb dX6_hasLaw_13 rfl (lv_at hl 1 rfl) ?_
      obtain ⟨hi_3, hF⟩ := ob_if hF
      refine va_iald (D := G) hx hb hK hP 45 0 wC_at45 rfl (vp_in_iff.mpr hi_3) dX6_hasLaw_14 ?_
      refine gw_topi (y := ((eA h 11 3) ((p1).toNatClampNeg))) rfl ?_
      refine lv_iconst (v := (-1)) hx hb dX6_hasLaw_15 (by decide) ?_
      refine lv_icmp_eq (tgt := 23) hx hb dX6_hasLaw_16 (by decide) (fun c_4 => ?_) (fun c_4 => ?_)
      · have hF := ob_pos c_4 hF
        exact hJ_23 h hF H _ ls hP hD hS (lv_sub hl [] rfl)
      · have hF := ob_neg c_4 hF
        refine lv_iconst (v := 1) hx hb dX6_hasLaw_19 (by decide) ?_
        refine lv_goto (tgt := 24) hx hb dX6_hasLaw_20 (by decide) ?_
        exact hJ_24 h 1 hF H _ ls hP hD hS (lv_sub hl [] rfl)
def f_X6_beginLaw_2_19 (h : HS) : Option HS := (some h)
def f_X6_beginLaw_2 (h : HS) (p1 : Int32) : Option HS := (if p1 < 0 then (f_X6_beginLaw_2_19 h) else (if 4 ≤ p1 then (f_X6_beginLaw_2_19 h) else (if 0 ≤ (p1).toInt ∧ (p1).toInt < 4 then (f_X6_beginLaw_2_19 (sA h 11 3 (upd (eA h 11 3) ((p1).toNatClampNeg) (eI h 11 5)))) else none)))
set_option maxHeartbeats 4000000 in
set_option maxRecDepth 100000 in
theorem c_X6_beginLaw_2 (l : Launch) (G : va_G) (cI cJ cZ cB cT : ClassId) (q : Nat → Nat) (h : HS) (p1 : Int32) (hh : HS) (hF : f_X6_beginLaw_2 h p1 = some hh) : gMv l yX6_beginLaw (gws yX6_beginLaw cX6_beginLaw 2 none) 1 G (gT cI cJ cZ cB cT) [.ref (q 42), .int p1] (wC q cI cJ cZ cB cT h) (fun (_ : Unit) => True) (fun (_ : Unit) => (wC q cI cJ cZ cB cT hh)) := by
  intro sz
  refine gM_start (y := yX6_beginLaw) (av := [.ref (q 42), .int p1]) (ws := (wC q cI cJ cZ cB cT h)) (Qf := fun A => va_Qv (fun (_ : Unit) => True) (gB G (fun (_ : Unit) => (wC q cI cJ cZ cB cT hh)) A) A) (cc := cX6_beginLaw) (maxL := 2) (ret := none) (by decide) (Nat.le_of_ble_eq_true rfl) ?_
  intro p e s m args below meth c A ls H hx hb hr hts hown hin hlocks hml hP hK hD hA hS hl hE
  have hl : lv_has ls 2 [(0, .ref (q 42)), (1, .int p1)] := hl
  have hJ_19 : ∀ (h : HS), f_X6_beginLaw_2_19 h = some hh → ∀ (H : Heap) (locs : List Loc) (ls : Array Slot), va_P G vwCl (wC q cI cJ cZ cB cT h) H → va_D A (wC q cI cJ cZ cB cT h) → va_S A s.heap H locs → lv_has ls 2 [] → W p l e (gRm 1) s m args below meth c H locs 0 0 (MQ below (va_Qv (fun (_ : Unit) => True) (gB G (fun (_ : Unit) => (wC q cI cJ cZ cB cT hh)) A) A) args s 0 0 A) (F0 m 19 ls []) := by
    intro h hF H locs ls hP hD hS hl
    unfold f_X6_beginLaw_2_19 at hF
    obtain rfl := ob_one hF
    exact gw_vret () hx hb hr hlocks hP hD hS trivial dX6_beginLaw_19
  unfold f_X6_beginLaw_2 at hF
  refine lv_iload_n hx hb dX6_beginLaw_0 rfl (lv_at hl 1 rfl) ?_
  refine lv_if_lt (tgt := 19) hx hb dX6_beginLaw_1 (by decide) (fun c_1 => ?_) (fun c_1 => ?_)
  · have hF := ob_pos c_1 hF
    exact hJ_19 h hF H _ ls hP hD hS (lv_sub hl [] rfl)
  · have hF := ob_neg c_1 hF
    refine lv_iload_n hx hb dX6_beginLaw_4 rfl (lv_at hl 1 rfl) ?_
    refine lv_iconst (v := 4) hx hb dX6_beginLaw_5 (by decide) ?_
    refine lv_icmp_ge (tgt := 19) hx hb dX6_beginLaw_6 (by decide) (fun c_2 => ?_) (fun c_2 => ?_)
    · have hF := ob_pos c_2 hF
      exact hJ_19 h hF H _ ls hP hD hS (lv_sub hl [] rfl)
    · have hF := ob_neg c_2 hF
      refine lv_aload_n hx hb dX6_beginLaw_9 rfl (lv_at hl 0 rfl) ?_
      refine va_get (D := G) (ci := 6) (v := .ref (q 45)) (C := RX6) (T := TX6) (N := 6) hx hb hts iX6 hown hK hP 42 wC_at42 rfl 3 (by decide) (hts _ m_461) (fun _ h9 => h9) rfl dX6_beginLaw_10 ?_
      refine lv_iload_n hx hb dX6_beginLaw_13 rfl (lv_at hl 1 rfl) ?_
      refine lv_aload_n hx hb dX6_beginLaw_14 rfl (lv_at hl 0 rfl) ?_
      refine va_get (D := G) (ci := 6) (v := .int (eI h 11 5)) (C := RX6) (T := TX6) (N := 6) hx hb hts iX6 hown hK hP 42 wC_at42 rfl 5 (by decide) (hts _ m_460) (fun _ h9 => h9) rfl dX6_beginLaw_15 ?_
      obtain ⟨hi_3, hF⟩ := ob_if hF
      refine va_iast (D := G) hx hb hK hP hD hS 45 0 wC_at45 rfl (vp_in_iff.mpr hi_3) dX6_beginLaw_18 (fun H locs hP hD hS => ?_)
      rw [wC_sA45] at hP hD
      have hP : va_P G vwCl (wC q cI cJ cZ cB cT (sA h 11 3 (upd (eA h 11 3) ((p1).toNatClampNeg) (eI h 11 5)))) H := hP
      have hD : va_D A (wC q cI cJ cZ cB cT (sA h 11 3 (upd (eA h 11 3) ((p1).toNatClampNeg) (eI h 11 5)))) := hD
      exact hJ_19 (sA h 11 3 (upd (eA h 11 3) ((p1).toNatClampNeg) (eI h 11 5))) hF H _ ls hP hD hS (lv_sub hl [] rfl)
def f_X6_closeLaw_2_19 (h : HS) : Option HS := (some h)
def f_X6_closeLaw_2 (h : HS) (p1 : Int32) : Option HS := (if p1 < 0 then (f_X6_closeLaw_2_19 h) else (if 4 ≤ p1 then (f_X6_closeLaw_2_19 h) else (if 0 ≤ (p1).toInt ∧ (p1).toInt < 4 then (f_X6_closeLaw_2_19 (sA h 11 4 (upd (eA h 11 4) ((p1).toNatClampNeg) (eI h 11 5)))) else none)))
set_option maxHeartbeats 4000000 in
set_option maxRecDepth 100000 in
theorem c_X6_closeLaw_2 (l : Launch) (G : va_G) (cI cJ cZ cB cT : ClassId) (q : Nat → Nat) (h : HS) (p1 : Int32) (hh : HS) (hF : f_X6_closeLaw_2 h p1 = some hh) : gMv l yX6_closeLaw (gws yX6_closeLaw cX6_closeLaw 2 none) 1 G (gT cI cJ cZ cB cT) [.ref (q 42), .int p1] (wC q cI cJ cZ cB cT h) (fun (_ : Unit) => True) (fun (_ : Unit) => (wC q cI cJ cZ cB cT hh)) := by
  intro sz
  refine gM_start (y := yX6_closeLaw) (av := [.ref (q 42), .int p1]) (ws := (wC q cI cJ cZ cB cT h)) (Qf := fun A => va_Qv (fun (_ : Unit) => True) (gB G (fun (_ : Unit) => (wC q cI cJ cZ cB cT hh)) A) A) (cc := cX6_closeLaw) (maxL := 2) (ret := none) (by decide) (Nat.le_of_ble_eq_true rfl) ?_
  intro p e s m args below meth c A ls H hx hb hr hts hown hin hlocks hml hP hK hD hA hS hl hE
  have hl : lv_has ls 2 [(0, .ref (q 42)), (1, .int p1)] := hl
  have hJ_19 : ∀ (h : HS), f_X6_closeLaw_2_19 h = some hh → ∀ (H : Heap) (locs : List Loc) (ls : Array Slot), va_P G vwCl (wC q cI cJ cZ cB cT h) H → va_D A (wC q cI cJ cZ cB cT h) → va_S A s.heap H locs → lv_has ls 2 [] → W p l e (gRm 1) s m args below meth c H locs 0 0 (MQ below (va_Qv (fun (_ : Unit) => True) (gB G (fun (_ : Unit) => (wC q cI cJ cZ cB cT hh)) A) A) args s 0 0 A) (F0 m 19 ls []) := by
    intro h hF H locs ls hP hD hS hl
    unfold f_X6_closeLaw_2_19 at hF
    obtain rfl := ob_one hF
    exact gw_vret () hx hb hr hlocks hP hD hS trivial dX6_closeLaw_19
  unfold f_X6_closeLaw_2 at hF
  refine lv_iload_n hx hb dX6_closeLaw_0 rfl (lv_at hl 1 rfl) ?_
  refine lv_if_lt (tgt := 19) hx hb dX6_closeLaw_1 (by decide) (fun c_1 => ?_) (fun c_1 => ?_)
  · have hF := ob_pos c_1 hF
    exact hJ_19 h hF H _ ls hP hD hS (lv_sub hl [] rfl)
  · have hF := ob_neg c_1 hF
    refine lv_iload_n hx hb dX6_closeLaw_4 rfl (lv_at hl 1 rfl) ?_
    refine lv_iconst (v := 4) hx hb dX6_closeLaw_5 (by decide) ?_
    refine lv_icmp_ge (tgt := 19) hx hb dX6_closeLaw_6 (by decide) (fun c_2 => ?_) (fun c_2 => ?_)
    · have hF := ob_pos c_2 hF
      exact hJ_19 h hF H _ ls hP hD hS (lv_sub hl [] rfl)
    · have hF := ob_neg c_2 hF
      refine lv_aload_n hx hb dX6_closeLaw_9 rfl (lv_at hl 0 rfl) ?_
      refine va_get (D := G) (ci := 6) (v := .ref (q 46)) (C := RX6) (T := TX6) (N := 6) hx hb hts iX6 hown hK hP 42 wC_at42 rfl 4 (by decide) (hts _ m_462) (fun _ h9 => h9) rfl dX6_closeLaw_10 ?_
      refine lv_iload_n hx hb dX6_closeLaw_13 rfl (lv_at hl 1 rfl) ?_
      refine lv_aload_n hx hb dX6_closeLaw_14 rfl (lv_at hl 0 rfl) ?_
      refine va_get (D := G) (ci := 6) (v := .int (eI h 11 5)) (C := RX6) (T := TX6) (N := 6) hx hb hts iX6 hown hK hP 42 wC_at42 rfl 5 (by decide) (hts _ m_460) (fun _ h9 => h9) rfl dX6_closeLaw_15 ?_
      obtain ⟨hi_3, hF⟩ := ob_if hF
      refine va_iast (D := G) hx hb hK hP hD hS 46 0 wC_at46 rfl (vp_in_iff.mpr hi_3) dX6_closeLaw_18 (fun H locs hP hD hS => ?_)
      rw [wC_sA46] at hP hD
      have hP : va_P G vwCl (wC q cI cJ cZ cB cT (sA h 11 4 (upd (eA h 11 4) ((p1).toNatClampNeg) (eI h 11 5)))) H := hP
      have hD : va_D A (wC q cI cJ cZ cB cT (sA h 11 4 (upd (eA h 11 4) ((p1).toNatClampNeg) (eI h 11 5)))) := hD
      exact hJ_19 (sA h 11 4 (upd (eA h 11 4) ((p1).toNatClampNeg) (eI h 11 5))) hF H _ ls hP hD hS (lv_sub hl [] rfl)
def f_X6_firstStep_2_19 (h : HS) (y0 : Int32) : Option (Int32 × HS) := (some (y0, h))
def f_X6_firstStep_2_18 (h : HS) : Option (Int32 × HS) := (f_X6_firstStep_2_19 h 0)
def f_X6_firstStep_2 (h : HS) (p1 : Int32) : Option (Int32 × HS) := (if p1 < 0 then (f_X6_firstStep_2_18 h) else (if 4 ≤ p1 then (f_X6_firstStep_2_18 h) else (if 0 ≤ (p1).toInt ∧ (p1).toInt < 4 then (f_X6_firstStep_2_19 h ((eA h 11 3) ((p1).toNatClampNeg))) else none)))
set_option maxHeartbeats 4000000 in
set_option maxRecDepth 100000 in
theorem c_X6_firstStep_2 (l : Launch) (G : va_G) (cI cJ cZ cB cT : ClassId) (q : Nat → Nat) (h : HS) (p1 : Int32) (rr : Int32) (hh : HS) (hF : f_X6_firstStep_2 h p1 = some (rr, hh)) : gMi l yX6_firstStep (gws yX6_firstStep cX6_firstStep 2 (some .int)) 1 G (gT cI cJ cZ cB cT) [.ref (q 42), .int p1] (wC q cI cJ cZ cB cT h) (fun x (_ : Unit) => x = rr) (fun (_ : Unit) => (wC q cI cJ cZ cB cT hh)) := by
  intro sz
  refine gM_start (y := yX6_firstStep) (av := [.ref (q 42), .int p1]) (ws := (wC q cI cJ cZ cB cT h)) (Qf := fun A => va_Qi (fun x (_ : Unit) => x = rr) (gB G (fun (_ : Unit) => (wC q cI cJ cZ cB cT hh)) A) A) (cc := cX6_firstStep) (maxL := 2) (ret := (some .int)) (by decide) (Nat.le_of_ble_eq_true rfl) ?_
  intro p e s m args below meth c A ls H hx hb hr hts hown hin hlocks hml hP hK hD hA hS hl hE
  have hl : lv_has ls 2 [(0, .ref (q 42)), (1, .int p1)] := hl
  have hJ_19 : ∀ (h : HS) (y0 : Int32), f_X6_firstStep_2_19 h y0 = some (rr, hh) → ∀ (H : Heap) (locs : List Loc) (ls : Array Slot), va_P G vwCl (wC q cI cJ cZ cB cT h) H → va_D A (wC q cI cJ cZ cB cT h) → va_S A s.heap H locs → lv_has ls 2 [] → W p l e (gRm 1) s m args below meth c H locs 0 0 (MQ below (va_Qi (fun x (_ : Unit) => x = rr) (gB G (fun (_ : Unit) => (wC q cI cJ cZ cB cT hh)) A) A) args s 0 0 A) (F0 m 19 ls [.int y0]) := by
    intro h y0 hF H locs ls hP hD hS hl
    unfold f_X6_firstStep_2_19 at hF
    obtain ⟨rfl, rfl⟩ := ob_pair hF
    exact gw_iret () hx hb hr hlocks hP hD hS rfl dX6_firstStep_19
  have hJ_18 : ∀ (h : HS), f_X6_firstStep_2_18 h = some (rr, hh) → ∀ (H : Heap) (locs : List Loc) (ls : Array Slot), va_P G vwCl (wC q cI cJ cZ cB cT h) H → va_D A (wC q cI cJ cZ cB cT h) → va_S A s.heap H locs → lv_has ls 2 [] → W p l e (gRm 1) s m args below meth c H locs 0 0 (MQ below (va_Qi (fun x (_ : Unit) => x = rr) (gB G (fun (_ : Unit) => (wC q cI cJ cZ cB cT hh)) A) A) args s 0 0 A) (F0 m 18 ls []) := by
    intro h hF H locs ls hP hD hS hl
    unfold f_X6_firstStep_2_18 at hF
    refine lv_iconst (v := 0) hx hb dX6_firstStep_18 (by decide) ?_
    exact hJ_19 h 0 hF H _ ls hP hD hS (lv_sub hl [] rfl)
  unfold f_X6_firstStep_2 at hF
  refine lv_iload_n hx hb dX6_firstStep_0 rfl (lv_at hl 1 rfl) ?_
  refine lv_if_lt (tgt := 18) hx hb dX6_firstStep_1 (by decide) (fun c_1 => ?_) (fun c_1 => ?_)
  · have hF := ob_pos c_1 hF
    exact hJ_18 h hF H _ ls hP hD hS (lv_sub hl [] rfl)
  · have hF := ob_neg c_1 hF
    refine lv_iload_n hx hb dX6_firstStep_4 rfl (lv_at hl 1 rfl) ?_
    refine lv_iconst (v := 4) hx hb dX6_firstStep_5 (by decide) ?_
    refine lv_icmp_ge (tgt := 18) hx hb dX6_firstStep_6 (by decide) (fun c_2 => ?_) (fun c_2 => ?_)
    · have hF := ob_pos c_2 hF
      exact hJ_18 h hF H _ ls hP hD hS (lv_sub hl [] rfl)
    · have hF := ob_neg c_2 hF
      refine lv_aload_n hx hb dX6_firstStep_9 rfl (lv_at hl 0 rfl) ?_
      refine va_get (D := G) (ci := 6) (v := .ref (q 45)) (C := RX6) (T := TX6) (N := 6) hx hb hts iX6 hown hK hP 42 wC_at42 rfl 3 (by decide) (hts _ m_461) (fun _ h9 => h9) rfl dX6_firstStep_10 ?_
      refine lv_iload_n hx hb dX6_firstStep_13 rfl (lv_at hl 1 rfl) ?_
      obtain ⟨hi_3, hF⟩ := ob_if hF
      refine va_iald (D := G) hx hb hK hP 45 0 wC_at45 rfl (vp_in_iff.mpr hi_3) dX6_firstStep_14 ?_
      refine gw_topi (y := ((eA h 11 3) ((p1).toNatClampNeg))) rfl ?_
      refine lv_goto (tgt := 19) hx hb dX6_firstStep_15 (by decide) ?_
      exact hJ_19 h ((eA h 11 3) ((p1).toNatClampNeg)) hF H _ ls hP hD hS (lv_sub hl [] rfl)
def f_X6_stepsEnd_2_19 (h : HS) (y0 : Int32) : Option (Int32 × HS) := (some (y0, h))
def f_X6_stepsEnd_2_18 (h : HS) : Option (Int32 × HS) := (f_X6_stepsEnd_2_19 h 0)
def f_X6_stepsEnd_2 (h : HS) (p1 : Int32) : Option (Int32 × HS) := (if p1 < 0 then (f_X6_stepsEnd_2_18 h) else (if 4 ≤ p1 then (f_X6_stepsEnd_2_18 h) else (if 0 ≤ (p1).toInt ∧ (p1).toInt < 4 then (f_X6_stepsEnd_2_19 h ((eA h 11 4) ((p1).toNatClampNeg))) else none)))
set_option maxHeartbeats 4000000 in
set_option maxRecDepth 100000 in
theorem c_X6_stepsEnd_2 (l : Launch) (G : va_G) (cI cJ cZ cB cT : ClassId) (q : Nat → Nat) (h : HS) (p1 : Int32) (rr : Int32) (hh : HS) (hF : f_X6_stepsEnd_2 h p1 = some (rr, hh)) : gMi l yX6_stepsEnd (gws yX6_stepsEnd cX6_stepsEnd 2 (some .int)) 1 G (gT cI cJ cZ cB cT) [.ref (q 42), .int p1] (wC q cI cJ cZ cB cT h) (fun x (_ : Unit) => x = rr) (fun (_ : Unit) => (wC q cI cJ cZ cB cT hh)) := by
  intro sz
  refine gM_start (y := yX6_stepsEnd) (av := [.ref (q 42), .int p1]) (ws := (wC q cI cJ cZ cB cT h)) (Qf := fun A => va_Qi (fun x (_ : Unit) => x = rr) (gB G (fun (_ : Unit) => (wC q cI cJ cZ cB cT hh)) A) A) (cc := cX6_stepsEnd) (maxL := 2) (ret := (some .int)) (by decide) (Nat.le_of_ble_eq_true rfl) ?_
  intro p e s m args below meth c A ls H hx hb hr hts hown hin hlocks hml hP hK hD hA hS hl hE
  have hl : lv_has ls 2 [(0, .ref (q 42)), (1, .int p1)] := hl
  have hJ_19 : ∀ (h : HS) (y0 : Int32), f_X6_stepsEnd_2_19 h y0 = some (rr, hh) → ∀ (H : Heap) (locs : List Loc) (ls : Array Slot), va_P G vwCl (wC q cI cJ cZ cB cT h) H → va_D A (wC q cI cJ cZ cB cT h) → va_S A s.heap H locs → lv_has ls 2 [] → W p l e (gRm 1) s m args below meth c H locs 0 0 (MQ below (va_Qi (fun x (_ : Unit) => x = rr) (gB G (fun (_ : Unit) => (wC q cI cJ cZ cB cT hh)) A) A) args s 0 0 A) (F0 m 19 ls [.int y0]) := by
    intro h y0 hF H locs ls hP hD hS hl
    unfold f_X6_stepsEnd_2_19 at hF
    obtain ⟨rfl, rfl⟩ := ob_pair hF
    exact gw_iret () hx hb hr hlocks hP hD hS rfl dX6_stepsEnd_19
  have hJ_18 : ∀ (h : HS), f_X6_stepsEnd_2_18 h = some (rr, hh) → ∀ (H : Heap) (locs : List Loc) (ls : Array Slot), va_P G vwCl (wC q cI cJ cZ cB cT h) H → va_D A (wC q cI cJ cZ cB cT h) → va_S A s.heap H locs → lv_has ls 2 [] → W p l e (gRm 1) s m args below meth c H locs 0 0 (MQ below (va_Qi (fun x (_ : Unit) => x = rr) (gB G (fun (_ : Unit) => (wC q cI cJ cZ cB cT hh)) A) A) args s 0 0 A) (F0 m 18 ls []) := by
    intro h hF H locs ls hP hD hS hl
    unfold f_X6_stepsEnd_2_18 at hF
    refine lv_iconst (v := 0) hx hb dX6_stepsEnd_18 (by decide) ?_
    exact hJ_19 h 0 hF H _ ls hP hD hS (lv_sub hl [] rfl)
  unfold f_X6_stepsEnd_2 at hF
  refine lv_iload_n hx hb dX6_stepsEnd_0 rfl (lv_at hl 1 rfl) ?_
  refine lv_if_lt (tgt := 18) hx hb dX6_stepsEnd_1 (by decide) (fun c_1 => ?_) (fun c_1 => ?_)
  · have hF := ob_pos c_1 hF
    exact hJ_18 h hF H _ ls hP hD hS (lv_sub hl [] rfl)
  · have hF := ob_neg c_1 hF
    refine lv_iload_n hx hb dX6_stepsEnd_4 rfl (lv_at hl 1 rfl) ?_
    refine lv_iconst (v := 4) hx hb dX6_stepsEnd_5 (by decide) ?_
    refine lv_icmp_ge (tgt := 18) hx hb dX6_stepsEnd_6 (by decide) (fun c_2 => ?_) (fun c_2 => ?_)
    · have hF := ob_pos c_2 hF
      exact hJ_18 h hF H _ ls hP hD hS (lv_sub hl [] rfl)
    · have hF := ob_neg c_2 hF
      refine lv_aload_n hx hb dX6_stepsEnd_9 rfl (lv_at hl 0 rfl) ?_
      refine va_get (D := G) (ci := 6) (v := .ref (q 46)) (C := RX6) (T := TX6) (N := 6) hx hb hts iX6 hown hK hP 42 wC_at42 rfl 4 (by decide) (hts _ m_462) (fun _ h9 => h9) rfl dX6_stepsEnd_10 ?_
      refine lv_iload_n hx hb dX6_stepsEnd_13 rfl (lv_at hl 1 rfl) ?_
      obtain ⟨hi_3, hF⟩ := ob_if hF
      refine va_iald (D := G) hx hb hK hP 46 0 wC_at46 rfl (vp_in_iff.mpr hi_3) dX6_stepsEnd_14 ?_
      refine gw_topi (y := ((eA h 11 4) ((p1).toNatClampNeg))) rfl ?_
      refine lv_goto (tgt := 19) hx hb dX6_stepsEnd_15 (by decide) ?_
      exact hJ_19 h ((eA h 11 4) ((p1).toNatClampNeg)) hF H _ ls hP hD hS (lv_sub hl [] rfl)
def f_X6_addStep_2_32 (h : HS) : Option HS := (some h)
def f_X6_addStep_2 (h : HS) (p1 : Int32) : Option HS := (if 300 ≤ (eI h 11 5) then (f_X6_addStep_2_32 h) else (if 0 ≤ ((eI h 11 5)).toInt ∧ ((eI h 11 5)).toInt < 300 then (f_X6_addStep_2_32 (sI (sA h 11 2 (upd (eA h 11 2) (((eI h 11 5)).toNatClampNeg) p1)) 11 5 ((eI h 11 5) + 1))) else none))
set_option maxHeartbeats 4000000 in
set_option maxRecDepth 100000 in
theorem c_X6_addStep_2 (l : Launch) (G : va_G) (cI cJ cZ cB cT : ClassId) (q : Nat → Nat) (h : HS) (p1 : Int32) (hh : HS) (hF : f_X6_addStep_2 h p1 = some hh) : gMv l yX6_addStep (gws yX6_addStep cX6_addStep 2 none) 1 G (gT cI cJ cZ cB cT) [.ref (q 42), .int p1] (wC q cI cJ cZ cB cT h) (fun (_ : Unit) => True) (fun (_ : Unit) => (wC q cI cJ cZ cB cT hh)) := by
  intro sz
  refine gM_start (y := yX6_addStep) (av := [.ref (q 42), .int p1]) (ws := (wC q cI cJ cZ cB cT h)) (Qf := fun A => va_Qv (fun (_ : Unit) => True) (gB G (fun (_ : Unit) => (wC q cI cJ cZ cB cT hh)) A) A) (cc := cX6_addStep) (maxL := 2) (ret := none) (by decide) (Nat.le_of_ble_eq_true rfl) ?_
  intro p e s m args below meth c A ls H hx hb hr hts hown hin hlocks hml hP hK hD hA hS hl hE
  have hl : lv_has ls 2 [(0, .ref (q 42)), (1, .int p1)] := hl
  have hJ_32 : ∀ (h : HS), f_X6_addStep_2_32 h = some hh → ∀ (H : Heap) (locs : List Loc) (ls : Array Slot), va_P G vwCl (wC q cI cJ cZ cB cT h) H → va_D A (wC q cI cJ cZ cB cT h) → va_S A s.heap H locs → lv_has ls 2 [] → W p l e (gRm 1) s m args below meth c H locs 0 0 (MQ below (va_Qv (fun (_ : Unit) => True) (gB G (fun (_ : Unit) => (wC q cI cJ cZ cB cT hh)) A) A) args s 0 0 A) (F0 m 32 ls []) := by
    intro h hF H locs ls hP hD hS hl
    unfold f_X6_addStep_2_32 at hF
    obtain rfl := ob_one hF
    exact gw_vret () hx hb hr hlocks hP hD hS trivial dX6_addStep_32
  unfold f_X6_addStep_2 at hF
  refine lv_aload_n hx hb dX6_addStep_0 rfl (lv_at hl 0 rfl) ?_
  refine va_get (D := G) (ci := 6) (v := .int (eI h 11 5)) (C := RX6) (T := TX6) (N := 6) hx hb hts iX6 hown hK hP 42 wC_at42 rfl 5 (by decide) (hts _ m_460) (fun _ h9 => h9) rfl dX6_addStep_1 ?_
  refine lv_aload_n hx hb dX6_addStep_4 rfl (lv_at hl 0 rfl) ?_
  refine va_get (D := G) (ci := 6) (v := .ref (q 44)) (C := RX6) (T := TX6) (N := 6) hx hb hts iX6 hown hK hP 42 wC_at42 rfl 2 (by decide) (hts _ m_463) (fun _ h9 => h9) rfl dX6_addStep_5 ?_
  refine va_alen (D := G) hx hb hK hP 44 0 wC_at44 rfl (v := 300) rfl dX6_addStep_8 ?_
  refine lv_icmp_ge (tgt := 32) hx hb dX6_addStep_9 (by decide) (fun c_1 => ?_) (fun c_1 => ?_)
  · have hF := ob_pos c_1 hF
    exact hJ_32 h hF H _ ls hP hD hS (lv_sub hl [] rfl)
  · have hF := ob_neg c_1 hF
    refine lv_aload_n hx hb dX6_addStep_12 rfl (lv_at hl 0 rfl) ?_
    refine va_get (D := G) (ci := 6) (v := .ref (q 44)) (C := RX6) (T := TX6) (N := 6) hx hb hts iX6 hown hK hP 42 wC_at42 rfl 2 (by decide) (hts _ m_463) (fun _ h9 => h9) rfl dX6_addStep_13 ?_
    refine lv_aload_n hx hb dX6_addStep_16 rfl (lv_at hl 0 rfl) ?_
    refine va_get (D := G) (ci := 6) (v := .int (eI h 11 5)) (C := RX6) (T := TX6) (N := 6) hx hb hts iX6 hown hK hP 42 wC_at42 rfl 5 (by decide) (hts _ m_460) (fun _ h9 => h9) rfl dX6_addStep_17 ?_
    refine lv_iload_n hx hb dX6_addStep_20 rfl (lv_at hl 1 rfl) ?_
    obtain ⟨hi_2, hF⟩ := ob_if hF
    refine va_iast (D := G) hx hb hK hP hD hS 44 0 wC_at44 rfl (vp_in_iff.mpr hi_2) dX6_addStep_21 (fun H locs hP hD hS => ?_)
    rw [wC_sA44] at hP hD
    have hP : va_P G vwCl (wC q cI cJ cZ cB cT (sA h 11 2 (upd (eA h 11 2) (((eI h 11 5)).toNatClampNeg) p1))) H := hP
    have hD : va_D A (wC q cI cJ cZ cB cT (sA h 11 2 (upd (eA h 11 2) (((eI h 11 5)).toNatClampNeg) p1))) := hD
    refine lv_aload_n hx hb dX6_addStep_22 rfl (lv_at hl 0 rfl) ?_
    refine lv_dup hx hb dX6_addStep_23 rfl ?_
    refine va_get (D := G) (ci := 6) (v := .int (eI h 11 5)) (C := RX6) (T := TX6) (N := 6) hx hb hts iX6 hown hK hP 42 wC_at42 rfl 5 (by decide) (hts _ m_460) (fun _ h9 => h9) rfl dX6_addStep_24 ?_
    refine lv_iconst (v := 1) hx hb dX6_addStep_27 (by decide) ?_
    refine lv_iadd hx hb dX6_addStep_28 ?_
    refine va_put (D := G) (ci := 6) (v := .int ((eI h 11 5) + 1)) (ty := .int) (C := RX6) (T := TX6) (N := 6) hx hb hts iX6 tyX6 tyX6_ok nmX6 hown hK hP hD hS 42 wC_at42 rfl 5 (by decide) (hts _ m_460) (fun _ h9 => h9) rfl (tyX6_ok 5 (by decide)) rfl rfl (Nat.le_of_ble_eq_true rfl) dX6_addStep_29 (fun H locs hP hD hS => ?_)
    rw [wC_sI42_5] at hP hD
    exact hJ_32 (sI (sA h 11 2 (upd (eA h 11 2) (((eI h 11 5)).toNatClampNeg) p1)) 11 5 ((eI h 11 5) + 1)) hF H _ ls hP hD hS (lv_sub hl [] rfl)
def f_X6_stepAt_2_31 (h : HS) (y0 : Int32) : Option (Int32 × HS) := (some (y0, h))
def f_X6_stepAt_2_30 (h : HS) : Option (Int32 × HS) := (f_X6_stepAt_2_31 h 0)
def f_X6_stepAt_2 (h : HS) (p1 : Int32) : Option (Int32 × HS) := (if p1 < 0 then (f_X6_stepAt_2_30 h) else (if (eI h 11 5) ≤ p1 then (f_X6_stepAt_2_30 h) else (if 300 ≤ p1 then (f_X6_stepAt_2_30 h) else (if 0 ≤ (p1).toInt ∧ (p1).toInt < 300 then (f_X6_stepAt_2_31 h ((eA h 11 2) ((p1).toNatClampNeg))) else none))))
set_option maxHeartbeats 4000000 in
set_option maxRecDepth 100000 in
theorem c_X6_stepAt_2 (l : Launch) (G : va_G) (cI cJ cZ cB cT : ClassId) (q : Nat → Nat) (h : HS) (p1 : Int32) (rr : Int32) (hh : HS) (hF : f_X6_stepAt_2 h p1 = some (rr, hh)) : gMi l yX6_stepAt (gws yX6_stepAt cX6_stepAt 2 (some .int)) 1 G (gT cI cJ cZ cB cT) [.ref (q 42), .int p1] (wC q cI cJ cZ cB cT h) (fun x (_ : Unit) => x = rr) (fun (_ : Unit) => (wC q cI cJ cZ cB cT hh)) := by
  intro sz
  refine gM_start (y := yX6_stepAt) (av := [.ref (q 42), .int p1]) (ws := (wC q cI cJ cZ cB cT h)) (Qf := fun A => va_Qi (fun x (_ : Unit) => x = rr) (gB G (fun (_ : Unit) => (wC q cI cJ cZ cB cT hh)) A) A) (cc := cX6_stepAt) (maxL := 2) (ret := (some .int)) (by decide) (Nat.le_of_ble_eq_true rfl) ?_
  intro p e s m args below meth c A ls H hx hb hr hts hown hin hlocks hml hP hK hD hA hS hl hE
  have hl : lv_has ls 2 [(0, .ref (q 42)), (1, .int p1)] := hl
  have hJ_31 : ∀ (h : HS) (y0 : Int32), f_X6_stepAt_2_31 h y0 = some (rr, hh) → ∀ (H : Heap) (locs : List Loc) (ls : Array Slot), va_P G vwCl (wC q cI cJ cZ cB cT h) H → va_D A (wC q cI cJ cZ cB cT h) → va_S A s.heap H locs → lv_has ls 2 [] → W p l e (gRm 1) s m args below meth c H locs 0 0 (MQ below (va_Qi (fun x (_ : Unit) => x = rr) (gB G (fun (_ : Unit) => (wC q cI cJ cZ cB cT hh)) A) A) args s 0 0 A) (F0 m 31 ls [.int y0]) := by
    intro h y0 hF H locs ls hP hD hS hl
    unfold f_X6_stepAt_2_31 at hF
    obtain ⟨rfl, rfl⟩ := ob_pair hF
    exact gw_iret () hx hb hr hlocks hP hD hS rfl dX6_stepAt_31
  have hJ_30 : ∀ (h : HS), f_X6_stepAt_2_30 h = some (rr, hh) → ∀ (H : Heap) (locs : List Loc) (ls : Array Slot), va_P G vwCl (wC q cI cJ cZ cB cT h) H → va_D A (wC q cI cJ cZ cB cT h) → va_S A s.heap H locs → lv_has ls 2 [] → W p l e (gRm 1) s m args below meth c H locs 0 0 (MQ below (va_Qi (fun x (_ : Unit) => x = rr) (gB G (fun (_ : Unit) => (wC q cI cJ cZ cB cT hh)) A) A) args s 0 0 A) (F0 m 30 ls []) := by
    intro h hF H locs ls hP hD hS hl
    unfold f_X6_stepAt_2_30 at hF
    refine lv_iconst (v := 0) hx hb dX6_stepAt_30 (by decide) ?_
    exact hJ_31 h 0 hF H _ ls hP hD hS (lv_sub hl [] rfl)
  unfold f_X6_stepAt_2 at hF
  refine lv_iload_n hx hb dX6_stepAt_0 rfl (lv_at hl 1 rfl) ?_
  refine lv_if_lt (tgt := 30) hx hb dX6_stepAt_1 (by decide) (fun c_1 => ?_) (fun c_1 => ?_)
  · have hF := ob_pos c_1 hF
    exact hJ_30 h hF H _ ls hP hD hS (lv_sub hl [] rfl)
  · have hF := ob_neg c_1 hF
    refine lv_iload_n hx hb dX6_stepAt_4 rfl (lv_at hl 1 rfl) ?_
    refine lv_aload_n hx hb dX6_stepAt_5 rfl (lv_at hl 0 rfl) ?_
    refine va_get (D := G) (ci := 6) (v := .int (eI h 11 5)) (C := RX6) (T := TX6) (N := 6) hx hb hts iX6 hown hK hP 42 wC_at42 rfl 5 (by decide) (hts _ m_460) (fun _ h9 => h9) rfl dX6_stepAt_6 ?_
    refine lv_icmp_ge (tgt := 30) hx hb dX6_stepAt_9 (by decide) (fun c_2 => ?_) (fun c_2 => ?_)
    · have hF := ob_pos c_2 hF
      exact hJ_30 h hF H _ ls hP hD hS (lv_sub hl [] rfl)
    · have hF := ob_neg c_2 hF
      refine lv_iload_n hx hb dX6_stepAt_12 rfl (lv_at hl 1 rfl) ?_
      refine lv_aload_n hx hb dX6_stepAt_13 rfl (lv_at hl 0 rfl) ?_
      refine va_get (D := G) (ci := 6) (v := .ref (q 44)) (C := RX6) (T := TX6) (N := 6) hx hb hts iX6 hown hK hP 42 wC_at42 rfl 2 (by decide) (hts _ m_463) (fun _ h9 => h9) rfl dX6_stepAt_14 ?_
      refine va_alen (D := G) hx hb hK hP 44 0 wC_at44 rfl (v := 300) rfl dX6_stepAt_17 ?_
      refine lv_icmp_ge (tgt := 30) hx hb dX6_stepAt_18 (by decide) (fun c_3 => ?_) (fun c_3 => ?_)
      · have hF := ob_pos c_3 hF
        exact hJ_30 h hF H _ ls hP hD hS (lv_sub hl [] rfl)
      · have hF := ob_neg c_3 hF
        refine lv_aload_n hx hb dX6_stepAt_21 rfl (lv_at hl 0 rfl) ?_
        refine va_get (D := G) (ci := 6) (v := .ref (q 44)) (C := RX6) (T := TX6) (N := 6) hx hb hts iX6 hown hK hP 42 wC_at42 rfl 2 (by decide) (hts _ m_463) (fun _ h9 => h9) rfl dX6_stepAt_22 ?_
        refine lv_iload_n hx hb dX6_stepAt_25 rfl (lv_at hl 1 rfl) ?_
        obtain ⟨hi_4, hF⟩ := ob_if hF
        refine va_iald (D := G) hx hb hK hP 44 0 wC_at44 rfl (vp_in_iff.mpr hi_4) dX6_stepAt_26 ?_
        refine gw_topi (y := ((eA h 11 2) ((p1).toNatClampNeg))) rfl ?_
        refine lv_goto (tgt := 31) hx hb dX6_stepAt_27 (by decide) ?_
        exact hJ_31 h ((eA h 11 2) ((p1).toNatClampNeg)) hF H _ ls hP hD hS (lv_sub hl [] rfl)
def f_X6_clauseField_2_19 (h : HS) : Option (Int32 × HS) := (some ((-1), h))
def f_X6_clauseField_2 (h : HS) (p1 : Int32) (p2 : Int32) : Option (Int32 × HS) := (if p1 < 0 then (f_X6_clauseField_2_19 h) else (if 24 ≤ p1 then (f_X6_clauseField_2_19 h) else (if p2 < 0 then (f_X6_clauseField_2_19 h) else (if p2 < 4 then (if 0 ≤ (((p1 * 4) + p2)).toInt ∧ (((p1 * 4) + p2)).toInt < 96 then (some (((eA h 11 0) ((((p1 * 4) + p2)).toNatClampNeg)), h)) else none) else (f_X6_clauseField_2_19 h)))))
set_option maxHeartbeats 4000000 in
set_option maxRecDepth 100000 in
theorem c_X6_clauseField_2 (l : Launch) (G : va_G) (cI cJ cZ cB cT : ClassId) (q : Nat → Nat) (h : HS) (p1 : Int32) (p2 : Int32) (rr : Int32) (hh : HS) (hF : f_X6_clauseField_2 h p1 p2 = some (rr, hh)) : gMi l yX6_clauseField (gws yX6_clauseField cX6_clauseField 3 (some .int)) 1 G (gT cI cJ cZ cB cT) [.ref (q 42), .int p1, .int p2] (wC q cI cJ cZ cB cT h) (fun x (_ : Unit) => x = rr) (fun (_ : Unit) => (wC q cI cJ cZ cB cT hh)) := by
  intro sz
  refine gM_start (y := yX6_clauseField) (av := [.ref (q 42), .int p1, .int p2]) (ws := (wC q cI cJ cZ cB cT h)) (Qf := fun A => va_Qi (fun x (_ : Unit) => x = rr) (gB G (fun (_ : Unit) => (wC q cI cJ cZ cB cT hh)) A) A) (cc := cX6_clauseField) (maxL := 3) (ret := (some .int)) (by decide) (Nat.le_of_ble_eq_true rfl) ?_
  intro p e s m args below meth c A ls H hx hb hr hts hown hin hlocks hml hP hK hD hA hS hl hE
  have hl : lv_has ls 3 [(0, .ref (q 42)), (1, .int p1), (2, .int p2)] := hl
  have hJ_19 : ∀ (h : HS), f_X6_clauseField_2_19 h = some (rr, hh) → ∀ (H : Heap) (locs : List Loc) (ls : Array Slot), va_P G vwCl (wC q cI cJ cZ cB cT h) H → va_D A (wC q cI cJ cZ cB cT h) → va_S A s.heap H locs → lv_has ls 3 [] → W p l e (gRm 1) s m args below meth c H locs 0 0 (MQ below (va_Qi (fun x (_ : Unit) => x = rr) (gB G (fun (_ : Unit) => (wC q cI cJ cZ cB cT hh)) A) A) args s 0 0 A) (F0 m 19 ls []) := by
    intro h hF H locs ls hP hD hS hl
    unfold f_X6_clauseField_2_19 at hF
    refine lv_iconst (v := (-1)) hx hb dX6_clauseField_19 (by decide) ?_
    obtain ⟨rfl, rfl⟩ := ob_pair hF
    exact gw_iret () hx hb hr hlocks hP hD hS rfl dX6_clauseField_20
  unfold f_X6_clauseField_2 at hF
  refine lv_iload_n hx hb dX6_clauseField_0 rfl (lv_at hl 1 rfl) ?_
  refine lv_if_lt (tgt := 19) hx hb dX6_clauseField_1 (by decide) (fun c_1 => ?_) (fun c_1 => ?_)
  · have hF := ob_pos c_1 hF
    exact hJ_19 h hF H _ ls hP hD hS (lv_sub hl [] rfl)
  · have hF := ob_neg c_1 hF
    refine lv_iload_n hx hb dX6_clauseField_4 rfl (lv_at hl 1 rfl) ?_
    refine lv_bipush (v := 24) hx hb dX6_clauseField_5 (by decide) ?_
    refine lv_icmp_ge (tgt := 19) hx hb dX6_clauseField_7 (by decide) (fun c_2 => ?_) (fun c_2 => ?_)
    · have hF := ob_pos c_2 hF
      exact hJ_19 h hF H _ ls hP hD hS (lv_sub hl [] rfl)
    · have hF := ob_neg c_2 hF
      refine lv_iload_n hx hb dX6_clauseField_10 rfl (lv_at hl 2 rfl) ?_
      refine lv_if_lt (tgt := 19) hx hb dX6_clauseField_11 (by decide) (fun c_3 => ?_) (fun c_3 => ?_)
      · have hF := ob_pos c_3 hF
        exact hJ_19 h hF H _ ls hP hD hS (lv_sub hl [] rfl)
      · have hF := ob_neg c_3 hF
        refine lv_iload_n hx hb dX6_clauseField_14 rfl (lv_at hl 2 rfl) ?_
        refine lv_iconst (v := 4) hx hb dX6_clauseField_15 (by decide) ?_
        refine lv_icmp_lt (tgt := 21) hx hb dX6_clauseField_16 (by decide) (fun c_4 => ?_) (fun c_4 => ?_)
        · have hF := ob_pos c_4 hF
          refine lv_aload_n hx hb dX6_clauseField_21 rfl (lv_at hl 0 rfl) ?_
          refine va_get (D := G) (ci := 6) (v := .ref (q 43)) (C := RX6) (T := TX6) (N := 6) hx hb hts iX6 hown hK hP 42 wC_at42 rfl 0 (by decide) (hts _ m_464) (fun _ h9 => h9) rfl dX6_clauseField_22 ?_
          refine lv_iload_n hx hb dX6_clauseField_25 rfl (lv_at hl 1 rfl) ?_
          refine lv_iconst (v := 4) hx hb dX6_clauseField_26 (by decide) ?_
          refine lv_imul hx hb dX6_clauseField_27 ?_
          refine lv_iload_n hx hb dX6_clauseField_28 rfl (lv_at hl 2 rfl) ?_
          refine lv_iadd hx hb dX6_clauseField_29 ?_
          obtain ⟨hi_5, hF⟩ := ob_if hF
          refine va_iald (D := G) hx hb hK hP 43 0 wC_at43 rfl (vp_in_iff.mpr hi_5) dX6_clauseField_30 ?_
          refine gw_topi (y := ((eA h 11 0) ((((p1 * 4) + p2)).toNatClampNeg))) rfl ?_
          obtain ⟨rfl, rfl⟩ := ob_pair hF
          exact gw_iret () hx hb hr hlocks hP hD hS rfl dX6_clauseField_31
        · have hF := ob_neg c_4 hF
          exact hJ_19 h hF H _ ls hP hD hS (lv_sub hl [] rfl)
def f_X6_setClause_2_30 (h : HS) : Option HS := (some h)
def f_X6_setClause_2 (h : HS) (p1 : Int32) (p2 : Int32) (p3 : Int32) : Option HS := (if p1 < 0 then (f_X6_setClause_2_30 h) else (if 24 ≤ p1 then (f_X6_setClause_2_30 h) else (if p2 < 0 then (f_X6_setClause_2_30 h) else (if 4 ≤ p2 then (f_X6_setClause_2_30 h) else (if 0 ≤ (((p1 * 4) + p2)).toInt ∧ (((p1 * 4) + p2)).toInt < 96 then (f_X6_setClause_2_30 (sA h 11 0 (upd (eA h 11 0) ((((p1 * 4) + p2)).toNatClampNeg) p3))) else none)))))
set_option maxHeartbeats 4000000 in
set_option maxRecDepth 100000 in
theorem c_X6_setClause_2 (l : Launch) (G : va_G) (cI cJ cZ cB cT : ClassId) (q : Nat → Nat) (h : HS) (p1 : Int32) (p2 : Int32) (p3 : Int32) (hh : HS) (hF : f_X6_setClause_2 h p1 p2 p3 = some hh) : gMv l yX6_setClause (gws yX6_setClause cX6_setClause 4 none) 1 G (gT cI cJ cZ cB cT) [.ref (q 42), .int p1, .int p2, .int p3] (wC q cI cJ cZ cB cT h) (fun (_ : Unit) => True) (fun (_ : Unit) => (wC q cI cJ cZ cB cT hh)) := by
  intro sz
  refine gM_start (y := yX6_setClause) (av := [.ref (q 42), .int p1, .int p2, .int p3]) (ws := (wC q cI cJ cZ cB cT h)) (Qf := fun A => va_Qv (fun (_ : Unit) => True) (gB G (fun (_ : Unit) => (wC q cI cJ cZ cB cT hh)) A) A) (cc := cX6_setClause) (maxL := 4) (ret := none) (by decide) (Nat.le_of_ble_eq_true rfl) ?_
  intro p e s m args below meth c A ls H hx hb hr hts hown hin hlocks hml hP hK hD hA hS hl hE
  have hl : lv_has ls 4 [(0, .ref (q 42)), (1, .int p1), (2, .int p2), (3, .int p3)] := hl
  have hJ_30 : ∀ (h : HS), f_X6_setClause_2_30 h = some hh → ∀ (H : Heap) (locs : List Loc) (ls : Array Slot), va_P G vwCl (wC q cI cJ cZ cB cT h) H → va_D A (wC q cI cJ cZ cB cT h) → va_S A s.heap H locs → lv_has ls 4 [] → W p l e (gRm 1) s m args below meth c H locs 0 0 (MQ below (va_Qv (fun (_ : Unit) => True) (gB G (fun (_ : Unit) => (wC q cI cJ cZ cB cT hh)) A) A) args s 0 0 A) (F0 m 30 ls []) := by
    intro h hF H locs ls hP hD hS hl
    unfold f_X6_setClause_2_30 at hF
    obtain rfl := ob_one hF
    exact gw_vret () hx hb hr hlocks hP hD hS trivial dX6_setClause_30
  unfold f_X6_setClause_2 at hF
  refine lv_iload_n hx hb dX6_setClause_0 rfl (lv_at hl 1 rfl) ?_
  refine lv_if_lt (tgt := 30) hx hb dX6_setClause_1 (by decide) (fun c_1 => ?_) (fun c_1 => ?_)
  · have hF := ob_pos c_1 hF
    exact hJ_30 h hF H _ ls hP hD hS (lv_sub hl [] rfl)
  · have hF := ob_neg c_1 hF
    refine lv_iload_n hx hb dX6_setClause_4 rfl (lv_at hl 1 rfl) ?_
    refine lv_bipush (v := 24) hx hb dX6_setClause_5 (by decide) ?_
    refine lv_icmp_ge (tgt := 30) hx hb dX6_setClause_7 (by decide) (fun c_2 => ?_) (fun c_2 => ?_)
    · have hF := ob_pos c_2 hF
      exact hJ_30 h hF H _ ls hP hD hS (lv_sub hl [] rfl)
    · have hF := ob_neg c_2 hF
      refine lv_iload_n hx hb dX6_setClause_10 rfl (lv_at hl 2 rfl) ?_
      refine lv_if_lt (tgt := 30) hx hb dX6_setClause_11 (by decide) (fun c_3 => ?_) (fun c_3 => ?_)
      · have hF := ob_pos c_3 hF
        exact hJ_30 h hF H _ ls hP hD hS (lv_sub hl [] rfl)
      · have hF := ob_neg c_3 hF
        refine lv_iload_n hx hb dX6_setClause_14 rfl (lv_at hl 2 rfl) ?_
        refine lv_iconst (v := 4) hx hb dX6_setClause_15 (by decide) ?_
        refine lv_icmp_ge (tgt := 30) hx hb dX6_setClause_16 (by decide) (fun c_4 => ?_) (fun c_4 => ?_)
        · have hF := ob_pos c_4 hF
          exact hJ_30 h hF H _ ls hP hD hS (lv_sub hl [] rfl)
        · have hF := ob_neg c_4 hF
          refine lv_aload_n hx hb dX6_setClause_19 rfl (lv_at hl 0 rfl) ?_
          refine va_get (D := G) (ci := 6) (v := .ref (q 43)) (C := RX6) (T := TX6) (N := 6) hx hb hts iX6 hown hK hP 42 wC_at42 rfl 0 (by decide) (hts _ m_464) (fun _ h9 => h9) rfl dX6_setClause_20 ?_
          refine lv_iload_n hx hb dX6_setClause_23 rfl (lv_at hl 1 rfl) ?_
          refine lv_iconst (v := 4) hx hb dX6_setClause_24 (by decide) ?_
          refine lv_imul hx hb dX6_setClause_25 ?_
          refine lv_iload_n hx hb dX6_setClause_26 rfl (lv_at hl 2 rfl) ?_
          refine lv_iadd hx hb dX6_setClause_27 ?_
          refine lv_iload_n hx hb dX6_setClause_28 rfl (lv_at hl 3 rfl) ?_
          obtain ⟨hi_5, hF⟩ := ob_if hF
          refine va_iast (D := G) hx hb hK hP hD hS 43 0 wC_at43 rfl (vp_in_iff.mpr hi_5) dX6_setClause_29 (fun H locs hP hD hS => ?_)
          rw [wC_sA43] at hP hD
          have hP : va_P G vwCl (wC q cI cJ cZ cB cT (sA h 11 0 (upd (eA h 11 0) ((((p1 * 4) + p2)).toNatClampNeg) p3))) H := hP
          have hD : va_D A (wC q cI cJ cZ cB cT (sA h 11 0 (upd (eA h 11 0) ((((p1 * 4) + p2)).toNatClampNeg) p3))) := hD
          exact hJ_30 (sA h 11 0 (upd (eA h 11 0) ((((p1 * 4) + p2)).toNatClampNeg) p3)) hF H _ ls hP hD hS (lv_sub hl [] rfl)
def f_X6_clear_3_12 : Nat → HS → Int32 → Option HS
  | 0, _, _ => none
  | n + 1, h, x1 => (if 4 ≤ x1 then (some h) else (if 0 ≤ (x1).toInt ∧ (x1).toInt < 4 then (if 0 ≤ (x1).toInt ∧ (x1).toInt < 4 then ((f_X6_clear_3_12 n) (sA (sA h 12 3 (upd (eA h 12 3) ((x1).toNatClampNeg) (-1))) 12 4 (upd (eA h 12 4) ((x1).toNatClampNeg) (-1))) (x1 + 1)) else none) else none))
theorem f_X6_clear_3_12_s (n : Nat) (h : HS) (x1 : Int32) : f_X6_clear_3_12 (n + 1) h x1 = (if 4 ≤ x1 then (some h) else (if 0 ≤ (x1).toInt ∧ (x1).toInt < 4 then (if 0 ≤ (x1).toInt ∧ (x1).toInt < 4 then ((f_X6_clear_3_12 n) (sA (sA h 12 3 (upd (eA h 12 3) ((x1).toNatClampNeg) (-1))) 12 4 (upd (eA h 12 4) ((x1).toNatClampNeg) (-1))) (x1 + 1)) else none) else none)) := rfl
def f_X6_clear_3 (h : HS) : Option HS := (f_X6_clear_3_12 8589934592 (sI (sI h 12 1 0) 12 5 0) 0)
set_option maxHeartbeats 4000000 in
set_option maxRecDepth 100000 in
theorem c_X6_clear_3 (l : Launch) (G : va_G) (cI cJ cZ cB cT : ClassId) (q : Nat → Nat) (h : HS)  (hh : HS) (hF : f_X6_clear_3 h = some hh) : gMv l yX6_clear (gws yX6_clear cX6_clear 2 none) 1 G (gT cI cJ cZ cB cT) [.ref (q 47)] (wC q cI cJ cZ cB cT h) (fun (_ : Unit) => True) (fun (_ : Unit) => (wC q cI cJ cZ cB cT hh)) := by
  intro sz
  refine gM_start (y := yX6_clear) (av := [.ref (q 47)]) (ws := (wC q cI cJ cZ cB cT h)) (Qf := fun A => va_Qv (fun (_ : Unit) => True) (gB G (fun (_ : Unit) => (wC q cI cJ cZ cB cT hh)) A) A) (cc := cX6_clear) (maxL := 2) (ret := none) (by decide) (Nat.le_of_ble_eq_true rfl) ?_
  intro p e s m args below meth c A ls H hx hb hr hts hown hin hlocks hml hP hK hD hA hS hl hE
  have hl : lv_has ls 2 [(0, .ref (q 47))] := hl
  have hJ_12 : ∀ (n_12 : Nat) (h : HS) (x1 : Int32), f_X6_clear_3_12 n_12 h x1 = some hh → ∀ (H : Heap) (locs : List Loc) (ls : Array Slot), va_P G vwCl (wC q cI cJ cZ cB cT h) H → va_D A (wC q cI cJ cZ cB cT h) → va_S A s.heap H locs → lv_has ls 2 [(0, .ref (q 47)), (1, .int x1)] → W p l e (gRm 1) s m args below meth c H locs 0 0 (MQ below (va_Qv (fun (_ : Unit) => True) (gB G (fun (_ : Unit) => (wC q cI cJ cZ cB cT hh)) A) A) args s 0 0 A) (F0 m 12 ls []) := by
    intro n_12
    induction n_12 with
    | zero =>
      intro h x1 hF
      exact absurd hF (by simp [f_X6_clear_3_12])
    | succ n_12 ih_12 =>
      intro h x1 hF H locs ls hP hD hS hl
      rw [f_X6_clear_3_12_s] at hF
      refine lv_iload_n hx hb dX6_clear_12 rfl (lv_at hl 1 rfl) ?_
      refine lv_iconst (v := 4) hx hb dX6_clear_13 (by decide) ?_
      refine lv_icmp_ge (tgt := 37) hx hb dX6_clear_14 (by decide) (fun c_1 => ?_) (fun c_1 => ?_)
      · have hF := ob_pos c_1 hF
        obtain rfl := ob_one hF
        exact gw_vret () hx hb hr hlocks hP hD hS trivial dX6_clear_37
      · have hF := ob_neg c_1 hF
        refine lv_aload_n hx hb dX6_clear_17 rfl (lv_at hl 0 rfl) ?_
        refine va_get (D := G) (ci := 6) (v := .ref (q 50)) (C := RX6) (T := TX6) (N := 6) hx hb hts iX6 hown hK hP 47 wC_at47 rfl 3 (by decide) (hts _ m_461) (fun _ h9 => h9) rfl dX6_clear_18 ?_
        refine lv_iload_n hx hb dX6_clear_21 rfl (lv_at hl 1 rfl) ?_
        refine lv_iconst (v := (-1)) hx hb dX6_clear_22 (by decide) ?_
        obtain ⟨hi_2, hF⟩ := ob_if hF
        refine va_iast (D := G) hx hb hK hP hD hS 50 0 wC_at50 rfl (vp_in_iff.mpr hi_2) dX6_clear_23 (fun H locs hP hD hS => ?_)
        rw [wC_sA50] at hP hD
        have hP : va_P G vwCl (wC q cI cJ cZ cB cT (sA h 12 3 (upd (eA h 12 3) ((x1).toNatClampNeg) (-1)))) H := hP
        have hD : va_D A (wC q cI cJ cZ cB cT (sA h 12 3 (upd (eA h 12 3) ((x1).toNatClampNeg) (-1)))) := hD
        refine lv_aload_n hx hb dX6_clear_24 rfl (lv_at hl 0 rfl) ?_
        refine va_get (D := G) (ci := 6) (v := .ref (q 51)) (C := RX6) (T := TX6) (N := 6) hx hb hts iX6 hown hK hP 47 wC_at47 rfl 4 (by decide) (hts _ m_462) (fun _ h9 => h9) rfl dX6_clear_25 ?_
        refine lv_iload_n hx hb dX6_clear_28 rfl (lv_at hl 1 rfl) ?_
        refine lv_iconst (v := (-1)) hx hb dX6_clear_29 (by decide) ?_
        obtain ⟨hi_3, hF⟩ := ob_if hF
        refine va_iast (D := G) hx hb hK hP hD hS 51 0 wC_at51 rfl (vp_in_iff.mpr hi_3) dX6_clear_30 (fun H locs hP hD hS => ?_)
        rw [wC_sA51] at hP hD
        have hP : va_P G vwCl (wC q cI cJ cZ cB cT (sA (sA h 12 3 (upd (eA h 12 3) ((x1).toNatClampNeg) (-1))) 12 4 (upd (eA h 12 4) ((x1).toNatClampNeg) (-1)))) H := hP
        have hD : va_D A (wC q cI cJ cZ cB cT (sA (sA h 12 3 (upd (eA h 12 3) ((x1).toNatClampNeg) (-1))) 12 4 (upd (eA h 12 4) ((x1).toNatClampNeg) (-1)))) := hD
        refine lv_iinc (v := (x1 + 1)) (lv' := [(1, .int (x1 + 1)), (0, .ref (q 47))]) hx hb dX6_clear_31 hl (k := 1) rfl rfl (by decide) rfl (fun ls hl => ?_)
        refine lv_goto (tgt := 12) hx hb dX6_clear_34 (by decide) ?_
        exact ih_12 (sA (sA h 12 3 (upd (eA h 12 3) ((x1).toNatClampNeg) (-1))) 12 4 (upd (eA h 12 4) ((x1).toNatClampNeg) (-1))) (x1 + 1) hF H _ ls hP hD hS (lv_sub hl [1, 0] rfl)
  unfold f_X6_clear_3 at hF
  refine lv_aload_n hx hb dX6_clear_0 rfl (lv_at hl 0 rfl) ?_
  refine lv_iconst (v := 0) hx hb dX6_clear_1 (by decide) ?_
  refine va_put (D := G) (ci := 6) (v := .int 0) (ty := .int) (C := RX6) (T := TX6) (N := 6) hx hb hts iX6 tyX6 tyX6_ok nmX6 hown hK hP hD hS 47 wC_at47 rfl 1 (by decide) (hts _ m_459) (fun _ h9 => h9) rfl (tyX6_ok 1 (by decide)) rfl rfl (Nat.le_of_ble_eq_true rfl) dX6_clear_2 (fun H locs hP hD hS => ?_)
  rw [wC_sI47_1] at hP hD
  refine lv_aload_n hx hb dX6_clear_5 rfl (lv_at hl 0 rfl) ?_
  refine lv_iconst (v := 0) hx hb dX6_clear_6 (by decide) ?_
  refine va_put (D := G) (ci := 6) (v := .int 0) (ty := .int) (C := RX6) (T := TX6) (N := 6) hx hb hts iX6 tyX6 tyX6_ok nmX6 hown hK hP hD hS 47 wC_at47 rfl 5 (by decide) (hts _ m_460) (fun _ h9 => h9) rfl (tyX6_ok 5 (by decide)) rfl rfl (Nat.le_of_ble_eq_true rfl) dX6_clear_7 (fun H locs hP hD hS => ?_)
  rw [wC_sI47_5] at hP hD
  refine lv_iconst (v := 0) hx hb dX6_clear_10 (by decide) ?_
  refine lv_istore_n (lv' := [(1, .int 0), (0, .ref (q 47))]) hx hb dX6_clear_11 rfl hl (by decide) rfl (fun ls hl => ?_)
  exact hJ_12 8589934592 (sI (sI h 12 1 0) 12 5 0) 0 hF H _ ls hP hD hS (lv_sub hl [1, 0] rfl)
def f_X6_hasLaw_3_24 (h : HS) (y0 : Int32) : Option (Int32 × HS) := (if y0 = 0 ∨ y0 = 1 then (some (y0, h)) else none)
def f_X6_hasLaw_3_23 (h : HS) : Option (Int32 × HS) := (f_X6_hasLaw_3_24 h 0)
def f_X6_hasLaw_3 (h : HS) (p1 : Int32) : Option (Int32 × HS) := (if p1 < 0 then (f_X6_hasLaw_3_23 h) else (if 4 ≤ p1 then (f_X6_hasLaw_3_23 h) else (if 0 ≤ (p1).toInt ∧ (p1).toInt < 4 then (if ((eA h 12 3) ((p1).toNatClampNeg)) = (-1) then (f_X6_hasLaw_3_23 h) else (f_X6_hasLaw_3_24 h 1)) else none)))
set_option maxHeartbeats 4000000 in
set_option maxRecDepth 100000 in
theorem c_X6_hasLaw_3 (l : Launch) (G : va_G) (cI cJ cZ cB cT : ClassId) (q : Nat → Nat) (h : HS) (p1 : Int32) (rr : Int32) (hh : HS) (hF : f_X6_hasLaw_3 h p1 = some (rr, hh)) : gMi l yX6_hasLaw (gws yX6_hasLaw cX6_hasLaw 2 (some .boolean)) 1 G (gT cI cJ cZ cB cT) [.ref (q 47), .int p1] (wC q cI cJ cZ cB cT h) (fun x (_ : Unit) => x = rr) (fun (_ : Unit) => (wC q cI cJ cZ cB cT hh)) := by
  intro sz
  refine gM_start (y := yX6_hasLaw) (av := [.ref (q 47), .int p1]) (ws := (wC q cI cJ cZ cB cT h)) (Qf := fun A => va_Qi (fun x (_ : Unit) => x = rr) (gB G (fun (_ : Unit) => (wC q cI cJ cZ cB cT hh)) A) A) (cc := cX6_hasLaw) (maxL := 2) (ret := (some .boolean)) (by decide) (Nat.le_of_ble_eq_true rfl) ?_
  intro p e s m args below meth c A ls H hx hb hr hts hown hin hlocks hml hP hK hD hA hS hl hE
  have hl : lv_has ls 2 [(0, .ref (q 47)), (1, .int p1)] := hl
  have hJ_24 : ∀ (h : HS) (y0 : Int32), f_X6_hasLaw_3_24 h y0 = some (rr, hh) → ∀ (H : Heap) (locs : List Loc) (ls : Array Slot), va_P G vwCl (wC q cI cJ cZ cB cT h) H → va_D A (wC q cI cJ cZ cB cT h) → va_S A s.heap H locs → lv_has ls 2 [] → W p l e (gRm 1) s m args below meth c H locs 0 0 (MQ below (va_Qi (fun x (_ : Unit) => x = rr) (gB G (fun (_ : Unit) => (wC q cI cJ cZ cB cT hh)) A) A) args s 0 0 A) (F0 m 24 ls [.int y0]) := by
    intro h y0 hF H locs ls hP hD hS hl
    unfold f_X6_hasLaw_3_24 at hF
    obtain ⟨hz_5, hF⟩ := ob_if hF
    obtain ⟨rfl, rfl⟩ := ob_pair hF
    exact gw_zret () hx hb hr hlocks (gz hz_5) hP hD hS rfl dX6_hasLaw_24
  have hJ_23 : ∀ (h : HS), f_X6_hasLaw_3_23 h = some (rr, hh) → ∀ (H : Heap) (locs : List Loc) (ls : Array Slot), va_P G vwCl (wC q cI cJ cZ cB cT h) H → va_D A (wC q cI cJ cZ cB cT h) → va_S A s.heap H locs → lv_has ls 2 [] → W p l e (gRm 1) s m args below meth c H locs 0 0 (MQ below (va_Qi (fun x (_ : Unit) => x = rr) (gB G (fun (_ : Unit) => (wC q cI cJ cZ cB cT hh)) A) A) args s 0 0 A) (F0 m 23 ls []) := by
    intro h hF H locs ls hP hD hS hl
    unfold f_X6_hasLaw_3_23 at hF
    refine lv_iconst (v := 0) hx hb dX6_hasLaw_23 (by decide) ?_
    exact hJ_24 h 0 hF H _ ls hP hD hS (lv_sub hl [] rfl)
  unfold f_X6_hasLaw_3 at hF
  refine lv_iload_n hx hb dX6_hasLaw_0 rfl (lv_at hl 1 rfl) ?_
  refine lv_if_lt (tgt := 23) hx hb dX6_hasLaw_1 (by decide) (fun c_1 => ?_) (fun c_1 => ?_)
  · have hF := ob_pos c_1 hF
    exact hJ_23 h hF H _ ls hP hD hS (lv_sub hl [] rfl)
  · have hF := ob_neg c_1 hF
    refine lv_iload_n hx hb dX6_hasLaw_4 rfl (lv_at hl 1 rfl) ?_
    refine lv_iconst (v := 4) hx hb dX6_hasLaw_5 (by decide) ?_
    refine lv_icmp_ge (tgt := 23) hx hb dX6_hasLaw_6 (by decide) (fun c_2 => ?_) (fun c_2 => ?_)
    · have hF := ob_pos c_2 hF
      exact hJ_23 h hF H _ ls hP hD hS (lv_sub hl [] rfl)
    · have hF := ob_neg c_2 hF
      refine lv_aload_n hx hb dX6_hasLaw_9 rfl (lv_at hl 0 rfl) ?_
      refine va_get (D := G) (ci := 6) (v := .ref (q 50)) (C := RX6) (T := TX6) (N := 6) hx hb hts iX6 hown hK hP 47 wC_at47 rfl 3 (by decide) (hts _ m_461) (fun _ h9 => h9) rfl dX6_hasLaw_10 ?_
      refine lv_iload_n hx hb dX6_hasLaw_13 rfl (lv_at hl 1 rfl) ?_
      obtain ⟨hi_3, hF⟩ := ob_if hF
      refine va_iald (D := G) hx hb hK hP 50 0 wC_at50 rfl (vp_in_iff.mpr hi_3) dX6_hasLaw_14 ?_
      refine gw_topi (y := ((eA h 12 3) ((p1).toNatClampNeg))) rfl ?_
      refine lv_iconst (v := (-1)) hx hb dX6_hasLaw_15 (by decide) ?_
      refine lv_icmp_eq (tgt := 23) hx hb dX6_hasLaw_16 (by decide) (fun c_4 => ?_) (fun c_4 => ?_)
      · have hF := ob_pos c_4 hF
        exact hJ_23 h hF H _ ls hP hD hS (lv_sub hl [] rfl)
      · have hF := ob_neg c_4 hF
        refine lv_iconst (v := 1) hx hb dX6_hasLaw_19 (by decide) ?_
        refine lv_goto (tgt := 24) hx hb dX6_hasLaw_20 (by decide) ?_
        exact hJ_24 h 1 hF H _ ls hP hD hS (lv_sub hl [] rfl)
def f_X6_beginLaw_3_19 (h : HS) : Option HS := (some h)
def f_X6_beginLaw_3 (h : HS) (p1 : Int32) : Option HS := (if p1 < 0 then (f_X6_beginLaw_3_19 h) else (if 4 ≤ p1 then (f_X6_beginLaw_3_19 h) else (if 0 ≤ (p1).toInt ∧ (p1).toInt < 4 then (f_X6_beginLaw_3_19 (sA h 12 3 (upd (eA h 12 3) ((p1).toNatClampNeg) (eI h 12 5)))) else none)))
set_option maxHeartbeats 4000000 in
set_option maxRecDepth 100000 in
theorem c_X6_beginLaw_3 (l : Launch) (G : va_G) (cI cJ cZ cB cT : ClassId) (q : Nat → Nat) (h : HS) (p1 : Int32) (hh : HS) (hF : f_X6_beginLaw_3 h p1 = some hh) : gMv l yX6_beginLaw (gws yX6_beginLaw cX6_beginLaw 2 none) 1 G (gT cI cJ cZ cB cT) [.ref (q 47), .int p1] (wC q cI cJ cZ cB cT h) (fun (_ : Unit) => True) (fun (_ : Unit) => (wC q cI cJ cZ cB cT hh)) := by
  intro sz
  refine gM_start (y := yX6_beginLaw) (av := [.ref (q 47), .int p1]) (ws := (wC q cI cJ cZ cB cT h)) (Qf := fun A => va_Qv (fun (_ : Unit) => True) (gB G (fun (_ : Unit) => (wC q cI cJ cZ cB cT hh)) A) A) (cc := cX6_beginLaw) (maxL := 2) (ret := none) (by decide) (Nat.le_of_ble_eq_true rfl) ?_
  intro p e s m args below meth c A ls H hx hb hr hts hown hin hlocks hml hP hK hD hA hS hl hE
  have hl : lv_has ls 2 [(0, .ref (q 47)), (1, .int p1)] := hl
  have hJ_19 : ∀ (h : HS), f_X6_beginLaw_3_19 h = some hh → ∀ (H : Heap) (locs : List Loc) (ls : Array Slot), va_P G vwCl (wC q cI cJ cZ cB cT h) H → va_D A (wC q cI cJ cZ cB cT h) → va_S A s.heap H locs → lv_has ls 2 [] → W p l e (gRm 1) s m args below meth c H locs 0 0 (MQ below (va_Qv (fun (_ : Unit) => True) (gB G (fun (_ : Unit) => (wC q cI cJ cZ cB cT hh)) A) A) args s 0 0 A) (F0 m 19 ls []) := by
    intro h hF H locs ls hP hD hS hl
    unfold f_X6_beginLaw_3_19 at hF
    obtain rfl := ob_one hF
    exact gw_vret () hx hb hr hlocks hP hD hS trivial dX6_beginLaw_19
  unfold f_X6_beginLaw_3 at hF
  refine lv_iload_n hx hb dX6_beginLaw_0 rfl (lv_at hl 1 rfl) ?_
  refine lv_if_lt (tgt := 19) hx hb dX6_beginLaw_1 (by decide) (fun c_1 => ?_) (fun c_1 => ?_)
  · have hF := ob_pos c_1 hF
    exact hJ_19 h hF H _ ls hP hD hS (lv_sub hl [] rfl)
  · have hF := ob_neg c_1 hF
    refine lv_iload_n hx hb dX6_beginLaw_4 rfl (lv_at hl 1 rfl) ?_
    refine lv_iconst (v := 4) hx hb dX6_beginLaw_5 (by decide) ?_
    refine lv_icmp_ge (tgt := 19) hx hb dX6_beginLaw_6 (by decide) (fun c_2 => ?_) (fun c_2 => ?_)
    · have hF := ob_pos c_2 hF
      exact hJ_19 h hF H _ ls hP hD hS (lv_sub hl [] rfl)
    · have hF := ob_neg c_2 hF
      refine lv_aload_n hx hb dX6_beginLaw_9 rfl (lv_at hl 0 rfl) ?_
      refine va_get (D := G) (ci := 6) (v := .ref (q 50)) (C := RX6) (T := TX6) (N := 6) hx hb hts iX6 hown hK hP 47 wC_at47 rfl 3 (by decide) (hts _ m_461) (fun _ h9 => h9) rfl dX6_beginLaw_10 ?_
      refine lv_iload_n hx hb dX6_beginLaw_13 rfl (lv_at hl 1 rfl) ?_
      refine lv_aload_n hx hb dX6_beginLaw_14 rfl (lv_at hl 0 rfl) ?_
      refine va_get (D := G) (ci := 6) (v := .int (eI h 12 5)) (C := RX6) (T := TX6) (N := 6) hx hb hts iX6 hown hK hP 47 wC_at47 rfl 5 (by decide) (hts _ m_460) (fun _ h9 => h9) rfl dX6_beginLaw_15 ?_
      obtain ⟨hi_3, hF⟩ := ob_if hF
      refine va_iast (D := G) hx hb hK hP hD hS 50 0 wC_at50 rfl (vp_in_iff.mpr hi_3) dX6_beginLaw_18 (fun H locs hP hD hS => ?_)
      rw [wC_sA50] at hP hD
      have hP : va_P G vwCl (wC q cI cJ cZ cB cT (sA h 12 3 (upd (eA h 12 3) ((p1).toNatClampNeg) (eI h 12 5)))) H := hP
      have hD : va_D A (wC q cI cJ cZ cB cT (sA h 12 3 (upd (eA h 12 3) ((p1).toNatClampNeg) (eI h 12 5)))) := hD
      exact hJ_19 (sA h 12 3 (upd (eA h 12 3) ((p1).toNatClampNeg) (eI h 12 5))) hF H _ ls hP hD hS (lv_sub hl [] rfl)
def f_X6_closeLaw_3_19 (h : HS) : Option HS := (some h)
def f_X6_closeLaw_3 (h : HS) (p1 : Int32) : Option HS := (if p1 < 0 then (f_X6_closeLaw_3_19 h) else (if 4 ≤ p1 then (f_X6_closeLaw_3_19 h) else (if 0 ≤ (p1).toInt ∧ (p1).toInt < 4 then (f_X6_closeLaw_3_19 (sA h 12 4 (upd (eA h 12 4) ((p1).toNatClampNeg) (eI h 12 5)))) else none)))
set_option maxHeartbeats 4000000 in
set_option maxRecDepth 100000 in
theorem c_X6_closeLaw_3 (l : Launch) (G : va_G) (cI cJ cZ cB cT : ClassId) (q : Nat → Nat) (h : HS) (p1 : Int32) (hh : HS) (hF : f_X6_closeLaw_3 h p1 = some hh) : gMv l yX6_closeLaw (gws yX6_closeLaw cX6_closeLaw 2 none) 1 G (gT cI cJ cZ cB cT) [.ref (q 47), .int p1] (wC q cI cJ cZ cB cT h) (fun (_ : Unit) => True) (fun (_ : Unit) => (wC q cI cJ cZ cB cT hh)) := by
  intro sz
  refine gM_start (y := yX6_closeLaw) (av := [.ref (q 47), .int p1]) (ws := (wC q cI cJ cZ cB cT h)) (Qf := fun A => va_Qv (fun (_ : Unit) => True) (gB G (fun (_ : Unit) => (wC q cI cJ cZ cB cT hh)) A) A) (cc := cX6_closeLaw) (maxL := 2) (ret := none) (by decide) (Nat.le_of_ble_eq_true rfl) ?_
  intro p e s m args below meth c A ls H hx hb hr hts hown hin hlocks hml hP hK hD hA hS hl hE
  have hl : lv_has ls 2 [(0, .ref (q 47)), (1, .int p1)] := hl
  have hJ_19 : ∀ (h : HS), f_X6_closeLaw_3_19 h = some hh → ∀ (H : Heap) (locs : List Loc) (ls : Array Slot), va_P G vwCl (wC q cI cJ cZ cB cT h) H → va_D A (wC q cI cJ cZ cB cT h) → va_S A s.heap H locs → lv_has ls 2 [] → W p l e (gRm 1) s m args below meth c H locs 0 0 (MQ below (va_Qv (fun (_ : Unit) => True) (gB G (fun (_ : Unit) => (wC q cI cJ cZ cB cT hh)) A) A) args s 0 0 A) (F0 m 19 ls []) := by
    intro h hF H locs ls hP hD hS hl
    unfold f_X6_closeLaw_3_19 at hF
    obtain rfl := ob_one hF
    exact gw_vret () hx hb hr hlocks hP hD hS trivial dX6_closeLaw_19
  unfold f_X6_closeLaw_3 at hF
  refine lv_iload_n hx hb dX6_closeLaw_0 rfl (lv_at hl 1 rfl) ?_
  refine lv_if_lt (tgt := 19) hx hb dX6_closeLaw_1 (by decide) (fun c_1 => ?_) (fun c_1 => ?_)
  · have hF := ob_pos c_1 hF
    exact hJ_19 h hF H _ ls hP hD hS (lv_sub hl [] rfl)
  · have hF := ob_neg c_1 hF
    refine lv_iload_n hx hb dX6_closeLaw_4 rfl (lv_at hl 1 rfl) ?_
    refine lv_iconst (v := 4) hx hb dX6_closeLaw_5 (by decide) ?_
    refine lv_icmp_ge (tgt := 19) hx hb dX6_closeLaw_6 (by decide) (fun c_2 => ?_) (fun c_2 => ?_)
    · have hF := ob_pos c_2 hF
      exact hJ_19 h hF H _ ls hP hD hS (lv_sub hl [] rfl)
    · have hF := ob_neg c_2 hF
      refine lv_aload_n hx hb dX6_closeLaw_9 rfl (lv_at hl 0 rfl) ?_
      refine va_get (D := G) (ci := 6) (v := .ref (q 51)) (C := RX6) (T := TX6) (N := 6) hx hb hts iX6 hown hK hP 47 wC_at47 rfl 4 (by decide) (hts _ m_462) (fun _ h9 => h9) rfl dX6_closeLaw_10 ?_
      refine lv_iload_n hx hb dX6_closeLaw_13 rfl (lv_at hl 1 rfl) ?_
      refine lv_aload_n hx hb dX6_closeLaw_14 rfl (lv_at hl 0 rfl) ?_
      refine va_get (D := G) (ci := 6) (v := .int (eI h 12 5)) (C := RX6) (T := TX6) (N := 6) hx hb hts iX6 hown hK hP 47 wC_at47 rfl 5 (by decide) (hts _ m_460) (fun _ h9 => h9) rfl dX6_closeLaw_15 ?_
      obtain ⟨hi_3, hF⟩ := ob_if hF
      refine va_iast (D := G) hx hb hK hP hD hS 51 0 wC_at51 rfl (vp_in_iff.mpr hi_3) dX6_closeLaw_18 (fun H locs hP hD hS => ?_)
      rw [wC_sA51] at hP hD
      have hP : va_P G vwCl (wC q cI cJ cZ cB cT (sA h 12 4 (upd (eA h 12 4) ((p1).toNatClampNeg) (eI h 12 5)))) H := hP
      have hD : va_D A (wC q cI cJ cZ cB cT (sA h 12 4 (upd (eA h 12 4) ((p1).toNatClampNeg) (eI h 12 5)))) := hD
      exact hJ_19 (sA h 12 4 (upd (eA h 12 4) ((p1).toNatClampNeg) (eI h 12 5))) hF H _ ls hP hD hS (lv_sub hl [] rfl)
def f_X6_firstStep_3_19 (h : HS) (y0 : Int32) : Option (Int32 × HS) := (some (y0, h))
def f_X6_firstStep_3_18 (h : HS) : Option (Int32 × HS) := (f_X6_firstStep_3_19 h 0)
def f_X6_firstStep_3 (h : HS) (p1 : Int32) : Option (Int32 × HS) := (if p1 < 0 then (f_X6_firstStep_3_18 h) else (if 4 ≤ p1 then (f_X6_firstStep_3_18 h) else (if 0 ≤ (p1).toInt ∧ (p1).toInt < 4 then (f_X6_firstStep_3_19 h ((eA h 12 3) ((p1).toNatClampNeg))) else none)))
set_option maxHeartbeats 4000000 in
set_option maxRecDepth 100000 in
theorem c_X6_firstStep_3 (l : Launch) (G : va_G) (cI cJ cZ cB cT : ClassId) (q : Nat → Nat) (h : HS) (p1 : Int32) (rr : Int32) (hh : HS) (hF : f_X6_firstStep_3 h p1 = some (rr, hh)) : gMi l yX6_firstStep (gws yX6_firstStep cX6_firstStep 2 (some .int)) 1 G (gT cI cJ cZ cB cT) [.ref (q 47), .int p1] (wC q cI cJ cZ cB cT h) (fun x (_ : Unit) => x = rr) (fun (_ : Unit) => (wC q cI cJ cZ cB cT hh)) := by
  intro sz
  refine gM_start (y := yX6_firstStep) (av := [.ref (q 47), .int p1]) (ws := (wC q cI cJ cZ cB cT h)) (Qf := fun A => va_Qi (fun x (_ : Unit) => x = rr) (gB G (fun (_ : Unit) => (wC q cI cJ cZ cB cT hh)) A) A) (cc := cX6_firstStep) (maxL := 2) (ret := (some .int)) (by decide) (Nat.le_of_ble_eq_true rfl) ?_
  intro p e s m args below meth c A ls H hx hb hr hts hown hin hlocks hml hP hK hD hA hS hl hE
  have hl : lv_has ls 2 [(0, .ref (q 47)), (1, .int p1)] := hl
  have hJ_19 : ∀ (h : HS) (y0 : Int32), f_X6_firstStep_3_19 h y0 = some (rr, hh) → ∀ (H : Heap) (locs : List Loc) (ls : Array Slot), va_P G vwCl (wC q cI cJ cZ cB cT h) H → va_D A (wC q cI cJ cZ cB cT h) → va_S A s.heap H locs → lv_has ls 2 [] → W p l e (gRm 1) s m args below meth c H locs 0 0 (MQ below (va_Qi (fun x (_ : Unit) => x = rr) (gB G (fun (_ : Unit) => (wC q cI cJ cZ cB cT hh)) A) A) args s 0 0 A) (F0 m 19 ls [.int y0]) := by
    intro h y0 hF H locs ls hP hD hS hl
    unfold f_X6_firstStep_3_19 at hF
    obtain ⟨rfl, rfl⟩ := ob_pair hF
    exact gw_iret () hx hb hr hlocks hP hD hS rfl dX6_firstStep_19
  have hJ_18 : ∀ (h : HS), f_X6_firstStep_3_18 h = some (rr, hh) → ∀ (H : Heap) (locs : List Loc) (ls : Array Slot), va_P G vwCl (wC q cI cJ cZ cB cT h) H → va_D A (wC q cI cJ cZ cB cT h) → va_S A s.heap H locs → lv_has ls 2 [] → W p l e (gRm 1) s m args below meth c H locs 0 0 (MQ below (va_Qi (fun x (_ : Unit) => x = rr) (gB G (fun (_ : Unit) => (wC q cI cJ cZ cB cT hh)) A) A) args s 0 0 A) (F0 m 18 ls []) := by
    intro h hF H locs ls hP hD hS hl
    unfold f_X6_firstStep_3_18 at hF
    refine lv_iconst (v := 0) hx hb dX6_firstStep_18 (by decide) ?_
    exact hJ_19 h 0 hF H _ ls hP hD hS (lv_sub hl [] rfl)
  unfold f_X6_firstStep_3 at hF
  refine lv_iload_n hx hb dX6_firstStep_0 rfl (lv_at hl 1 rfl) ?_
  refine lv_if_lt (tgt := 18) hx hb dX6_firstStep_1 (by decide) (fun c_1 => ?_) (fun c_1 => ?_)
  · have hF := ob_pos c_1 hF
    exact hJ_18 h hF H _ ls hP hD hS (lv_sub hl [] rfl)
  · have hF := ob_neg c_1 hF
    refine lv_iload_n hx hb dX6_firstStep_4 rfl (lv_at hl 1 rfl) ?_
    refine lv_iconst (v := 4) hx hb dX6_firstStep_5 (by decide) ?_
    refine lv_icmp_ge (tgt := 18) hx hb dX6_firstStep_6 (by decide) (fun c_2 => ?_) (fun c_2 => ?_)
    · have hF := ob_pos c_2 hF
      exact hJ_18 h hF H _ ls hP hD hS (lv_sub hl [] rfl)
    · have hF := ob_neg c_2 hF
      refine lv_aload_n hx hb dX6_firstStep_9 rfl (lv_at hl 0 rfl) ?_
      refine va_get (D := G) (ci := 6) (v := .ref (q 50)) (C := RX6) (T := TX6) (N := 6) hx hb hts iX6 hown hK hP 47 wC_at47 rfl 3 (by decide) (hts _ m_461) (fun _ h9 => h9) rfl dX6_firstStep_10 ?_
      refine lv_iload_n hx hb dX6_firstStep_13 rfl (lv_at hl 1 rfl) ?_
      obtain ⟨hi_3, hF⟩ := ob_if hF
      refine va_iald (D := G) hx hb hK hP 50 0 wC_at50 rfl (vp_in_iff.mpr hi_3) dX6_firstStep_14 ?_
      refine gw_topi (y := ((eA h 12 3) ((p1).toNatClampNeg))) rfl ?_
      refine lv_goto (tgt := 19) hx hb dX6_firstStep_15 (by decide) ?_
      exact hJ_19 h ((eA h 12 3) ((p1).toNatClampNeg)) hF H _ ls hP hD hS (lv_sub hl [] rfl)
def f_X6_stepsEnd_3_19 (h : HS) (y0 : Int32) : Option (Int32 × HS) := (some (y0, h))
def f_X6_stepsEnd_3_18 (h : HS) : Option (Int32 × HS) := (f_X6_stepsEnd_3_19 h 0)
def f_X6_stepsEnd_3 (h : HS) (p1 : Int32) : Option (Int32 × HS) := (if p1 < 0 then (f_X6_stepsEnd_3_18 h) else (if 4 ≤ p1 then (f_X6_stepsEnd_3_18 h) else (if 0 ≤ (p1).toInt ∧ (p1).toInt < 4 then (f_X6_stepsEnd_3_19 h ((eA h 12 4) ((p1).toNatClampNeg))) else none)))
set_option maxHeartbeats 4000000 in
set_option maxRecDepth 100000 in
theorem c_X6_stepsEnd_3 (l : Launch) (G : va_G) (cI cJ cZ cB cT : ClassId) (q : Nat → Nat) (h : HS) (p1 : Int32) (rr : Int32) (hh : HS) (hF : f_X6_stepsEnd_3 h p1 = some (rr, hh)) : gMi l yX6_stepsEnd (gws yX6_stepsEnd cX6_stepsEnd 2 (some .int)) 1 G (gT cI cJ cZ cB cT) [.ref (q 47), .int p1] (wC q cI cJ cZ cB cT h) (fun x (_ : Unit) => x = rr) (fun (_ : Unit) => (wC q cI cJ cZ cB cT hh)) := by
  intro sz
  refine gM_start (y := yX6_stepsEnd) (av := [.ref (q 47), .int p1]) (ws := (wC q cI cJ cZ cB cT h)) (Qf := fun A => va_Qi (fun x (_ : Unit) => x = rr) (gB G (fun (_ : Unit) => (wC q cI cJ cZ cB cT hh)) A) A) (cc := cX6_stepsEnd) (maxL := 2) (ret := (some .int)) (by decide) (Nat.le_of_ble_eq_true rfl) ?_
  intro p e s m args below meth c A ls H hx hb hr hts hown hin hlocks hml hP hK hD hA hS hl hE
  have hl : lv_has ls 2 [(0, .ref (q 47)), (1, .int p1)] := hl
  have hJ_19 : ∀ (h : HS) (y0 : Int32), f_X6_stepsEnd_3_19 h y0 = some (rr, hh) → ∀ (H : Heap) (locs : List Loc) (ls : Array Slot), va_P G vwCl (wC q cI cJ cZ cB cT h) H → va_D A (wC q cI cJ cZ cB cT h) → va_S A s.heap H locs → lv_has ls 2 [] → W p l e (gRm 1) s m args below meth c H locs 0 0 (MQ below (va_Qi (fun x (_ : Unit) => x = rr) (gB G (fun (_ : Unit) => (wC q cI cJ cZ cB cT hh)) A) A) args s 0 0 A) (F0 m 19 ls [.int y0]) := by
    intro h y0 hF H locs ls hP hD hS hl
    unfold f_X6_stepsEnd_3_19 at hF
    obtain ⟨rfl, rfl⟩ := ob_pair hF
    exact gw_iret () hx hb hr hlocks hP hD hS rfl dX6_stepsEnd_19
  have hJ_18 : ∀ (h : HS), f_X6_stepsEnd_3_18 h = some (rr, hh) → ∀ (H : Heap) (locs : List Loc) (ls : Array Slot), va_P G vwCl (wC q cI cJ cZ cB cT h) H → va_D A (wC q cI cJ cZ cB cT h) → va_S A s.heap H locs → lv_has ls 2 [] → W p l e (gRm 1) s m args below meth c H locs 0 0 (MQ below (va_Qi (fun x (_ : Unit) => x = rr) (gB G (fun (_ : Unit) => (wC q cI cJ cZ cB cT hh)) A) A) args s 0 0 A) (F0 m 18 ls []) := by
    intro h hF H locs ls hP hD hS hl
    unfold f_X6_stepsEnd_3_18 at hF
    refine lv_iconst (v := 0) hx hb dX6_stepsEnd_18 (by decide) ?_
    exact hJ_19 h 0 hF H _ ls hP hD hS (lv_sub hl [] rfl)
  unfold f_X6_stepsEnd_3 at hF
  refine lv_iload_n hx hb dX6_stepsEnd_0 rfl (lv_at hl 1 rfl) ?_
  refine lv_if_lt (tgt := 18) hx hb dX6_stepsEnd_1 (by decide) (fun c_1 => ?_) (fun c_1 => ?_)
  · have hF := ob_pos c_1 hF
    exact hJ_18 h hF H _ ls hP hD hS (lv_sub hl [] rfl)
  · have hF := ob_neg c_1 hF
    refine lv_iload_n hx hb dX6_stepsEnd_4 rfl (lv_at hl 1 rfl) ?_
    refine lv_iconst (v := 4) hx hb dX6_stepsEnd_5 (by decide) ?_
    refine lv_icmp_ge (tgt := 18) hx hb dX6_stepsEnd_6 (by decide) (fun c_2 => ?_) (fun c_2 => ?_)
    · have hF := ob_pos c_2 hF
      exact hJ_18 h hF H _ ls hP hD hS (lv_sub hl [] rfl)
    · have hF := ob_neg c_2 hF
      refine lv_aload_n hx hb dX6_stepsEnd_9 rfl (lv_at hl 0 rfl) ?_
      refine va_get (D := G) (ci := 6) (v := .ref (q 51)) (C := RX6) (T := TX6) (N := 6) hx hb hts iX6 hown hK hP 47 wC_at47 rfl 4 (by decide) (hts _ m_462) (fun _ h9 => h9) rfl dX6_stepsEnd_10 ?_
      refine lv_iload_n hx hb dX6_stepsEnd_13 rfl (lv_at hl 1 rfl) ?_
      obtain ⟨hi_3, hF⟩ := ob_if hF
      refine va_iald (D := G) hx hb hK hP 51 0 wC_at51 rfl (vp_in_iff.mpr hi_3) dX6_stepsEnd_14 ?_
      refine gw_topi (y := ((eA h 12 4) ((p1).toNatClampNeg))) rfl ?_
      refine lv_goto (tgt := 19) hx hb dX6_stepsEnd_15 (by decide) ?_
      exact hJ_19 h ((eA h 12 4) ((p1).toNatClampNeg)) hF H _ ls hP hD hS (lv_sub hl [] rfl)
def f_X6_addStep_3_32 (h : HS) : Option HS := (some h)
def f_X6_addStep_3 (h : HS) (p1 : Int32) : Option HS := (if 300 ≤ (eI h 12 5) then (f_X6_addStep_3_32 h) else (if 0 ≤ ((eI h 12 5)).toInt ∧ ((eI h 12 5)).toInt < 300 then (f_X6_addStep_3_32 (sI (sA h 12 2 (upd (eA h 12 2) (((eI h 12 5)).toNatClampNeg) p1)) 12 5 ((eI h 12 5) + 1))) else none))
set_option maxHeartbeats 4000000 in
set_option maxRecDepth 100000 in
theorem c_X6_addStep_3 (l : Launch) (G : va_G) (cI cJ cZ cB cT : ClassId) (q : Nat → Nat) (h : HS) (p1 : Int32) (hh : HS) (hF : f_X6_addStep_3 h p1 = some hh) : gMv l yX6_addStep (gws yX6_addStep cX6_addStep 2 none) 1 G (gT cI cJ cZ cB cT) [.ref (q 47), .int p1] (wC q cI cJ cZ cB cT h) (fun (_ : Unit) => True) (fun (_ : Unit) => (wC q cI cJ cZ cB cT hh)) := by
  intro sz
  refine gM_start (y := yX6_addStep) (av := [.ref (q 47), .int p1]) (ws := (wC q cI cJ cZ cB cT h)) (Qf := fun A => va_Qv (fun (_ : Unit) => True) (gB G (fun (_ : Unit) => (wC q cI cJ cZ cB cT hh)) A) A) (cc := cX6_addStep) (maxL := 2) (ret := none) (by decide) (Nat.le_of_ble_eq_true rfl) ?_
  intro p e s m args below meth c A ls H hx hb hr hts hown hin hlocks hml hP hK hD hA hS hl hE
  have hl : lv_has ls 2 [(0, .ref (q 47)), (1, .int p1)] := hl
  have hJ_32 : ∀ (h : HS), f_X6_addStep_3_32 h = some hh → ∀ (H : Heap) (locs : List Loc) (ls : Array Slot), va_P G vwCl (wC q cI cJ cZ cB cT h) H → va_D A (wC q cI cJ cZ cB cT h) → va_S A s.heap H locs → lv_has ls 2 [] → W p l e (gRm 1) s m args below meth c H locs 0 0 (MQ below (va_Qv (fun (_ : Unit) => True) (gB G (fun (_ : Unit) => (wC q cI cJ cZ cB cT hh)) A) A) args s 0 0 A) (F0 m 32 ls []) := by
    intro h hF H locs ls hP hD hS hl
    unfold f_X6_addStep_3_32 at hF
    obtain rfl := ob_one hF
    exact gw_vret () hx hb hr hlocks hP hD hS trivial dX6_addStep_32
  unfold f_X6_addStep_3 at hF
  refine lv_aload_n hx hb dX6_addStep_0 rfl (lv_at hl 0 rfl) ?_
  refine va_get (D := G) (ci := 6) (v := .int (eI h 12 5)) (C := RX6) (T := TX6) (N := 6) hx hb hts iX6 hown hK hP 47 wC_at47 rfl 5 (by decide) (hts _ m_460) (fun _ h9 => h9) rfl dX6_addStep_1 ?_
  refine lv_aload_n hx hb dX6_addStep_4 rfl (lv_at hl 0 rfl) ?_
  refine va_get (D := G) (ci := 6) (v := .ref (q 49)) (C := RX6) (T := TX6) (N := 6) hx hb hts iX6 hown hK hP 47 wC_at47 rfl 2 (by decide) (hts _ m_463) (fun _ h9 => h9) rfl dX6_addStep_5 ?_
  refine va_alen (D := G) hx hb hK hP 49 0 wC_at49 rfl (v := 300) rfl dX6_addStep_8 ?_
  refine lv_icmp_ge (tgt := 32) hx hb dX6_addStep_9 (by decide) (fun c_1 => ?_) (fun c_1 => ?_)
  · have hF := ob_pos c_1 hF
    exact hJ_32 h hF H _ ls hP hD hS (lv_sub hl [] rfl)
  · have hF := ob_neg c_1 hF
    refine lv_aload_n hx hb dX6_addStep_12 rfl (lv_at hl 0 rfl) ?_
    refine va_get (D := G) (ci := 6) (v := .ref (q 49)) (C := RX6) (T := TX6) (N := 6) hx hb hts iX6 hown hK hP 47 wC_at47 rfl 2 (by decide) (hts _ m_463) (fun _ h9 => h9) rfl dX6_addStep_13 ?_
    refine lv_aload_n hx hb dX6_addStep_16 rfl (lv_at hl 0 rfl) ?_
    refine va_get (D := G) (ci := 6) (v := .int (eI h 12 5)) (C := RX6) (T := TX6) (N := 6) hx hb hts iX6 hown hK hP 47 wC_at47 rfl 5 (by decide) (hts _ m_460) (fun _ h9 => h9) rfl dX6_addStep_17 ?_
    refine lv_iload_n hx hb dX6_addStep_20 rfl (lv_at hl 1 rfl) ?_
    obtain ⟨hi_2, hF⟩ := ob_if hF
    refine va_iast (D := G) hx hb hK hP hD hS 49 0 wC_at49 rfl (vp_in_iff.mpr hi_2) dX6_addStep_21 (fun H locs hP hD hS => ?_)
    rw [wC_sA49] at hP hD
    have hP : va_P G vwCl (wC q cI cJ cZ cB cT (sA h 12 2 (upd (eA h 12 2) (((eI h 12 5)).toNatClampNeg) p1))) H := hP
    have hD : va_D A (wC q cI cJ cZ cB cT (sA h 12 2 (upd (eA h 12 2) (((eI h 12 5)).toNatClampNeg) p1))) := hD
    refine lv_aload_n hx hb dX6_addStep_22 rfl (lv_at hl 0 rfl) ?_
    refine lv_dup hx hb dX6_addStep_23 rfl ?_
    refine va_get (D := G) (ci := 6) (v := .int (eI h 12 5)) (C := RX6) (T := TX6) (N := 6) hx hb hts iX6 hown hK hP 47 wC_at47 rfl 5 (by decide) (hts _ m_460) (fun _ h9 => h9) rfl dX6_addStep_24 ?_
    refine lv_iconst (v := 1) hx hb dX6_addStep_27 (by decide) ?_
    refine lv_iadd hx hb dX6_addStep_28 ?_
    refine va_put (D := G) (ci := 6) (v := .int ((eI h 12 5) + 1)) (ty := .int) (C := RX6) (T := TX6) (N := 6) hx hb hts iX6 tyX6 tyX6_ok nmX6 hown hK hP hD hS 47 wC_at47 rfl 5 (by decide) (hts _ m_460) (fun _ h9 => h9) rfl (tyX6_ok 5 (by decide)) rfl rfl (Nat.le_of_ble_eq_true rfl) dX6_addStep_29 (fun H locs hP hD hS => ?_)
    rw [wC_sI47_5] at hP hD
    exact hJ_32 (sI (sA h 12 2 (upd (eA h 12 2) (((eI h 12 5)).toNatClampNeg) p1)) 12 5 ((eI h 12 5) + 1)) hF H _ ls hP hD hS (lv_sub hl [] rfl)
def f_X6_stepAt_3_31 (h : HS) (y0 : Int32) : Option (Int32 × HS) := (some (y0, h))
def f_X6_stepAt_3_30 (h : HS) : Option (Int32 × HS) := (f_X6_stepAt_3_31 h 0)
def f_X6_stepAt_3 (h : HS) (p1 : Int32) : Option (Int32 × HS) := (if p1 < 0 then (f_X6_stepAt_3_30 h) else (if (eI h 12 5) ≤ p1 then (f_X6_stepAt_3_30 h) else (if 300 ≤ p1 then (f_X6_stepAt_3_30 h) else (if 0 ≤ (p1).toInt ∧ (p1).toInt < 300 then (f_X6_stepAt_3_31 h ((eA h 12 2) ((p1).toNatClampNeg))) else none))))
set_option maxHeartbeats 4000000 in
set_option maxRecDepth 100000 in
theorem c_X6_stepAt_3 (l : Launch) (G : va_G) (cI cJ cZ cB cT : ClassId) (q : Nat → Nat) (h : HS) (p1 : Int32) (rr : Int32) (hh : HS) (hF : f_X6_stepAt_3 h p1 = some (rr, hh)) : gMi l yX6_stepAt (gws yX6_stepAt cX6_stepAt 2 (some .int)) 1 G (gT cI cJ cZ cB cT) [.ref (q 47), .int p1] (wC q cI cJ cZ cB cT h) (fun x (_ : Unit) => x = rr) (fun (_ : Unit) => (wC q cI cJ cZ cB cT hh)) := by
  intro sz
  refine gM_start (y := yX6_stepAt) (av := [.ref (q 47), .int p1]) (ws := (wC q cI cJ cZ cB cT h)) (Qf := fun A => va_Qi (fun x (_ : Unit) => x = rr) (gB G (fun (_ : Unit) => (wC q cI cJ cZ cB cT hh)) A) A) (cc := cX6_stepAt) (maxL := 2) (ret := (some .int)) (by decide) (Nat.le_of_ble_eq_true rfl) ?_
  intro p e s m args below meth c A ls H hx hb hr hts hown hin hlocks hml hP hK hD hA hS hl hE
  have hl : lv_has ls 2 [(0, .ref (q 47)), (1, .int p1)] := hl
  have hJ_31 : ∀ (h : HS) (y0 : Int32), f_X6_stepAt_3_31 h y0 = some (rr, hh) → ∀ (H : Heap) (locs : List Loc) (ls : Array Slot), va_P G vwCl (wC q cI cJ cZ cB cT h) H → va_D A (wC q cI cJ cZ cB cT h) → va_S A s.heap H locs → lv_has ls 2 [] → W p l e (gRm 1) s m args below meth c H locs 0 0 (MQ below (va_Qi (fun x (_ : Unit) => x = rr) (gB G (fun (_ : Unit) => (wC q cI cJ cZ cB cT hh)) A) A) args s 0 0 A) (F0 m 31 ls [.int y0]) := by
    intro h y0 hF H locs ls hP hD hS hl
    unfold f_X6_stepAt_3_31 at hF
    obtain ⟨rfl, rfl⟩ := ob_pair hF
    exact gw_iret () hx hb hr hlocks hP hD hS rfl dX6_stepAt_31
  have hJ_30 : ∀ (h : HS), f_X6_stepAt_3_30 h = some (rr, hh) → ∀ (H : Heap) (locs : List Loc) (ls : Array Slot), va_P G vwCl (wC q cI cJ cZ cB cT h) H → va_D A (wC q cI cJ cZ cB cT h) → va_S A s.heap H locs → lv_has ls 2 [] → W p l e (gRm 1) s m args below meth c H locs 0 0 (MQ below (va_Qi (fun x (_ : Unit) => x = rr) (gB G (fun (_ : Unit) => (wC q cI cJ cZ cB cT hh)) A) A) args s 0 0 A) (F0 m 30 ls []) := by
    intro h hF H locs ls hP hD hS hl
    unfold f_X6_stepAt_3_30 at hF
    refine lv_iconst (v := 0) hx hb dX6_stepAt_30 (by decide) ?_
    exact hJ_31 h 0 hF H _ ls hP hD hS (lv_sub hl [] rfl)
  unfold f_X6_stepAt_3 at hF
  refine lv_iload_n hx hb dX6_stepAt_0 rfl (lv_at hl 1 rfl) ?_
  refine lv_if_lt (tgt := 30) hx hb dX6_stepAt_1 (by decide) (fun c_1 => ?_) (fun c_1 => ?_)
  · have hF := ob_pos c_1 hF
    exact hJ_30 h hF H _ ls hP hD hS (lv_sub hl [] rfl)
  · have hF := ob_neg c_1 hF
    refine lv_iload_n hx hb dX6_stepAt_4 rfl (lv_at hl 1 rfl) ?_
    refine lv_aload_n hx hb dX6_stepAt_5 rfl (lv_at hl 0 rfl) ?_
    refine va_get (D := G) (ci := 6) (v := .int (eI h 12 5)) (C := RX6) (T := TX6) (N := 6) hx hb hts iX6 hown hK hP 47 wC_at47 rfl 5 (by decide) (hts _ m_460) (fun _ h9 => h9) rfl dX6_stepAt_6 ?_
    refine lv_icmp_ge (tgt := 30) hx hb dX6_stepAt_9 (by decide) (fun c_2 => ?_) (fun c_2 => ?_)
    · have hF := ob_pos c_2 hF
      exact hJ_30 h hF H _ ls hP hD hS (lv_sub hl [] rfl)
    · have hF := ob_neg c_2 hF
      refine lv_iload_n hx hb dX6_stepAt_12 rfl (lv_at hl 1 rfl) ?_
      refine lv_aload_n hx hb dX6_stepAt_13 rfl (lv_at hl 0 rfl) ?_
      refine va_get (D := G) (ci := 6) (v := .ref (q 49)) (C := RX6) (T := TX6) (N := 6) hx hb hts iX6 hown hK hP 47 wC_at47 rfl 2 (by decide) (hts _ m_463) (fun _ h9 => h9) rfl dX6_stepAt_14 ?_
      refine va_alen (D := G) hx hb hK hP 49 0 wC_at49 rfl (v := 300) rfl dX6_stepAt_17 ?_
      refine lv_icmp_ge (tgt := 30) hx hb dX6_stepAt_18 (by decide) (fun c_3 => ?_) (fun c_3 => ?_)
      · have hF := ob_pos c_3 hF
        exact hJ_30 h hF H _ ls hP hD hS (lv_sub hl [] rfl)
      · have hF := ob_neg c_3 hF
        refine lv_aload_n hx hb dX6_stepAt_21 rfl (lv_at hl 0 rfl) ?_
        refine va_get (D := G) (ci := 6) (v := .ref (q 49)) (C := RX6) (T := TX6) (N := 6) hx hb hts iX6 hown hK hP 47 wC_at47 rfl 2 (by decide) (hts _ m_463) (fun _ h9 => h9) rfl dX6_stepAt_22 ?_
        refine lv_iload_n hx hb dX6_stepAt_25 rfl (lv_at hl 1 rfl) ?_
        obtain ⟨hi_4, hF⟩ := ob_if hF
        refine va_iald (D := G) hx hb hK hP 49 0 wC_at49 rfl (vp_in_iff.mpr hi_4) dX6_stepAt_26 ?_
        refine gw_topi (y := ((eA h 12 2) ((p1).toNatClampNeg))) rfl ?_
        refine lv_goto (tgt := 31) hx hb dX6_stepAt_27 (by decide) ?_
        exact hJ_31 h ((eA h 12 2) ((p1).toNatClampNeg)) hF H _ ls hP hD hS (lv_sub hl [] rfl)
def f_X6_clauseField_3_19 (h : HS) : Option (Int32 × HS) := (some ((-1), h))
def f_X6_clauseField_3 (h : HS) (p1 : Int32) (p2 : Int32) : Option (Int32 × HS) := (if p1 < 0 then (f_X6_clauseField_3_19 h) else (if 24 ≤ p1 then (f_X6_clauseField_3_19 h) else (if p2 < 0 then (f_X6_clauseField_3_19 h) else (if p2 < 4 then (if 0 ≤ (((p1 * 4) + p2)).toInt ∧ (((p1 * 4) + p2)).toInt < 96 then (some (((eA h 12 0) ((((p1 * 4) + p2)).toNatClampNeg)), h)) else none) else (f_X6_clauseField_3_19 h)))))
set_option maxHeartbeats 4000000 in
set_option maxRecDepth 100000 in
theorem c_X6_clauseField_3 (l : Launch) (G : va_G) (cI cJ cZ cB cT : ClassId) (q : Nat → Nat) (h : HS) (p1 : Int32) (p2 : Int32) (rr : Int32) (hh : HS) (hF : f_X6_clauseField_3 h p1 p2 = some (rr, hh)) : gMi l yX6_clauseField (gws yX6_clauseField cX6_clauseField 3 (some .int)) 1 G (gT cI cJ cZ cB cT) [.ref (q 47), .int p1, .int p2] (wC q cI cJ cZ cB cT h) (fun x (_ : Unit) => x = rr) (fun (_ : Unit) => (wC q cI cJ cZ cB cT hh)) := by
  intro sz
  refine gM_start (y := yX6_clauseField) (av := [.ref (q 47), .int p1, .int p2]) (ws := (wC q cI cJ cZ cB cT h)) (Qf := fun A => va_Qi (fun x (_ : Unit) => x = rr) (gB G (fun (_ : Unit) => (wC q cI cJ cZ cB cT hh)) A) A) (cc := cX6_clauseField) (maxL := 3) (ret := (some .int)) (by decide) (Nat.le_of_ble_eq_true rfl) ?_
  intro p e s m args below meth c A ls H hx hb hr hts hown hin hlocks hml hP hK hD hA hS hl hE
  have hl : lv_has ls 3 [(0, .ref (q 47)), (1, .int p1), (2, .int p2)] := hl
  have hJ_19 : ∀ (h : HS), f_X6_clauseField_3_19 h = some (rr, hh) → ∀ (H : Heap) (locs : List Loc) (ls : Array Slot), va_P G vwCl (wC q cI cJ cZ cB cT h) H → va_D A (wC q cI cJ cZ cB cT h) → va_S A s.heap H locs → lv_has ls 3 [] → W p l e (gRm 1) s m args below meth c H locs 0 0 (MQ below (va_Qi (fun x (_ : Unit) => x = rr) (gB G (fun (_ : Unit) => (wC q cI cJ cZ cB cT hh)) A) A) args s 0 0 A) (F0 m 19 ls []) := by
    intro h hF H locs ls hP hD hS hl
    unfold f_X6_clauseField_3_19 at hF
    refine lv_iconst (v := (-1)) hx hb dX6_clauseField_19 (by decide) ?_
    obtain ⟨rfl, rfl⟩ := ob_pair hF
    exact gw_iret () hx hb hr hlocks hP hD hS rfl dX6_clauseField_20
  unfold f_X6_clauseField_3 at hF
  refine lv_iload_n hx hb dX6_clauseField_0 rfl (lv_at hl 1 rfl) ?_
  refine lv_if_lt (tgt := 19) hx hb dX6_clauseField_1 (by decide) (fun c_1 => ?_) (fun c_1 => ?_)
  · have hF := ob_pos c_1 hF
    exact hJ_19 h hF H _ ls hP hD hS (lv_sub hl [] rfl)
  · have hF := ob_neg c_1 hF
    refine lv_iload_n hx hb dX6_clauseField_4 rfl (lv_at hl 1 rfl) ?_
    refine lv_bipush (v := 24) hx hb dX6_clauseField_5 (by decide) ?_
    refine lv_icmp_ge (tgt := 19) hx hb dX6_clauseField_7 (by decide) (fun c_2 => ?_) (fun c_2 => ?_)
    · have hF := ob_pos c_2 hF
      exact hJ_19 h hF H _ ls hP hD hS (lv_sub hl [] rfl)
    · have hF := ob_neg c_2 hF
      refine lv_iload_n hx hb dX6_clauseField_10 rfl (lv_at hl 2 rfl) ?_
      refine lv_if_lt (tgt := 19) hx hb dX6_clauseField_11 (by decide) (fun c_3 => ?_) (fun c_3 => ?_)
      · have hF := ob_pos c_3 hF
        exact hJ_19 h hF H _ ls hP hD hS (lv_sub hl [] rfl)
      · have hF := ob_neg c_3 hF
        refine lv_iload_n hx hb dX6_clauseField_14 rfl (lv_at hl 2 rfl) ?_
        refine lv_iconst (v := 4) hx hb dX6_clauseField_15 (by decide) ?_
        refine lv_icmp_lt (tgt := 21) hx hb dX6_clauseField_16 (by decide) (fun c_4 => ?_) (fun c_4 => ?_)
        · have hF := ob_pos c_4 hF
          refine lv_aload_n hx hb dX6_clauseField_21 rfl (lv_at hl 0 rfl) ?_
          refine va_get (D := G) (ci := 6) (v := .ref (q 48)) (C := RX6) (T := TX6) (N := 6) hx hb hts iX6 hown hK hP 47 wC_at47 rfl 0 (by decide) (hts _ m_464) (fun _ h9 => h9) rfl dX6_clauseField_22 ?_
          refine lv_iload_n hx hb dX6_clauseField_25 rfl (lv_at hl 1 rfl) ?_
          refine lv_iconst (v := 4) hx hb dX6_clauseField_26 (by decide) ?_
          refine lv_imul hx hb dX6_clauseField_27 ?_
          refine lv_iload_n hx hb dX6_clauseField_28 rfl (lv_at hl 2 rfl) ?_
          refine lv_iadd hx hb dX6_clauseField_29 ?_
          obtain ⟨hi_5, hF⟩ := ob_if hF
          refine va_iald (D := G) hx hb hK hP 48 0 wC_at48 rfl (vp_in_iff.mpr hi_5) dX6_clauseField_30 ?_
          refine gw_topi (y := ((eA h 12 0) ((((p1 * 4) + p2)).toNatClampNeg))) rfl ?_
          obtain ⟨rfl, rfl⟩ := ob_pair hF
          exact gw_iret () hx hb hr hlocks hP hD hS rfl dX6_clauseField_31
        · have hF := ob_neg c_4 hF
          exact hJ_19 h hF H _ ls hP hD hS (lv_sub hl [] rfl)
def f_X6_setClause_3_30 (h : HS) : Option HS := (some h)
def f_X6_setClause_3 (h : HS) (p1 : Int32) (p2 : Int32) (p3 : Int32) : Option HS := (if p1 < 0 then (f_X6_setClause_3_30 h) else (if 24 ≤ p1 then (f_X6_setClause_3_30 h) else (if p2 < 0 then (f_X6_setClause_3_30 h) else (if 4 ≤ p2 then (f_X6_setClause_3_30 h) else (if 0 ≤ (((p1 * 4) + p2)).toInt ∧ (((p1 * 4) + p2)).toInt < 96 then (f_X6_setClause_3_30 (sA h 12 0 (upd (eA h 12 0) ((((p1 * 4) + p2)).toNatClampNeg) p3))) else none)))))
set_option maxHeartbeats 4000000 in
set_option maxRecDepth 100000 in
theorem c_X6_setClause_3 (l : Launch) (G : va_G) (cI cJ cZ cB cT : ClassId) (q : Nat → Nat) (h : HS) (p1 : Int32) (p2 : Int32) (p3 : Int32) (hh : HS) (hF : f_X6_setClause_3 h p1 p2 p3 = some hh) : gMv l yX6_setClause (gws yX6_setClause cX6_setClause 4 none) 1 G (gT cI cJ cZ cB cT) [.ref (q 47), .int p1, .int p2, .int p3] (wC q cI cJ cZ cB cT h) (fun (_ : Unit) => True) (fun (_ : Unit) => (wC q cI cJ cZ cB cT hh)) := by
  intro sz
  refine gM_start (y := yX6_setClause) (av := [.ref (q 47), .int p1, .int p2, .int p3]) (ws := (wC q cI cJ cZ cB cT h)) (Qf := fun A => va_Qv (fun (_ : Unit) => True) (gB G (fun (_ : Unit) => (wC q cI cJ cZ cB cT hh)) A) A) (cc := cX6_setClause) (maxL := 4) (ret := none) (by decide) (Nat.le_of_ble_eq_true rfl) ?_
  intro p e s m args below meth c A ls H hx hb hr hts hown hin hlocks hml hP hK hD hA hS hl hE
  have hl : lv_has ls 4 [(0, .ref (q 47)), (1, .int p1), (2, .int p2), (3, .int p3)] := hl
  have hJ_30 : ∀ (h : HS), f_X6_setClause_3_30 h = some hh → ∀ (H : Heap) (locs : List Loc) (ls : Array Slot), va_P G vwCl (wC q cI cJ cZ cB cT h) H → va_D A (wC q cI cJ cZ cB cT h) → va_S A s.heap H locs → lv_has ls 4 [] → W p l e (gRm 1) s m args below meth c H locs 0 0 (MQ below (va_Qv (fun (_ : Unit) => True) (gB G (fun (_ : Unit) => (wC q cI cJ cZ cB cT hh)) A) A) args s 0 0 A) (F0 m 30 ls []) := by
    intro h hF H locs ls hP hD hS hl
    unfold f_X6_setClause_3_30 at hF
    obtain rfl := ob_one hF
    exact gw_vret () hx hb hr hlocks hP hD hS trivial dX6_setClause_30
  unfold f_X6_setClause_3 at hF
  refine lv_iload_n hx hb dX6_setClause_0 rfl (lv_at hl 1 rfl) ?_
  refine lv_if_lt (tgt := 30) hx hb dX6_setClause_1 (by decide) (fun c_1 => ?_) (fun c_1 => ?_)
  · have hF := ob_pos c_1 hF
    exact hJ_30 h hF H _ ls hP hD hS (lv_sub hl [] rfl)
  · have hF := ob_neg c_1 hF
    refine lv_iload_n hx hb dX6_setClause_4 rfl (lv_at hl 1 rfl) ?_
    refine lv_bipush (v := 24) hx hb dX6_setClause_5 (by decide) ?_
    refine lv_icmp_ge (tgt := 30) hx hb dX6_setClause_7 (by decide) (fun c_2 => ?_) (fun c_2 => ?_)
    · have hF := ob_pos c_2 hF
      exact hJ_30 h hF H _ ls hP hD hS (lv_sub hl [] rfl)
    · have hF := ob_neg c_2 hF
      refine lv_iload_n hx hb dX6_setClause_10 rfl (lv_at hl 2 rfl) ?_
      refine lv_if_lt (tgt := 30) hx hb dX6_setClause_11 (by decide) (fun c_3 => ?_) (fun c_3 => ?_)
      · have hF := ob_pos c_3 hF
        exact hJ_30 h hF H _ ls hP hD hS (lv_sub hl [] rfl)
      · have hF := ob_neg c_3 hF
        refine lv_iload_n hx hb dX6_setClause_14 rfl (lv_at hl 2 rfl) ?_
        refine lv_iconst (v := 4) hx hb dX6_setClause_15 (by decide) ?_
        refine lv_icmp_ge (tgt := 30) hx hb dX6_setClause_16 (by decide) (fun c_4 => ?_) (fun c_4 => ?_)
        · have hF := ob_pos c_4 hF
          exact hJ_30 h hF H _ ls hP hD hS (lv_sub hl [] rfl)
        · have hF := ob_neg c_4 hF
          refine lv_aload_n hx hb dX6_setClause_19 rfl (lv_at hl 0 rfl) ?_
          refine va_get (D := G) (ci := 6) (v := .ref (q 48)) (C := RX6) (T := TX6) (N := 6) hx hb hts iX6 hown hK hP 47 wC_at47 rfl 0 (by decide) (hts _ m_464) (fun _ h9 => h9) rfl dX6_setClause_20 ?_
          refine lv_iload_n hx hb dX6_setClause_23 rfl (lv_at hl 1 rfl) ?_
          refine lv_iconst (v := 4) hx hb dX6_setClause_24 (by decide) ?_
          refine lv_imul hx hb dX6_setClause_25 ?_
          refine lv_iload_n hx hb dX6_setClause_26 rfl (lv_at hl 2 rfl) ?_
          refine lv_iadd hx hb dX6_setClause_27 ?_
          refine lv_iload_n hx hb dX6_setClause_28 rfl (lv_at hl 3 rfl) ?_
          obtain ⟨hi_5, hF⟩ := ob_if hF
          refine va_iast (D := G) hx hb hK hP hD hS 48 0 wC_at48 rfl (vp_in_iff.mpr hi_5) dX6_setClause_29 (fun H locs hP hD hS => ?_)
          rw [wC_sA48] at hP hD
          have hP : va_P G vwCl (wC q cI cJ cZ cB cT (sA h 12 0 (upd (eA h 12 0) ((((p1 * 4) + p2)).toNatClampNeg) p3))) H := hP
          have hD : va_D A (wC q cI cJ cZ cB cT (sA h 12 0 (upd (eA h 12 0) ((((p1 * 4) + p2)).toNatClampNeg) p3))) := hD
          exact hJ_30 (sA h 12 0 (upd (eA h 12 0) ((((p1 * 4) + p2)).toNatClampNeg) p3)) hF H _ ls hP hD hS (lv_sub hl [] rfl)
def f_X0_begin_40 (k12 : HS → Int32 → Int32 → Int32 → Option HS) (h : HS) (x1 : Int32) (x2 : Int32) (x3 : Int32) (y0 : Int64) (y1 : Int32) : Option HS := (if 0 ≤ (y1).toInt ∧ (y1).toInt < 16 then (k12 (sJ h 7 2 (vp_updL (eJ h 7 2) ((y1).toNatClampNeg) y0)) x1 x2 (x3 + 1)) else none)
def f_X0_begin_12 : Nat → HS → Int32 → Int32 → Int32 → Option HS
  | 0, _, _, _, _ => none
  | n + 1, h, x1, x2, x3 => (if 16 ≤ x3 then (some h) else (if x3 = ((x1 * 4) + x2) then (f_X0_begin_40 (f_X0_begin_12 n) h x1 x2 x3 1 x3) else (f_X0_begin_40 (f_X0_begin_12 n) h x1 x2 x3 0 x3)))
theorem f_X0_begin_12_s (n : Nat) (h : HS) (x1 : Int32) (x2 : Int32) (x3 : Int32) : f_X0_begin_12 (n + 1) h x1 x2 x3 = (if 16 ≤ x3 then (some h) else (if x3 = ((x1 * 4) + x2) then (f_X0_begin_40 (f_X0_begin_12 n) h x1 x2 x3 1 x3) else (f_X0_begin_40 (f_X0_begin_12 n) h x1 x2 x3 0 x3))) := rfl
def f_X0_begin (h : HS) (p1 : Int32) (p2 : Int32) : Option HS := (f_X0_begin_12 8589934592 (sL (sI h 7 0 0) 7 1 1) p1 p2 0)
set_option maxHeartbeats 4000000 in
set_option maxRecDepth 100000 in
theorem c_X0_begin (l : Launch) (G : va_G) (cI cJ cZ cB cT : ClassId) (q : Nat → Nat) (h : HS) (p1 : Int32) (p2 : Int32) (hh : HS) (hF : f_X0_begin h p1 p2 = some hh) : gMv l yX0_begin (gws yX0_begin cX0_begin 4 none) 1 G (gT cI cJ cZ cB cT) [.ref (q 20), .int p1, .int p2] (wC q cI cJ cZ cB cT h) (fun (_ : Unit) => True) (fun (_ : Unit) => (wC q cI cJ cZ cB cT hh)) := by
  intro sz
  refine gM_start (y := yX0_begin) (av := [.ref (q 20), .int p1, .int p2]) (ws := (wC q cI cJ cZ cB cT h)) (Qf := fun A => va_Qv (fun (_ : Unit) => True) (gB G (fun (_ : Unit) => (wC q cI cJ cZ cB cT hh)) A) A) (cc := cX0_begin) (maxL := 4) (ret := none) (by decide) (Nat.le_of_ble_eq_true rfl) ?_
  intro p e s m args below meth c A ls H hx hb hr hts hown hin hlocks hml hP hK hD hA hS hl hE
  have hl : lv_has ls 4 [(0, .ref (q 20)), (1, .int p1), (2, .int p2)] := hl
  have hJ_12 : ∀ (n_12 : Nat) (h : HS) (x1 : Int32) (x2 : Int32) (x3 : Int32), f_X0_begin_12 n_12 h x1 x2 x3 = some hh → ∀ (H : Heap) (locs : List Loc) (ls : Array Slot), va_P G vwCl (wC q cI cJ cZ cB cT h) H → va_D A (wC q cI cJ cZ cB cT h) → va_S A s.heap H locs → lv_has ls 4 [(0, .ref (q 20)), (1, .int x1), (2, .int x2), (3, .int x3)] → W p l e (gRm 1) s m args below meth c H locs 0 0 (MQ below (va_Qv (fun (_ : Unit) => True) (gB G (fun (_ : Unit) => (wC q cI cJ cZ cB cT hh)) A) A) args s 0 0 A) (F0 m 12 ls []) := by
    intro n_12
    induction n_12 with
    | zero =>
      intro h x1 x2 x3 hF
      exact absurd hF (by simp [f_X0_begin_12])
    | succ n_12 ih_12 =>
      have hJ_40 : ∀ (h : HS) (x1 : Int32) (x2 : Int32) (x3 : Int32) (y0 : Int64) (y1 : Int32), f_X0_begin_40 (f_X0_begin_12 n_12) h x1 x2 x3 y0 y1 = some hh → ∀ (H : Heap) (locs : List Loc) (ls : Array Slot), va_P G vwCl (wC q cI cJ cZ cB cT h) H → va_D A (wC q cI cJ cZ cB cT h) → va_S A s.heap H locs → lv_has ls 4 [(0, .ref (q 20)), (1, .int x1), (2, .int x2), (3, .int x3)] → W p l e (gRm 1) s m args below meth c H locs 0 0 (MQ below (va_Qv (fun (_ : Unit) => True) (gB G (fun (_ : Unit) => (wC q cI cJ cZ cB cT hh)) A) A) args s 0 0 A) (F0 m 40 ls [.long y0, .int y1, .ref (q 21)]) := by
        intro h x1 x2 x3 y0 y1 hF H locs ls hP hD hS hl
        unfold f_X0_begin_40 at hF
        obtain ⟨hi_3, hF⟩ := ob_if hF
        refine va_last (D := G) hx hb hK hP hD hS 21 1 wC_at21 rfl (vp_in_iff.mpr hi_3) dX0_begin_40 (fun H locs hP hD hS => ?_)
        rw [wC_sA21] at hP hD
        have hP : va_P G vwCl (wC q cI cJ cZ cB cT (sJ h 7 2 (vp_updL (eJ h 7 2) ((y1).toNatClampNeg) y0))) H := hP
        have hD : va_D A (wC q cI cJ cZ cB cT (sJ h 7 2 (vp_updL (eJ h 7 2) ((y1).toNatClampNeg) y0))) := hD
        refine lv_iinc (v := (x3 + 1)) (lv' := [(3, .int (x3 + 1)), (0, .ref (q 20)), (1, .int x1), (2, .int x2)]) hx hb dX0_begin_41 hl (k := 3) rfl rfl (by decide) rfl (fun ls hl => ?_)
        refine lv_goto (tgt := 12) hx hb dX0_begin_44 (by decide) ?_
        exact ih_12 (sJ h 7 2 (vp_updL (eJ h 7 2) ((y1).toNatClampNeg) y0)) x1 x2 (x3 + 1) hF H _ ls hP hD hS (lv_sub hl [1, 2, 3, 0] rfl)
      intro h x1 x2 x3 hF H locs ls hP hD hS hl
      rw [f_X0_begin_12_s] at hF
      refine lv_iload_n hx hb dX0_begin_12 rfl (lv_at hl 3 rfl) ?_
      refine lv_aload_n hx hb dX0_begin_13 rfl (lv_at hl 0 rfl) ?_
      refine va_get (D := G) (ci := 0) (v := .ref (q 21)) (C := RX0) (T := TX0) (N := 4) hx hb hts iX0 hown hK hP 20 wC_at20 rfl 2 (by decide) (hts _ m_467) (fun _ h9 => h9) rfl dX0_begin_14 ?_
      refine va_alen (D := G) hx hb hK hP 21 1 wC_at21 rfl (v := 16) rfl dX0_begin_17 ?_
      refine lv_icmp_ge (tgt := 47) hx hb dX0_begin_18 (by decide) (fun c_1 => ?_) (fun c_1 => ?_)
      · have hF := ob_pos c_1 hF
        obtain rfl := ob_one hF
        exact gw_vret () hx hb hr hlocks hP hD hS trivial dX0_begin_47
      · have hF := ob_neg c_1 hF
        refine lv_aload_n hx hb dX0_begin_21 rfl (lv_at hl 0 rfl) ?_
        refine va_get (D := G) (ci := 0) (v := .ref (q 21)) (C := RX0) (T := TX0) (N := 4) hx hb hts iX0 hown hK hP 20 wC_at20 rfl 2 (by decide) (hts _ m_467) (fun _ h9 => h9) rfl dX0_begin_22 ?_
        refine lv_iload_n hx hb dX0_begin_25 rfl (lv_at hl 3 rfl) ?_
        refine lv_iload_n hx hb dX0_begin_26 rfl (lv_at hl 3 rfl) ?_
        refine lv_iload_n hx hb dX0_begin_27 rfl (lv_at hl 1 rfl) ?_
        refine lv_iconst (v := 4) hx hb dX0_begin_28 (by decide) ?_
        refine lv_imul hx hb dX0_begin_29 ?_
        refine lv_iload_n hx hb dX0_begin_30 rfl (lv_at hl 2 rfl) ?_
        refine lv_iadd hx hb dX0_begin_31 ?_
        refine lv_icmp_ne (tgt := 39) hx hb dX0_begin_32 (by decide) (fun c_2 => ?_) (fun c_2 => ?_)
        · have hF := ob_neg c_2 hF
          refine lv_lconst (v := 0) hx hb dX0_begin_39 (by decide) ?_
          exact hJ_40 h x1 x2 x3 0 x3 hF H _ ls hP hD hS (lv_sub hl [0, 1, 2, 3] rfl)
        · have hF := ob_pos c_2 hF
          refine lv_lconst (v := 1) hx hb dX0_begin_35 (by decide) ?_
          refine lv_goto (tgt := 40) hx hb dX0_begin_36 (by decide) ?_
          exact hJ_40 h x1 x2 x3 1 x3 hF H _ ls hP hD hS (lv_sub hl [0, 1, 2, 3] rfl)
  unfold f_X0_begin at hF
  refine lv_aload_n hx hb dX0_begin_0 rfl (lv_at hl 0 rfl) ?_
  refine lv_iconst (v := 0) hx hb dX0_begin_1 (by decide) ?_
  refine va_put (D := G) (ci := 0) (v := .int 0) (ty := .int) (C := RX0) (T := TX0) (N := 4) hx hb hts iX0 tyX0 tyX0_ok nmX0 hown hK hP hD hS 20 wC_at20 rfl 0 (by decide) (hts _ m_465) (fun _ h9 => h9) rfl (tyX0_ok 0 (by decide)) rfl rfl (Nat.le_of_ble_eq_true rfl) dX0_begin_2 (fun H locs hP hD hS => ?_)
  rw [wC_sI20_0] at hP hD
  refine lv_aload_n hx hb dX0_begin_5 rfl (lv_at hl 0 rfl) ?_
  refine lv_lconst (v := 1) hx hb dX0_begin_6 (by decide) ?_
  refine va_put (D := G) (ci := 0) (v := .long 1) (ty := .long) (C := RX0) (T := TX0) (N := 4) hx hb hts iX0 tyX0 tyX0_ok nmX0 hown hK hP hD hS 20 wC_at20 rfl 1 (by decide) (hts _ m_466) (fun _ h9 => h9) rfl (tyX0_ok 1 (by decide)) rfl rfl (Nat.le_of_ble_eq_true rfl) dX0_begin_7 (fun H locs hP hD hS => ?_)
  rw [wC_sI20_1] at hP hD
  refine lv_iconst (v := 0) hx hb dX0_begin_10 (by decide) ?_
  refine lv_istore_n (lv' := [(3, .int 0), (0, .ref (q 20)), (1, .int p1), (2, .int p2)]) hx hb dX0_begin_11 rfl hl (by decide) rfl (fun ls hl => ?_)
  exact hJ_12 8589934592 (sL (sI h 7 0 0) 7 1 1) p1 p2 0 hF H _ ls hP hD hS (lv_sub hl [1, 2, 3, 0] rfl)
def f_X0_upper_90 (k5 : HS → Int32 → Int64 → Int32 → Option (Int64 × HS)) (h : HS) (x1 : Int32) (x2 : Int64) (x4 : Int32) : Option (Int64 × HS) := (k5 h x1 x2 (x4 + 1))
def f_X0_upper_80 (k5 : HS → Int32 → Int64 → Int32 → Option (Int64 × HS)) (h : HS) (x1 : Int32) (x2 : Int64) (x4 : Int32) : Option (Int64 × HS) := (if 0 ≤ (x4).toInt ∧ (x4).toInt < 16 then (f_X0_upper_90 k5 h x1 (x2 + ((eJ h 7 2) ((x4).toNatClampNeg))) x4) else none)
def f_X0_upper_43 (k5 : HS → Int32 → Int64 → Int32 → Option (Int64 × HS)) (h : HS) (x1 : Int32) (x2 : Int64) (x4 : Int32) (x5 : Int32) (y0 : Int32) : Option (Int64 × HS) := (if x1 = 0 then (if x5 = 0 then (f_X0_upper_90 k5 h x1 x2 x4) else (f_X0_upper_80 k5 h x1 x2 x4)) else (if x1 = 1 then (if y0 = 0 then (f_X0_upper_90 k5 h x1 x2 x4) else (f_X0_upper_80 k5 h x1 x2 x4)) else (if x5 = 0 then (f_X0_upper_90 k5 h x1 x2 x4) else (if y0 = 0 then (f_X0_upper_80 k5 h x1 x2 x4) else (f_X0_upper_90 k5 h x1 x2 x4)))))
def f_X0_upper_28 (k5 : HS → Int32 → Int64 → Int32 → Option (Int64 × HS)) (h : HS) (x1 : Int32) (x2 : Int64) (x4 : Int32) (y0 : Int32) : Option (Int64 × HS) := (if (x4 - x4 / 4 * 4) = 3 then (f_X0_upper_43 k5 h x1 x2 x4 y0 1) else (f_X0_upper_43 k5 h x1 x2 x4 y0 0))
def f_X0_upper_5 : Nat → HS → Int32 → Int64 → Int32 → Option (Int64 × HS)
  | 0, _, _, _, _ => none
  | n + 1, h, x1, x2, x4 => (if 16 ≤ x4 then (some (x2, h)) else (if (x4 / 4) = 3 then (f_X0_upper_28 (f_X0_upper_5 n) h x1 x2 x4 1) else (f_X0_upper_28 (f_X0_upper_5 n) h x1 x2 x4 0)))
theorem f_X0_upper_5_s (n : Nat) (h : HS) (x1 : Int32) (x2 : Int64) (x4 : Int32) : f_X0_upper_5 (n + 1) h x1 x2 x4 = (if 16 ≤ x4 then (some (x2, h)) else (if (x4 / 4) = 3 then (f_X0_upper_28 (f_X0_upper_5 n) h x1 x2 x4 1) else (f_X0_upper_28 (f_X0_upper_5 n) h x1 x2 x4 0))) := rfl
def f_X0_upper (h : HS) (p1 : Int32) : Option (Int64 × HS) := (f_X0_upper_5 8589934592 h p1 0 0)
set_option maxHeartbeats 4000000 in
set_option maxRecDepth 100000 in
theorem c_X0_upper (l : Launch) (G : va_G) (cI cJ cZ cB cT : ClassId) (q : Nat → Nat) (h : HS) (p1 : Int32) (rr : Int64) (hh : HS) (hF : f_X0_upper h p1 = some (rr, hh)) : gMl l yX0_upper (gws yX0_upper cX0_upper 7 (some .long)) 1 G (gT cI cJ cZ cB cT) [.ref (q 20), .int p1] (wC q cI cJ cZ cB cT h) (fun x (_ : Unit) => x = rr) (fun (_ : Unit) => (wC q cI cJ cZ cB cT hh)) := by
  intro sz
  refine gM_start (y := yX0_upper) (av := [.ref (q 20), .int p1]) (ws := (wC q cI cJ cZ cB cT h)) (Qf := fun A => va_Ql (fun x (_ : Unit) => x = rr) (gB G (fun (_ : Unit) => (wC q cI cJ cZ cB cT hh)) A) A) (cc := cX0_upper) (maxL := 7) (ret := (some .long)) (by decide) (Nat.le_of_ble_eq_true rfl) ?_
  intro p e s m args below meth c A ls H hx hb hr hts hown hin hlocks hml hP hK hD hA hS hl hE
  have hl : lv_has ls 7 [(0, .ref (q 20)), (1, .int p1)] := hl
  have hJ_5 : ∀ (n_5 : Nat) (h : HS) (x1 : Int32) (x2 : Int64) (x4 : Int32), f_X0_upper_5 n_5 h x1 x2 x4 = some (rr, hh) → ∀ (H : Heap) (locs : List Loc) (ls : Array Slot), va_P G vwCl (wC q cI cJ cZ cB cT h) H → va_D A (wC q cI cJ cZ cB cT h) → va_S A s.heap H locs → lv_has ls 7 [(0, .ref (q 20)), (1, .int x1), (2, .long x2), (4, .int x4)] → W p l e (gRm 1) s m args below meth c H locs 0 0 (MQ below (va_Ql (fun x (_ : Unit) => x = rr) (gB G (fun (_ : Unit) => (wC q cI cJ cZ cB cT hh)) A) A) args s 0 0 A) (F0 m 5 ls []) := by
    intro n_5
    induction n_5 with
    | zero =>
      intro h x1 x2 x4 hF
      exact absurd hF (by simp [f_X0_upper_5])
    | succ n_5 ih_5 =>
      have hJ_90 : ∀ (h : HS) (x1 : Int32) (x2 : Int64) (x4 : Int32), f_X0_upper_90 (f_X0_upper_5 n_5) h x1 x2 x4 = some (rr, hh) → ∀ (H : Heap) (locs : List Loc) (ls : Array Slot), va_P G vwCl (wC q cI cJ cZ cB cT h) H → va_D A (wC q cI cJ cZ cB cT h) → va_S A s.heap H locs → lv_has ls 7 [(0, .ref (q 20)), (1, .int x1), (2, .long x2), (4, .int x4)] → W p l e (gRm 1) s m args below meth c H locs 0 0 (MQ below (va_Ql (fun x (_ : Unit) => x = rr) (gB G (fun (_ : Unit) => (wC q cI cJ cZ cB cT hh)) A) A) args s 0 0 A) (F0 m 90 ls []) := by
        intro h x1 x2 x4 hF H locs ls hP hD hS hl
        unfold f_X0_upper_90 at hF
        refine lv_iinc (v := (x4 + 1)) (lv' := [(4, .int (x4 + 1)), (0, .ref (q 20)), (1, .int x1), (2, .long x2)]) hx hb dX0_upper_90 hl (k := 3) rfl rfl (by decide) rfl (fun ls hl => ?_)
        refine lv_goto (tgt := 5) hx hb dX0_upper_93 (by decide) ?_
        exact ih_5 h x1 x2 (x4 + 1) hF H _ ls hP hD hS (lv_sub hl [1, 2, 3, 0] rfl)
      have hJ_80 : ∀ (h : HS) (x1 : Int32) (x2 : Int64) (x4 : Int32), f_X0_upper_80 (f_X0_upper_5 n_5) h x1 x2 x4 = some (rr, hh) → ∀ (H : Heap) (locs : List Loc) (ls : Array Slot), va_P G vwCl (wC q cI cJ cZ cB cT h) H → va_D A (wC q cI cJ cZ cB cT h) → va_S A s.heap H locs → lv_has ls 7 [(0, .ref (q 20)), (1, .int x1), (2, .long x2), (4, .int x4)] → W p l e (gRm 1) s m args below meth c H locs 0 0 (MQ below (va_Ql (fun x (_ : Unit) => x = rr) (gB G (fun (_ : Unit) => (wC q cI cJ cZ cB cT hh)) A) A) args s 0 0 A) (F0 m 80 ls []) := by
        intro h x1 x2 x4 hF H locs ls hP hD hS hl
        unfold f_X0_upper_80 at hF
        refine lv_lload_n hx hb dX0_upper_80 rfl (lv_at hl 2 rfl) ?_
        refine lv_aload_n hx hb dX0_upper_81 rfl (lv_at hl 0 rfl) ?_
        refine va_get (D := G) (ci := 0) (v := .ref (q 21)) (C := RX0) (T := TX0) (N := 4) hx hb hts iX0 hown hK hP 20 wC_at20 rfl 2 (by decide) (hts _ m_467) (fun _ h9 => h9) rfl dX0_upper_82 ?_
        refine lv_iload hx hb dX0_upper_85 (lv_at hl 3 rfl) ?_
        obtain ⟨hi_10, hF⟩ := ob_if hF
        refine va_lald (D := G) hx hb hK hP 21 1 wC_at21 rfl (vp_in_iff.mpr hi_10) dX0_upper_87 ?_
        refine gw_topl (y := ((eJ h 7 2) ((x4).toNatClampNeg))) rfl ?_
        refine lv_ladd hx hb dX0_upper_88 ?_
        refine lv_lstore_n (lv' := [(2, .long (x2 + ((eJ h 7 2) ((x4).toNatClampNeg)))), (0, .ref (q 20)), (1, .int x1), (4, .int x4)]) hx hb dX0_upper_89 rfl hl (by decide) rfl (fun ls hl => ?_)
        exact hJ_90 h x1 (x2 + ((eJ h 7 2) ((x4).toNatClampNeg))) x4 hF H _ ls hP hD hS (lv_sub hl [1, 2, 0, 3] rfl)
      have hJ_43 : ∀ (h : HS) (x1 : Int32) (x2 : Int64) (x4 : Int32) (x5 : Int32) (y0 : Int32), f_X0_upper_43 (f_X0_upper_5 n_5) h x1 x2 x4 x5 y0 = some (rr, hh) → ∀ (H : Heap) (locs : List Loc) (ls : Array Slot), va_P G vwCl (wC q cI cJ cZ cB cT h) H → va_D A (wC q cI cJ cZ cB cT h) → va_S A s.heap H locs → lv_has ls 7 [(0, .ref (q 20)), (1, .int x1), (2, .long x2), (4, .int x4), (5, .int x5)] → W p l e (gRm 1) s m args below meth c H locs 0 0 (MQ below (va_Ql (fun x (_ : Unit) => x = rr) (gB G (fun (_ : Unit) => (wC q cI cJ cZ cB cT hh)) A) A) args s 0 0 A) (F0 m 43 ls [.int y0]) := by
        intro h x1 x2 x4 x5 y0 hF H locs ls hP hD hS hl
        unfold f_X0_upper_43 at hF
        refine lv_istore (lv' := [(6, .int y0), (0, .ref (q 20)), (1, .int x1), (2, .long x2), (4, .int x4), (5, .int x5)]) hx hb dX0_upper_43 hl (by decide) rfl (fun ls hl => ?_)
        refine lv_iload_n hx hb dX0_upper_45 rfl (lv_at hl 2 rfl) ?_
        refine lv_if_ne (tgt := 57) hx hb dX0_upper_46 (by decide) (fun c_4 => ?_) (fun c_4 => ?_)
        · have hF := ob_neg c_4 hF
          refine lv_iload_n hx hb dX0_upper_57 rfl (lv_at hl 2 rfl) ?_
          refine lv_iconst (v := 1) hx hb dX0_upper_58 (by decide) ?_
          refine lv_icmp_ne (tgt := 70) hx hb dX0_upper_59 (by decide) (fun c_5 => ?_) (fun c_5 => ?_)
          · have hF := ob_neg c_5 hF
            refine lv_iload hx hb dX0_upper_70 (lv_at hl 5 rfl) ?_
            refine lv_if_eq (tgt := 90) hx hb dX0_upper_72 (by decide) (fun c_6 => ?_) (fun c_6 => ?_)
            · have hF := ob_pos c_6 hF
              exact hJ_90 h x1 x2 x4 hF H _ ls hP hD hS (lv_sub hl [1, 2, 3, 4] rfl)
            · have hF := ob_neg c_6 hF
              refine lv_iload hx hb dX0_upper_75 (lv_at hl 0 rfl) ?_
              refine lv_if_ne (tgt := 90) hx hb dX0_upper_77 (by decide) (fun c_7 => ?_) (fun c_7 => ?_)
              · have hF := ob_neg c_7 hF
                exact hJ_90 h x1 x2 x4 hF H _ ls hP hD hS (lv_sub hl [1, 2, 3, 4] rfl)
              · have hF := ob_pos c_7 hF
                exact hJ_80 h x1 x2 x4 hF H _ ls hP hD hS (lv_sub hl [1, 2, 3, 4] rfl)
          · have hF := ob_pos c_5 hF
            refine lv_iload hx hb dX0_upper_62 (lv_at hl 0 rfl) ?_
            refine lv_if_eq (tgt := 90) hx hb dX0_upper_64 (by decide) (fun c_8 => ?_) (fun c_8 => ?_)
            · have hF := ob_pos c_8 hF
              exact hJ_90 h x1 x2 x4 hF H _ ls hP hD hS (lv_sub hl [1, 2, 3, 4] rfl)
            · have hF := ob_neg c_8 hF
              refine lv_goto (tgt := 80) hx hb dX0_upper_67 (by decide) ?_
              exact hJ_80 h x1 x2 x4 hF H _ ls hP hD hS (lv_sub hl [1, 2, 3, 4] rfl)
        · have hF := ob_pos c_4 hF
          refine lv_iload hx hb dX0_upper_49 (lv_at hl 5 rfl) ?_
          refine lv_if_eq (tgt := 90) hx hb dX0_upper_51 (by decide) (fun c_9 => ?_) (fun c_9 => ?_)
          · have hF := ob_pos c_9 hF
            exact hJ_90 h x1 x2 x4 hF H _ ls hP hD hS (lv_sub hl [1, 2, 3, 4] rfl)
          · have hF := ob_neg c_9 hF
            refine lv_goto (tgt := 80) hx hb dX0_upper_54 (by decide) ?_
            exact hJ_80 h x1 x2 x4 hF H _ ls hP hD hS (lv_sub hl [1, 2, 3, 4] rfl)
      have hJ_28 : ∀ (h : HS) (x1 : Int32) (x2 : Int64) (x4 : Int32) (y0 : Int32), f_X0_upper_28 (f_X0_upper_5 n_5) h x1 x2 x4 y0 = some (rr, hh) → ∀ (H : Heap) (locs : List Loc) (ls : Array Slot), va_P G vwCl (wC q cI cJ cZ cB cT h) H → va_D A (wC q cI cJ cZ cB cT h) → va_S A s.heap H locs → lv_has ls 7 [(0, .ref (q 20)), (1, .int x1), (2, .long x2), (4, .int x4)] → W p l e (gRm 1) s m args below meth c H locs 0 0 (MQ below (va_Ql (fun x (_ : Unit) => x = rr) (gB G (fun (_ : Unit) => (wC q cI cJ cZ cB cT hh)) A) A) args s 0 0 A) (F0 m 28 ls [.int y0]) := by
        intro h x1 x2 x4 y0 hF H locs ls hP hD hS hl
        unfold f_X0_upper_28 at hF
        refine lv_istore (lv' := [(5, .int y0), (0, .ref (q 20)), (1, .int x1), (2, .long x2), (4, .int x4)]) hx hb dX0_upper_28 hl (by decide) rfl (fun ls hl => ?_)
        refine lv_iload hx hb dX0_upper_30 (lv_at hl 4 rfl) ?_
        refine lv_iconst (v := 4) hx hb dX0_upper_32 (by decide) ?_
        refine lv_irem hx hb dX0_upper_33 (by decide) ?_
        refine lv_iconst (v := 3) hx hb dX0_upper_34 (by decide) ?_
        refine lv_icmp_ne (tgt := 42) hx hb dX0_upper_35 (by decide) (fun c_3 => ?_) (fun c_3 => ?_)
        · have hF := ob_neg c_3 hF
          refine lv_iconst (v := 0) hx hb dX0_upper_42 (by decide) ?_
          exact hJ_43 h x1 x2 x4 y0 0 hF H _ ls hP hD hS (lv_sub hl [1, 2, 3, 4, 0] rfl)
        · have hF := ob_pos c_3 hF
          refine lv_iconst (v := 1) hx hb dX0_upper_38 (by decide) ?_
          refine lv_goto (tgt := 43) hx hb dX0_upper_39 (by decide) ?_
          exact hJ_43 h x1 x2 x4 y0 1 hF H _ ls hP hD hS (lv_sub hl [1, 2, 3, 4, 0] rfl)
      intro h x1 x2 x4 hF H locs ls hP hD hS hl
      rw [f_X0_upper_5_s] at hF
      refine lv_iload hx hb dX0_upper_5 (lv_at hl 3 rfl) ?_
      refine lv_aload_n hx hb dX0_upper_7 rfl (lv_at hl 0 rfl) ?_
      refine va_get (D := G) (ci := 0) (v := .ref (q 21)) (C := RX0) (T := TX0) (N := 4) hx hb hts iX0 hown hK hP 20 wC_at20 rfl 2 (by decide) (hts _ m_467) (fun _ h9 => h9) rfl dX0_upper_8 ?_
      refine va_alen (D := G) hx hb hK hP 21 1 wC_at21 rfl (v := 16) rfl dX0_upper_11 ?_
      refine lv_icmp_ge (tgt := 96) hx hb dX0_upper_12 (by decide) (fun c_1 => ?_) (fun c_1 => ?_)
      · have hF := ob_pos c_1 hF
        refine lv_lload_n hx hb dX0_upper_96 rfl (lv_at hl 2 rfl) ?_
        obtain ⟨rfl, rfl⟩ := ob_pair hF
        exact gw_lret () hx hb hr hlocks hP hD hS rfl dX0_upper_97
      · have hF := ob_neg c_1 hF
        refine lv_iload hx hb dX0_upper_15 (lv_at hl 3 rfl) ?_
        refine lv_iconst (v := 4) hx hb dX0_upper_17 (by decide) ?_
        refine lv_idiv hx hb dX0_upper_18 (by decide) ?_
        refine lv_iconst (v := 3) hx hb dX0_upper_19 (by decide) ?_
        refine lv_icmp_ne (tgt := 27) hx hb dX0_upper_20 (by decide) (fun c_2 => ?_) (fun c_2 => ?_)
        · have hF := ob_neg c_2 hF
          refine lv_iconst (v := 0) hx hb dX0_upper_27 (by decide) ?_
          exact hJ_28 h x1 x2 x4 0 hF H _ ls hP hD hS (lv_sub hl [0, 1, 2, 3] rfl)
        · have hF := ob_pos c_2 hF
          refine lv_iconst (v := 1) hx hb dX0_upper_23 (by decide) ?_
          refine lv_goto (tgt := 28) hx hb dX0_upper_24 (by decide) ?_
          exact hJ_28 h x1 x2 x4 1 hF H _ ls hP hD hS (lv_sub hl [0, 1, 2, 3] rfl)
  unfold f_X0_upper at hF
  refine lv_lconst (v := 0) hx hb dX0_upper_0 (by decide) ?_
  refine lv_lstore_n (lv' := [(2, .long 0), (0, .ref (q 20)), (1, .int p1)]) hx hb dX0_upper_1 rfl hl (by decide) rfl (fun ls hl => ?_)
  refine lv_iconst (v := 0) hx hb dX0_upper_2 (by decide) ?_
  refine lv_istore (lv' := [(4, .int 0), (2, .long 0), (0, .ref (q 20)), (1, .int p1)]) hx hb dX0_upper_3 hl (by decide) rfl (fun ls hl => ?_)
  exact hJ_5 8589934592 h p1 0 0 hF H _ ls hP hD hS (lv_sub hl [2, 3, 1, 0] rfl)
def f_X3_isEnough_29 (h : HS) (y0 : Int32) : Option (Int32 × HS) := (if y0 = 0 ∨ y0 = 1 then (some (y0, h)) else none)
def f_X3_isEnough (h : HS) (p1 : Int64) : Option (Int32 × HS) := (if (lg_cmp (((eL h 8 9) - p1) * 100) ((((eI h 8 10)).toInt64) * (eL h 8 9))) < 0 then (f_X3_isEnough_29 h 0) else (f_X3_isEnough_29 h 1))
set_option maxHeartbeats 4000000 in
set_option maxRecDepth 100000 in
theorem c_X3_isEnough (l : Launch) (G : va_G) (cI cJ cZ cB cT : ClassId) (q : Nat → Nat) (h : HS) (p1 : Int64) (rr : Int32) (hh : HS) (hF : f_X3_isEnough h p1 = some (rr, hh)) : gMi l yX3_isEnough (gws yX3_isEnough cX3_isEnough 3 (some .boolean)) 1 G (gT cI cJ cZ cB cT) [.ref (q 23), .long p1] (wC q cI cJ cZ cB cT h) (fun x (_ : Unit) => x = rr) (fun (_ : Unit) => (wC q cI cJ cZ cB cT hh)) := by
  intro sz
  refine gM_start (y := yX3_isEnough) (av := [.ref (q 23), .long p1]) (ws := (wC q cI cJ cZ cB cT h)) (Qf := fun A => va_Qi (fun x (_ : Unit) => x = rr) (gB G (fun (_ : Unit) => (wC q cI cJ cZ cB cT hh)) A) A) (cc := cX3_isEnough) (maxL := 3) (ret := (some .boolean)) (by decide) (Nat.le_of_ble_eq_true rfl) ?_
  intro p e s m args below meth c A ls H hx hb hr hts hown hin hlocks hml hP hK hD hA hS hl hE
  have hl : lv_has ls 3 [(0, .ref (q 23)), (1, .long p1)] := hl
  have hJ_29 : ∀ (h : HS) (y0 : Int32), f_X3_isEnough_29 h y0 = some (rr, hh) → ∀ (H : Heap) (locs : List Loc) (ls : Array Slot), va_P G vwCl (wC q cI cJ cZ cB cT h) H → va_D A (wC q cI cJ cZ cB cT h) → va_S A s.heap H locs → lv_has ls 3 [] → W p l e (gRm 1) s m args below meth c H locs 0 0 (MQ below (va_Qi (fun x (_ : Unit) => x = rr) (gB G (fun (_ : Unit) => (wC q cI cJ cZ cB cT hh)) A) A) args s 0 0 A) (F0 m 29 ls [.int y0]) := by
    intro h y0 hF H locs ls hP hD hS hl
    unfold f_X3_isEnough_29 at hF
    obtain ⟨hz_2, hF⟩ := ob_if hF
    obtain ⟨rfl, rfl⟩ := ob_pair hF
    exact gw_zret () hx hb hr hlocks (gz hz_2) hP hD hS rfl dX3_isEnough_29
  unfold f_X3_isEnough at hF
  refine lv_aload_n hx hb dX3_isEnough_0 rfl (lv_at hl 0 rfl) ?_
  refine va_get (D := G) (ci := 3) (v := .long (eL h 8 9)) (C := RX3) (T := TX3) (N := 16) hx hb hts iX3 hown hK hP 23 wC_at23 rfl 9 (by decide) (hts _ m_468) (fun _ h9 => h9) rfl dX3_isEnough_1 ?_
  refine lv_lload_n hx hb dX3_isEnough_4 rfl (lv_at hl 1 rfl) ?_
  refine lv_lsub hx hb dX3_isEnough_5 ?_
  refine lv_ldc2 (v := 100) hx hb hown (hts _ m_469) dX3_isEnough_6 ?_
  refine lv_lmul hx hb dX3_isEnough_9 ?_
  refine lv_aload_n hx hb dX3_isEnough_10 rfl (lv_at hl 0 rfl) ?_
  refine va_get (D := G) (ci := 3) (v := .int (eI h 8 10)) (C := RX3) (T := TX3) (N := 16) hx hb hts iX3 hown hK hP 23 wC_at23 rfl 10 (by decide) (hts _ m_470) (fun _ h9 => h9) rfl dX3_isEnough_11 ?_
  refine lv_i2l (v := ((eI h 8 10)).toInt64) hx hb dX3_isEnough_14 rfl ?_
  refine lv_aload_n hx hb dX3_isEnough_15 rfl (lv_at hl 0 rfl) ?_
  refine va_get (D := G) (ci := 3) (v := .long (eL h 8 9)) (C := RX3) (T := TX3) (N := 16) hx hb hts iX3 hown hK hP 23 wC_at23 rfl 9 (by decide) (hts _ m_468) (fun _ h9 => h9) rfl dX3_isEnough_16 ?_
  refine lv_lmul hx hb dX3_isEnough_19 ?_
  refine W.lcmp hx hb dX3_isEnough_20 ?_
  refine lv_if_lt (tgt := 28) hx hb dX3_isEnough_21 (by decide) (fun c_1 => ?_) (fun c_1 => ?_)
  · have hF := ob_pos c_1 hF
    refine lv_iconst (v := 0) hx hb dX3_isEnough_28 (by decide) ?_
    exact hJ_29 h 0 hF H _ ls hP hD hS (lv_sub hl [] rfl)
  · have hF := ob_neg c_1 hF
    refine lv_iconst (v := 1) hx hb dX3_isEnough_24 (by decide) ?_
    refine lv_goto (tgt := 29) hx hb dX3_isEnough_25 (by decide) ?_
    exact hJ_29 h 1 hF H _ ls hP hD hS (lv_sub hl [] rfl)
def f_X3_isBetter_21 (h : HS) (y0 : Int32) : Option (Int32 × HS) := (if y0 = 0 ∨ y0 = 1 then (some (y0, h)) else none)
def f_X3_isBetter_16 (h : HS) : Option (Int32 × HS) := (f_X3_isBetter_21 h 1)
def f_X3_isBetter (h : HS) (p1 : Int64) : Option (Int32 × HS) := (if (eI h 8 12) = 0 then (f_X3_isBetter_16 h) else (if (lg_cmp p1 (eL h 8 14)) ≤ 0 then (f_X3_isBetter_21 h 0) else (f_X3_isBetter_16 h)))
set_option maxHeartbeats 4000000 in
set_option maxRecDepth 100000 in
theorem c_X3_isBetter (l : Launch) (G : va_G) (cI cJ cZ cB cT : ClassId) (q : Nat → Nat) (h : HS) (p1 : Int64) (rr : Int32) (hh : HS) (hF : f_X3_isBetter h p1 = some (rr, hh)) : gMi l yX3_isBetter (gws yX3_isBetter cX3_isBetter 3 (some .boolean)) 1 G (gT cI cJ cZ cB cT) [.ref (q 23), .long p1] (wC q cI cJ cZ cB cT h) (fun x (_ : Unit) => x = rr) (fun (_ : Unit) => (wC q cI cJ cZ cB cT hh)) := by
  intro sz
  refine gM_start (y := yX3_isBetter) (av := [.ref (q 23), .long p1]) (ws := (wC q cI cJ cZ cB cT h)) (Qf := fun A => va_Qi (fun x (_ : Unit) => x = rr) (gB G (fun (_ : Unit) => (wC q cI cJ cZ cB cT hh)) A) A) (cc := cX3_isBetter) (maxL := 3) (ret := (some .boolean)) (by decide) (Nat.le_of_ble_eq_true rfl) ?_
  intro p e s m args below meth c A ls H hx hb hr hts hown hin hlocks hml hP hK hD hA hS hl hE
  have hl : lv_has ls 3 [(0, .ref (q 23)), (1, .long p1)] := hl
  have hJ_21 : ∀ (h : HS) (y0 : Int32), f_X3_isBetter_21 h y0 = some (rr, hh) → ∀ (H : Heap) (locs : List Loc) (ls : Array Slot), va_P G vwCl (wC q cI cJ cZ cB cT h) H → va_D A (wC q cI cJ cZ cB cT h) → va_S A s.heap H locs → lv_has ls 3 [] → W p l e (gRm 1) s m args below meth c H locs 0 0 (MQ below (va_Qi (fun x (_ : Unit) => x = rr) (gB G (fun (_ : Unit) => (wC q cI cJ cZ cB cT hh)) A) A) args s 0 0 A) (F0 m 21 ls [.int y0]) := by
    intro h y0 hF H locs ls hP hD hS hl
    unfold f_X3_isBetter_21 at hF
    obtain ⟨hz_3, hF⟩ := ob_if hF
    obtain ⟨rfl, rfl⟩ := ob_pair hF
    exact gw_zret () hx hb hr hlocks (gz hz_3) hP hD hS rfl dX3_isBetter_21
  have hJ_16 : ∀ (h : HS), f_X3_isBetter_16 h = some (rr, hh) → ∀ (H : Heap) (locs : List Loc) (ls : Array Slot), va_P G vwCl (wC q cI cJ cZ cB cT h) H → va_D A (wC q cI cJ cZ cB cT h) → va_S A s.heap H locs → lv_has ls 3 [] → W p l e (gRm 1) s m args below meth c H locs 0 0 (MQ below (va_Qi (fun x (_ : Unit) => x = rr) (gB G (fun (_ : Unit) => (wC q cI cJ cZ cB cT hh)) A) A) args s 0 0 A) (F0 m 16 ls []) := by
    intro h hF H locs ls hP hD hS hl
    unfold f_X3_isBetter_16 at hF
    refine lv_iconst (v := 1) hx hb dX3_isBetter_16 (by decide) ?_
    refine lv_goto (tgt := 21) hx hb dX3_isBetter_17 (by decide) ?_
    exact hJ_21 h 1 hF H _ ls hP hD hS (lv_sub hl [] rfl)
  unfold f_X3_isBetter at hF
  refine lv_aload_n hx hb dX3_isBetter_0 rfl (lv_at hl 0 rfl) ?_
  refine va_get (D := G) (ci := 3) (v := .int (eI h 8 12)) (C := RX3) (T := TX3) (N := 16) hx hb hts iX3 hown hK hP 23 wC_at23 rfl 12 (by decide) (hts _ m_471) (fun _ h9 => h9) rfl dX3_isBetter_1 ?_
  refine lv_if_eq (tgt := 16) hx hb dX3_isBetter_4 (by decide) (fun c_1 => ?_) (fun c_1 => ?_)
  · have hF := ob_pos c_1 hF
    exact hJ_16 h hF H _ ls hP hD hS (lv_sub hl [] rfl)
  · have hF := ob_neg c_1 hF
    refine lv_lload_n hx hb dX3_isBetter_7 rfl (lv_at hl 1 rfl) ?_
    refine lv_aload_n hx hb dX3_isBetter_8 rfl (lv_at hl 0 rfl) ?_
    refine va_get (D := G) (ci := 3) (v := .long (eL h 8 14)) (C := RX3) (T := TX3) (N := 16) hx hb hts iX3 hown hK hP 23 wC_at23 rfl 14 (by decide) (hts _ m_472) (fun _ h9 => h9) rfl dX3_isBetter_9 ?_
    refine W.lcmp hx hb dX3_isBetter_12 ?_
    refine lv_if_le (tgt := 20) hx hb dX3_isBetter_13 (by decide) (fun c_2 => ?_) (fun c_2 => ?_)
    · have hF := ob_pos c_2 hF
      refine lv_iconst (v := 0) hx hb dX3_isBetter_20 (by decide) ?_
      exact hJ_21 h 0 hF H _ ls hP hD hS (lv_sub hl [] rfl)
    · have hF := ob_neg c_2 hF
      exact hJ_16 h hF H _ ls hP hD hS (lv_sub hl [] rfl)
def f_X3_keep_83 (h : HS) : Option HS := (some h)
def f_X3_keep_23 : Nat → HS → Int32 → Option HS
  | 0, _, _ => none
  | n + 1, h, x4 => (if (eI h 8 8) ≤ x4 then (f_X3_keep_83 h) else (if 3 ≤ x4 then (f_X3_keep_83 h) else (if 0 ≤ (x4).toInt ∧ (x4).toInt < 3 then (if 0 ≤ (x4).toInt ∧ (x4).toInt < 3 then (if 0 ≤ (x4).toInt ∧ (x4).toInt < 3 then (if 0 ≤ (x4).toInt ∧ (x4).toInt < 3 then (if 0 ≤ (x4).toInt ∧ (x4).toInt < 3 then ((f_X3_keep_23 n) (sA (sA h 8 6 (upd (eA h 8 6) ((x4).toNatClampNeg) ((eA h 8 3) ((x4).toNatClampNeg)))) 8 7 (upd (eA h 8 7) ((x4).toNatClampNeg) ((((eA h 8 5) ((x4).toNatClampNeg)) * 10) + ((eA h 8 4) ((x4).toNatClampNeg))))) (x4 + 1)) else none) else none) else none) else none) else none)))
theorem f_X3_keep_23_s (n : Nat) (h : HS) (x4 : Int32) : f_X3_keep_23 (n + 1) h x4 = (if (eI h 8 8) ≤ x4 then (f_X3_keep_83 h) else (if 3 ≤ x4 then (f_X3_keep_83 h) else (if 0 ≤ (x4).toInt ∧ (x4).toInt < 3 then (if 0 ≤ (x4).toInt ∧ (x4).toInt < 3 then (if 0 ≤ (x4).toInt ∧ (x4).toInt < 3 then (if 0 ≤ (x4).toInt ∧ (x4).toInt < 3 then (if 0 ≤ (x4).toInt ∧ (x4).toInt < 3 then ((f_X3_keep_23 n) (sA (sA h 8 6 (upd (eA h 8 6) ((x4).toNatClampNeg) ((eA h 8 3) ((x4).toNatClampNeg)))) 8 7 (upd (eA h 8 7) ((x4).toNatClampNeg) ((((eA h 8 5) ((x4).toNatClampNeg)) * 10) + ((eA h 8 4) ((x4).toNatClampNeg))))) (x4 + 1)) else none) else none) else none) else none) else none))) := rfl
def f_X3_keep (h : HS) (p1 : Int64) (p2 : Int32) : Option HS := (f_X3_keep_23 8589934592 (sI (sL (sI (sI h 8 12 1) 8 13 1) 8 14 p1) 8 15 p2) 0)
set_option maxHeartbeats 4000000 in
set_option maxRecDepth 100000 in
theorem c_X3_keep (l : Launch) (G : va_G) (cI cJ cZ cB cT : ClassId) (q : Nat → Nat) (h : HS) (p1 : Int64) (p2 : Int32) (hh : HS) (hF : f_X3_keep h p1 p2 = some hh) : gMv l yX3_keep (gws yX3_keep cX3_keep 5 none) 1 G (gT cI cJ cZ cB cT) [.ref (q 23), .long p1, .int p2] (wC q cI cJ cZ cB cT h) (fun (_ : Unit) => True) (fun (_ : Unit) => (wC q cI cJ cZ cB cT hh)) := by
  intro sz
  refine gM_start (y := yX3_keep) (av := [.ref (q 23), .long p1, .int p2]) (ws := (wC q cI cJ cZ cB cT h)) (Qf := fun A => va_Qv (fun (_ : Unit) => True) (gB G (fun (_ : Unit) => (wC q cI cJ cZ cB cT hh)) A) A) (cc := cX3_keep) (maxL := 5) (ret := none) (by decide) (Nat.le_of_ble_eq_true rfl) ?_
  intro p e s m args below meth c A ls H hx hb hr hts hown hin hlocks hml hP hK hD hA hS hl hE
  have hl : lv_has ls 5 [(0, .ref (q 23)), (1, .long p1), (3, .int p2)] := hl
  have hJ_83 : ∀ (h : HS), f_X3_keep_83 h = some hh → ∀ (H : Heap) (locs : List Loc) (ls : Array Slot), va_P G vwCl (wC q cI cJ cZ cB cT h) H → va_D A (wC q cI cJ cZ cB cT h) → va_S A s.heap H locs → lv_has ls 5 [] → W p l e (gRm 1) s m args below meth c H locs 0 0 (MQ below (va_Qv (fun (_ : Unit) => True) (gB G (fun (_ : Unit) => (wC q cI cJ cZ cB cT hh)) A) A) args s 0 0 A) (F0 m 83 ls []) := by
    intro h hF H locs ls hP hD hS hl
    unfold f_X3_keep_83 at hF
    obtain rfl := ob_one hF
    exact gw_vret () hx hb hr hlocks hP hD hS trivial dX3_keep_83
  have hJ_23 : ∀ (n_23 : Nat) (h : HS) (x4 : Int32), f_X3_keep_23 n_23 h x4 = some hh → ∀ (H : Heap) (locs : List Loc) (ls : Array Slot), va_P G vwCl (wC q cI cJ cZ cB cT h) H → va_D A (wC q cI cJ cZ cB cT h) → va_S A s.heap H locs → lv_has ls 5 [(0, .ref (q 23)), (4, .int x4)] → W p l e (gRm 1) s m args below meth c H locs 0 0 (MQ below (va_Qv (fun (_ : Unit) => True) (gB G (fun (_ : Unit) => (wC q cI cJ cZ cB cT hh)) A) A) args s 0 0 A) (F0 m 23 ls []) := by
    intro n_23
    induction n_23 with
    | zero =>
      intro h x4 hF
      exact absurd hF (by simp [f_X3_keep_23])
    | succ n_23 ih_23 =>
      intro h x4 hF H locs ls hP hD hS hl
      rw [f_X3_keep_23_s] at hF
      refine lv_iload hx hb dX3_keep_23 (lv_at hl 1 rfl) ?_
      refine lv_aload_n hx hb dX3_keep_25 rfl (lv_at hl 0 rfl) ?_
      refine va_get (D := G) (ci := 3) (v := .int (eI h 8 8)) (C := RX3) (T := TX3) (N := 16) hx hb hts iX3 hown hK hP 23 wC_at23 rfl 8 (by decide) (hts _ m_475) (fun _ h9 => h9) rfl dX3_keep_26 ?_
      refine lv_icmp_ge (tgt := 83) hx hb dX3_keep_29 (by decide) (fun c_1 => ?_) (fun c_1 => ?_)
      · have hF := ob_pos c_1 hF
        exact hJ_83 h hF H _ ls hP hD hS (lv_sub hl [] rfl)
      · have hF := ob_neg c_1 hF
        refine lv_iload hx hb dX3_keep_32 (lv_at hl 1 rfl) ?_
        refine lv_iconst (v := 3) hx hb dX3_keep_34 (by decide) ?_
        refine lv_icmp_ge (tgt := 83) hx hb dX3_keep_35 (by decide) (fun c_2 => ?_) (fun c_2 => ?_)
        · have hF := ob_pos c_2 hF
          exact hJ_83 h hF H _ ls hP hD hS (lv_sub hl [] rfl)
        · have hF := ob_neg c_2 hF
          refine lv_aload_n hx hb dX3_keep_38 rfl (lv_at hl 0 rfl) ?_
          refine va_get (D := G) (ci := 3) (v := .ref (q 30)) (C := RX3) (T := TX3) (N := 16) hx hb hts iX3 hown hK hP 23 wC_at23 rfl 6 (by decide) (hts _ m_476) (fun _ h9 => h9) rfl dX3_keep_39 ?_
          refine lv_iload hx hb dX3_keep_42 (lv_at hl 1 rfl) ?_
          refine lv_aload_n hx hb dX3_keep_44 rfl (lv_at hl 0 rfl) ?_
          refine va_get (D := G) (ci := 3) (v := .ref (q 27)) (C := RX3) (T := TX3) (N := 16) hx hb hts iX3 hown hK hP 23 wC_at23 rfl 3 (by decide) (hts _ m_477) (fun _ h9 => h9) rfl dX3_keep_45 ?_
          refine lv_iload hx hb dX3_keep_48 (lv_at hl 1 rfl) ?_
          obtain ⟨hi_3, hF⟩ := ob_if hF
          refine va_iald (D := G) hx hb hK hP 27 0 wC_at27 rfl (vp_in_iff.mpr hi_3) dX3_keep_50 ?_
          refine gw_topi (y := ((eA h 8 3) ((x4).toNatClampNeg))) rfl ?_
          obtain ⟨hi_4, hF⟩ := ob_if hF
          refine va_iast (D := G) hx hb hK hP hD hS 30 0 wC_at30 rfl (vp_in_iff.mpr hi_4) dX3_keep_51 (fun H locs hP hD hS => ?_)
          rw [wC_sA30] at hP hD
          have hP : va_P G vwCl (wC q cI cJ cZ cB cT (sA h 8 6 (upd (eA h 8 6) ((x4).toNatClampNeg) ((eA h 8 3) ((x4).toNatClampNeg))))) H := hP
          have hD : va_D A (wC q cI cJ cZ cB cT (sA h 8 6 (upd (eA h 8 6) ((x4).toNatClampNeg) ((eA h 8 3) ((x4).toNatClampNeg))))) := hD
          refine lv_aload_n hx hb dX3_keep_52 rfl (lv_at hl 0 rfl) ?_
          refine va_get (D := G) (ci := 3) (v := .ref (q 31)) (C := RX3) (T := TX3) (N := 16) hx hb hts iX3 hown hK hP 23 wC_at23 rfl 7 (by decide) (hts _ m_478) (fun _ h9 => h9) rfl dX3_keep_53 ?_
          refine lv_iload hx hb dX3_keep_56 (lv_at hl 1 rfl) ?_
          refine lv_aload_n hx hb dX3_keep_58 rfl (lv_at hl 0 rfl) ?_
          refine va_get (D := G) (ci := 3) (v := .ref (q 29)) (C := RX3) (T := TX3) (N := 16) hx hb hts iX3 hown hK hP 23 wC_at23 rfl 5 (by decide) (hts _ m_479) (fun _ h9 => h9) rfl dX3_keep_59 ?_
          refine lv_iload hx hb dX3_keep_62 (lv_at hl 1 rfl) ?_
          obtain ⟨hi_5, hF⟩ := ob_if hF
          refine va_iald (D := G) hx hb hK hP 29 0 wC_at29 rfl (vp_in_iff.mpr hi_5) dX3_keep_64 ?_
          refine gw_topi (y := ((eA h 8 5) ((x4).toNatClampNeg))) rfl ?_
          refine lv_bipush (v := 10) hx hb dX3_keep_65 (by decide) ?_
          refine lv_imul hx hb dX3_keep_67 ?_
          refine lv_aload_n hx hb dX3_keep_68 rfl (lv_at hl 0 rfl) ?_
          refine va_get (D := G) (ci := 3) (v := .ref (q 28)) (C := RX3) (T := TX3) (N := 16) hx hb hts iX3 hown hK hP 23 wC_at23 rfl 4 (by decide) (hts _ m_480) (fun _ h9 => h9) rfl dX3_keep_69 ?_
          refine lv_iload hx hb dX3_keep_72 (lv_at hl 1 rfl) ?_
          obtain ⟨hi_6, hF⟩ := ob_if hF
          refine va_iald (D := G) hx hb hK hP 28 0 wC_at28 rfl (vp_in_iff.mpr hi_6) dX3_keep_74 ?_
          refine gw_topi (y := ((eA h 8 4) ((x4).toNatClampNeg))) rfl ?_
          refine lv_iadd hx hb dX3_keep_75 ?_
          obtain ⟨hi_7, hF⟩ := ob_if hF
          refine va_iast (D := G) hx hb hK hP hD hS 31 0 wC_at31 rfl (vp_in_iff.mpr hi_7) dX3_keep_76 (fun H locs hP hD hS => ?_)
          rw [wC_sA31] at hP hD
          have hP : va_P G vwCl (wC q cI cJ cZ cB cT (sA (sA h 8 6 (upd (eA h 8 6) ((x4).toNatClampNeg) ((eA h 8 3) ((x4).toNatClampNeg)))) 8 7 (upd (eA h 8 7) ((x4).toNatClampNeg) ((((eA h 8 5) ((x4).toNatClampNeg)) * 10) + ((eA h 8 4) ((x4).toNatClampNeg)))))) H := hP
          have hD : va_D A (wC q cI cJ cZ cB cT (sA (sA h 8 6 (upd (eA h 8 6) ((x4).toNatClampNeg) ((eA h 8 3) ((x4).toNatClampNeg)))) 8 7 (upd (eA h 8 7) ((x4).toNatClampNeg) ((((eA h 8 5) ((x4).toNatClampNeg)) * 10) + ((eA h 8 4) ((x4).toNatClampNeg)))))) := hD
          refine lv_iinc (v := (x4 + 1)) (lv' := [(4, .int (x4 + 1)), (0, .ref (q 23))]) hx hb dX3_keep_77 hl (k := 1) rfl rfl (by decide) rfl (fun ls hl => ?_)
          refine lv_goto (tgt := 23) hx hb dX3_keep_80 (by decide) ?_
          exact ih_23 (sA (sA h 8 6 (upd (eA h 8 6) ((x4).toNatClampNeg) ((eA h 8 3) ((x4).toNatClampNeg)))) 8 7 (upd (eA h 8 7) ((x4).toNatClampNeg) ((((eA h 8 5) ((x4).toNatClampNeg)) * 10) + ((eA h 8 4) ((x4).toNatClampNeg))))) (x4 + 1) hF H _ ls hP hD hS (lv_sub hl [1, 0] rfl)
  unfold f_X3_keep at hF
  refine lv_aload_n hx hb dX3_keep_0 rfl (lv_at hl 0 rfl) ?_
  refine lv_iconst (v := 1) hx hb dX3_keep_1 (by decide) ?_
  refine va_put (D := G) (ci := 3) (v := .int 1) (ty := .boolean) (C := RX3) (T := TX3) (N := 16) hx hb hts iX3 tyX3 tyX3_ok nmX3 hown hK hP hD hS 23 wC_at23 rfl 12 (by decide) (hts _ m_471) (fun _ h9 => h9) rfl (tyX3_ok 12 (by decide)) rfl rfl (Nat.le_of_ble_eq_true rfl) dX3_keep_2 (fun H locs hP hD hS => ?_)
  rw [wC_sI23_12] at hP hD
  refine lv_aload_n hx hb dX3_keep_5 rfl (lv_at hl 0 rfl) ?_
  refine lv_iconst (v := 1) hx hb dX3_keep_6 (by decide) ?_
  refine va_put (D := G) (ci := 3) (v := .int 1) (ty := .boolean) (C := RX3) (T := TX3) (N := 16) hx hb hts iX3 tyX3 tyX3_ok nmX3 hown hK hP hD hS 23 wC_at23 rfl 13 (by decide) (hts _ m_473) (fun _ h9 => h9) rfl (tyX3_ok 13 (by decide)) rfl rfl (Nat.le_of_ble_eq_true rfl) dX3_keep_7 (fun H locs hP hD hS => ?_)
  rw [wC_sI23_13] at hP hD
  refine lv_aload_n hx hb dX3_keep_10 rfl (lv_at hl 0 rfl) ?_
  refine lv_lload_n hx hb dX3_keep_11 rfl (lv_at hl 1 rfl) ?_
  refine va_put (D := G) (ci := 3) (v := .long p1) (ty := .long) (C := RX3) (T := TX3) (N := 16) hx hb hts iX3 tyX3 tyX3_ok nmX3 hown hK hP hD hS 23 wC_at23 rfl 14 (by decide) (hts _ m_472) (fun _ h9 => h9) rfl (tyX3_ok 14 (by decide)) rfl rfl (Nat.le_of_ble_eq_true rfl) dX3_keep_12 (fun H locs hP hD hS => ?_)
  rw [wC_sI23_14] at hP hD
  refine lv_aload_n hx hb dX3_keep_15 rfl (lv_at hl 0 rfl) ?_
  refine lv_iload_n hx hb dX3_keep_16 rfl (lv_at hl 2 rfl) ?_
  refine va_put (D := G) (ci := 3) (v := .int p2) (ty := .int) (C := RX3) (T := TX3) (N := 16) hx hb hts iX3 tyX3 tyX3_ok nmX3 hown hK hP hD hS 23 wC_at23 rfl 15 (by decide) (hts _ m_474) (fun _ h9 => h9) rfl (tyX3_ok 15 (by decide)) rfl rfl (Nat.le_of_ble_eq_true rfl) dX3_keep_17 (fun H locs hP hD hS => ?_)
  rw [wC_sI23_15] at hP hD
  refine lv_iconst (v := 0) hx hb dX3_keep_20 (by decide) ?_
  refine lv_istore (lv' := [(4, .int 0), (0, .ref (q 23)), (1, .long p1), (3, .int p2)]) hx hb dX3_keep_21 hl (by decide) rfl (fun ls hl => ?_)
  exact hJ_23 8589934592 (sI (sL (sI (sI h 8 12 1) 8 13 1) 8 14 p1) 8 15 p2) 0 hF H _ ls hP hD hS (lv_sub hl [1, 0] rfl)
def f_X3_choiceOf_38 (h : HS) : Option (Int32 × HS) := (some ((-1), h))
def f_X3_choiceOf_2 : Nat → HS → Int32 → Int32 → Option (Int32 × HS)
  | 0, _, _, _ => none
  | n + 1, h, x1, x2 => (if (eI h 8 8) ≤ x2 then (f_X3_choiceOf_38 h) else (if 3 ≤ x2 then (f_X3_choiceOf_38 h) else (if 0 ≤ (x2).toInt ∧ (x2).toInt < 3 then (if ((eA h 8 6) ((x2).toNatClampNeg)) = x1 then (if 0 ≤ (x2).toInt ∧ (x2).toInt < 3 then (some (((eA h 8 7) ((x2).toNatClampNeg)), h)) else none) else ((f_X3_choiceOf_2 n) h x1 (x2 + 1))) else none)))
theorem f_X3_choiceOf_2_s (n : Nat) (h : HS) (x1 : Int32) (x2 : Int32) : f_X3_choiceOf_2 (n + 1) h x1 x2 = (if (eI h 8 8) ≤ x2 then (f_X3_choiceOf_38 h) else (if 3 ≤ x2 then (f_X3_choiceOf_38 h) else (if 0 ≤ (x2).toInt ∧ (x2).toInt < 3 then (if ((eA h 8 6) ((x2).toNatClampNeg)) = x1 then (if 0 ≤ (x2).toInt ∧ (x2).toInt < 3 then (some (((eA h 8 7) ((x2).toNatClampNeg)), h)) else none) else ((f_X3_choiceOf_2 n) h x1 (x2 + 1))) else none))) := rfl
def f_X3_choiceOf (h : HS) (p1 : Int32) : Option (Int32 × HS) := (f_X3_choiceOf_2 8589934592 h p1 0)
set_option maxHeartbeats 4000000 in
set_option maxRecDepth 100000 in
theorem c_X3_choiceOf (l : Launch) (G : va_G) (cI cJ cZ cB cT : ClassId) (q : Nat → Nat) (h : HS) (p1 : Int32) (rr : Int32) (hh : HS) (hF : f_X3_choiceOf h p1 = some (rr, hh)) : gMi l yX3_choiceOf (gws yX3_choiceOf cX3_choiceOf 3 (some .int)) 1 G (gT cI cJ cZ cB cT) [.ref (q 23), .int p1] (wC q cI cJ cZ cB cT h) (fun x (_ : Unit) => x = rr) (fun (_ : Unit) => (wC q cI cJ cZ cB cT hh)) := by
  intro sz
  refine gM_start (y := yX3_choiceOf) (av := [.ref (q 23), .int p1]) (ws := (wC q cI cJ cZ cB cT h)) (Qf := fun A => va_Qi (fun x (_ : Unit) => x = rr) (gB G (fun (_ : Unit) => (wC q cI cJ cZ cB cT hh)) A) A) (cc := cX3_choiceOf) (maxL := 3) (ret := (some .int)) (by decide) (Nat.le_of_ble_eq_true rfl) ?_
  intro p e s m args below meth c A ls H hx hb hr hts hown hin hlocks hml hP hK hD hA hS hl hE
  have hl : lv_has ls 3 [(0, .ref (q 23)), (1, .int p1)] := hl
  have hJ_38 : ∀ (h : HS), f_X3_choiceOf_38 h = some (rr, hh) → ∀ (H : Heap) (locs : List Loc) (ls : Array Slot), va_P G vwCl (wC q cI cJ cZ cB cT h) H → va_D A (wC q cI cJ cZ cB cT h) → va_S A s.heap H locs → lv_has ls 3 [] → W p l e (gRm 1) s m args below meth c H locs 0 0 (MQ below (va_Qi (fun x (_ : Unit) => x = rr) (gB G (fun (_ : Unit) => (wC q cI cJ cZ cB cT hh)) A) A) args s 0 0 A) (F0 m 38 ls []) := by
    intro h hF H locs ls hP hD hS hl
    unfold f_X3_choiceOf_38 at hF
    refine lv_iconst (v := (-1)) hx hb dX3_choiceOf_38 (by decide) ?_
    obtain ⟨rfl, rfl⟩ := ob_pair hF
    exact gw_iret () hx hb hr hlocks hP hD hS rfl dX3_choiceOf_39
  have hJ_2 : ∀ (n_2 : Nat) (h : HS) (x1 : Int32) (x2 : Int32), f_X3_choiceOf_2 n_2 h x1 x2 = some (rr, hh) → ∀ (H : Heap) (locs : List Loc) (ls : Array Slot), va_P G vwCl (wC q cI cJ cZ cB cT h) H → va_D A (wC q cI cJ cZ cB cT h) → va_S A s.heap H locs → lv_has ls 3 [(0, .ref (q 23)), (1, .int x1), (2, .int x2)] → W p l e (gRm 1) s m args below meth c H locs 0 0 (MQ below (va_Qi (fun x (_ : Unit) => x = rr) (gB G (fun (_ : Unit) => (wC q cI cJ cZ cB cT hh)) A) A) args s 0 0 A) (F0 m 2 ls []) := by
    intro n_2
    induction n_2 with
    | zero =>
      intro h x1 x2 hF
      exact absurd hF (by simp [f_X3_choiceOf_2])
    | succ n_2 ih_2 =>
      intro h x1 x2 hF H locs ls hP hD hS hl
      rw [f_X3_choiceOf_2_s] at hF
      refine lv_iload_n hx hb dX3_choiceOf_2 rfl (lv_at hl 2 rfl) ?_
      refine lv_aload_n hx hb dX3_choiceOf_3 rfl (lv_at hl 0 rfl) ?_
      refine va_get (D := G) (ci := 3) (v := .int (eI h 8 8)) (C := RX3) (T := TX3) (N := 16) hx hb hts iX3 hown hK hP 23 wC_at23 rfl 8 (by decide) (hts _ m_475) (fun _ h9 => h9) rfl dX3_choiceOf_4 ?_
      refine lv_icmp_ge (tgt := 38) hx hb dX3_choiceOf_7 (by decide) (fun c_1 => ?_) (fun c_1 => ?_)
      · have hF := ob_pos c_1 hF
        exact hJ_38 h hF H _ ls hP hD hS (lv_sub hl [] rfl)
      · have hF := ob_neg c_1 hF
        refine lv_iload_n hx hb dX3_choiceOf_10 rfl (lv_at hl 2 rfl) ?_
        refine lv_iconst (v := 3) hx hb dX3_choiceOf_11 (by decide) ?_
        refine lv_icmp_ge (tgt := 38) hx hb dX3_choiceOf_12 (by decide) (fun c_2 => ?_) (fun c_2 => ?_)
        · have hF := ob_pos c_2 hF
          exact hJ_38 h hF H _ ls hP hD hS (lv_sub hl [] rfl)
        · have hF := ob_neg c_2 hF
          refine lv_aload_n hx hb dX3_choiceOf_15 rfl (lv_at hl 0 rfl) ?_
          refine va_get (D := G) (ci := 3) (v := .ref (q 30)) (C := RX3) (T := TX3) (N := 16) hx hb hts iX3 hown hK hP 23 wC_at23 rfl 6 (by decide) (hts _ m_476) (fun _ h9 => h9) rfl dX3_choiceOf_16 ?_
          refine lv_iload_n hx hb dX3_choiceOf_19 rfl (lv_at hl 2 rfl) ?_
          obtain ⟨hi_3, hF⟩ := ob_if hF
          refine va_iald (D := G) hx hb hK hP 30 0 wC_at30 rfl (vp_in_iff.mpr hi_3) dX3_choiceOf_20 ?_
          refine gw_topi (y := ((eA h 8 6) ((x2).toNatClampNeg))) rfl ?_
          refine lv_iload_n hx hb dX3_choiceOf_21 rfl (lv_at hl 1 rfl) ?_
          refine lv_icmp_ne (tgt := 32) hx hb dX3_choiceOf_22 (by decide) (fun c_4 => ?_) (fun c_4 => ?_)
          · have hF := ob_neg c_4 hF
            refine lv_iinc (v := (x2 + 1)) (lv' := [(2, .int (x2 + 1)), (0, .ref (q 23)), (1, .int x1)]) hx hb dX3_choiceOf_32 hl (k := 2) rfl rfl (by decide) rfl (fun ls hl => ?_)
            refine lv_goto (tgt := 2) hx hb dX3_choiceOf_35 (by decide) ?_
            exact ih_2 h x1 (x2 + 1) hF H _ ls hP hD hS (lv_sub hl [1, 2, 0] rfl)
          · have hF := ob_pos c_4 hF
            refine lv_aload_n hx hb dX3_choiceOf_25 rfl (lv_at hl 0 rfl) ?_
            refine va_get (D := G) (ci := 3) (v := .ref (q 31)) (C := RX3) (T := TX3) (N := 16) hx hb hts iX3 hown hK hP 23 wC_at23 rfl 7 (by decide) (hts _ m_478) (fun _ h9 => h9) rfl dX3_choiceOf_26 ?_
            refine lv_iload_n hx hb dX3_choiceOf_29 rfl (lv_at hl 2 rfl) ?_
            obtain ⟨hi_5, hF⟩ := ob_if hF
            refine va_iald (D := G) hx hb hK hP 31 0 wC_at31 rfl (vp_in_iff.mpr hi_5) dX3_choiceOf_30 ?_
            refine gw_topi (y := ((eA h 8 7) ((x2).toNatClampNeg))) rfl ?_
            obtain ⟨rfl, rfl⟩ := ob_pair hF
            exact gw_iret () hx hb hr hlocks hP hD hS rfl dX3_choiceOf_31
  unfold f_X3_choiceOf at hF
  refine lv_iconst (v := 0) hx hb dX3_choiceOf_0 (by decide) ?_
  refine lv_istore_n (lv' := [(2, .int 0), (0, .ref (q 23)), (1, .int p1)]) hx hb dX3_choiceOf_1 rfl hl (by decide) rfl (fun ls hl => ?_)
  exact hJ_2 8589934592 h p1 0 hF H _ ls hP hD hS (lv_sub hl [1, 2, 0] rfl)
def f_X3_missOf_f_158 (h : HS) (x2 : Int64) (x4 : Int64) (x6 : Int64) (x8 : Int64) (x10 : Int64) : Option (Int64 × HS) := (some ((x2 * ((x6 * x10) - ((x6 - x4) * (x10 - x8)))), h))
def f_X3_missOf_f_152 (k17 : HS → Int64 → Int64 → Int64 → Int64 → Int64 → Int32 → Option (Int64 × HS)) (h : HS) (x2 : Int64) (x4 : Int64) (x6 : Int64) (x8 : Int64) (x10 : Int64) (x12 : Int32) : Option (Int64 × HS) := (k17 h x2 x4 x6 x8 x10 (x12 + 1))
def f_X3_missOf_f_85 (k17 : HS → Int64 → Int64 → Int64 → Int64 → Int64 → Int32 → Option (Int64 × HS)) (h : HS) (x2 : Int64) (x4 : Int64) (x6 : Int64) (x8 : Int64) (x10 : Int64) (x12 : Int32) (y0 : Int32) : Option (Int64 × HS) := (if 0 ≤ (x12).toInt ∧ (x12).toInt < 3 then (if ((eA h 8 4) ((x12).toNatClampNeg)) = 0 then (f_X3_missOf_f_152 k17 h (x2 * ((y0).toInt64)) x4 x6 x8 x10 x12) else (if 0 ≤ (x12).toInt ∧ (x12).toInt < 3 then (if ((eA h 8 4) ((x12).toNatClampNeg)) = 1 then (f_X3_missOf_f_152 k17 h x2 (x4 * ((y0).toInt64)) (x6 * 100) x8 x10 x12) else (f_X3_missOf_f_152 k17 h x2 x4 x6 (x8 * ((y0).toInt64)) (x10 * 100) x12)) else none)) else none)
def f_X3_missOf_f_83 (k17 : HS → Int64 → Int64 → Int64 → Int64 → Int64 → Int32 → Option (Int64 × HS)) (h : HS) (x2 : Int64) (x4 : Int64) (x6 : Int64) (x8 : Int64) (x10 : Int64) (x12 : Int32) : Option (Int64 × HS) := (f_X3_missOf_f_85 k17 h x2 x4 x6 x8 x10 x12 100)
def f_X3_missOf_f_17 : Nat → HS → Int64 → Int64 → Int64 → Int64 → Int64 → Int32 → Option (Int64 × HS)
  | 0, _, _, _, _, _, _, _ => none
  | n + 1, h, x2, x4, x6, x8, x10, x12 => (if (eI h 8 8) ≤ x12 then (f_X3_missOf_f_158 h x2 x4 x6 x8 x10) else (if 3 ≤ x12 then (f_X3_missOf_f_158 h x2 x4 x6 x8 x10) else (if 0 ≤ (x12).toInt ∧ (x12).toInt < 3 then (if 0 ≤ (x12).toInt ∧ (x12).toInt < 3 then (if 0 ≤ (x12).toInt ∧ (x12).toInt < 3 then (if ((((((eA h 8 3) ((x12).toNatClampNeg)) * 3) + ((eA h 8 4) ((x12).toNatClampNeg))) * 5) + ((eA h 8 5) ((x12).toNatClampNeg))) < 0 then (f_X3_missOf_f_83 (f_X3_missOf_f_17 n) h x2 x4 x6 x8 x10 x12) else (if 150 ≤ ((((((eA h 8 3) ((x12).toNatClampNeg)) * 3) + ((eA h 8 4) ((x12).toNatClampNeg))) * 5) + ((eA h 8 5) ((x12).toNatClampNeg))) then (f_X3_missOf_f_83 (f_X3_missOf_f_17 n) h x2 x4 x6 x8 x10 x12) else (if 0 ≤ (((((((eA h 8 3) ((x12).toNatClampNeg)) * 3) + ((eA h 8 4) ((x12).toNatClampNeg))) * 5) + ((eA h 8 5) ((x12).toNatClampNeg)))).toInt ∧ (((((((eA h 8 3) ((x12).toNatClampNeg)) * 3) + ((eA h 8 4) ((x12).toNatClampNeg))) * 5) + ((eA h 8 5) ((x12).toNatClampNeg)))).toInt < 150 then (f_X3_missOf_f_85 (f_X3_missOf_f_17 n) h x2 x4 x6 x8 x10 x12 (100 - ((eA h 8 0) ((((((((eA h 8 3) ((x12).toNatClampNeg)) * 3) + ((eA h 8 4) ((x12).toNatClampNeg))) * 5) + ((eA h 8 5) ((x12).toNatClampNeg)))).toNatClampNeg)))) else none))) else none) else none) else none)))
theorem f_X3_missOf_f_17_s (n : Nat) (h : HS) (x2 : Int64) (x4 : Int64) (x6 : Int64) (x8 : Int64) (x10 : Int64) (x12 : Int32) : f_X3_missOf_f_17 (n + 1) h x2 x4 x6 x8 x10 x12 = (if (eI h 8 8) ≤ x12 then (f_X3_missOf_f_158 h x2 x4 x6 x8 x10) else (if 3 ≤ x12 then (f_X3_missOf_f_158 h x2 x4 x6 x8 x10) else (if 0 ≤ (x12).toInt ∧ (x12).toInt < 3 then (if 0 ≤ (x12).toInt ∧ (x12).toInt < 3 then (if 0 ≤ (x12).toInt ∧ (x12).toInt < 3 then (if ((((((eA h 8 3) ((x12).toNatClampNeg)) * 3) + ((eA h 8 4) ((x12).toNatClampNeg))) * 5) + ((eA h 8 5) ((x12).toNatClampNeg))) < 0 then (f_X3_missOf_f_83 (f_X3_missOf_f_17 n) h x2 x4 x6 x8 x10 x12) else (if 150 ≤ ((((((eA h 8 3) ((x12).toNatClampNeg)) * 3) + ((eA h 8 4) ((x12).toNatClampNeg))) * 5) + ((eA h 8 5) ((x12).toNatClampNeg))) then (f_X3_missOf_f_83 (f_X3_missOf_f_17 n) h x2 x4 x6 x8 x10 x12) else (if 0 ≤ (((((((eA h 8 3) ((x12).toNatClampNeg)) * 3) + ((eA h 8 4) ((x12).toNatClampNeg))) * 5) + ((eA h 8 5) ((x12).toNatClampNeg)))).toInt ∧ (((((((eA h 8 3) ((x12).toNatClampNeg)) * 3) + ((eA h 8 4) ((x12).toNatClampNeg))) * 5) + ((eA h 8 5) ((x12).toNatClampNeg)))).toInt < 150 then (f_X3_missOf_f_85 (f_X3_missOf_f_17 n) h x2 x4 x6 x8 x10 x12 (100 - ((eA h 8 0) ((((((((eA h 8 3) ((x12).toNatClampNeg)) * 3) + ((eA h 8 4) ((x12).toNatClampNeg))) * 5) + ((eA h 8 5) ((x12).toNatClampNeg)))).toNatClampNeg)))) else none))) else none) else none) else none))) := rfl
def f_X3_missOf_f (h : HS) : Option (Int64 × HS) := (f_X3_missOf_f_17 8589934592 h 1 1 1 1 1 0)
set_option maxHeartbeats 4000000 in
set_option maxRecDepth 100000 in
theorem c_X3_missOf_f (l : Launch) (G : va_G) (cI cJ cZ cB cT : ClassId) (q : Nat → Nat) (h : HS)  (rr : Int64) (hh : HS) (hF : f_X3_missOf_f h = some (rr, hh)) : gMl l yX3_missOf (gws yX3_missOf cX3_missOf 15 (some .long)) 1 G (gT cI cJ cZ cB cT) [.ref (q 23), .ref (q 24)] (wC q cI cJ cZ cB cT h) (fun x (_ : Unit) => x = rr) (fun (_ : Unit) => (wC q cI cJ cZ cB cT hh)) := by
  intro sz
  refine gM_start (y := yX3_missOf) (av := [.ref (q 23), .ref (q 24)]) (ws := (wC q cI cJ cZ cB cT h)) (Qf := fun A => va_Ql (fun x (_ : Unit) => x = rr) (gB G (fun (_ : Unit) => (wC q cI cJ cZ cB cT hh)) A) A) (cc := cX3_missOf) (maxL := 15) (ret := (some .long)) (by decide) (Nat.le_of_ble_eq_true rfl) ?_
  intro p e s m args below meth c A ls H hx hb hr hts hown hin hlocks hml hP hK hD hA hS hl hE
  have hl : lv_has ls 15 [(0, .ref (q 23)), (1, .ref (q 24))] := hl
  have hJ_158 : ∀ (h : HS) (x2 : Int64) (x4 : Int64) (x6 : Int64) (x8 : Int64) (x10 : Int64), f_X3_missOf_f_158 h x2 x4 x6 x8 x10 = some (rr, hh) → ∀ (H : Heap) (locs : List Loc) (ls : Array Slot), va_P G vwCl (wC q cI cJ cZ cB cT h) H → va_D A (wC q cI cJ cZ cB cT h) → va_S A s.heap H locs → lv_has ls 15 [(2, .long x2), (4, .long x4), (6, .long x6), (8, .long x8), (10, .long x10)] → W p l e (gRm 1) s m args below meth c H locs 0 0 (MQ below (va_Ql (fun x (_ : Unit) => x = rr) (gB G (fun (_ : Unit) => (wC q cI cJ cZ cB cT hh)) A) A) args s 0 0 A) (F0 m 158 ls []) := by
    intro h x2 x4 x6 x8 x10 hF H locs ls hP hD hS hl
    unfold f_X3_missOf_f_158 at hF
    refine lv_lload_n hx hb dX3_missOf_158 rfl (lv_at hl 0 rfl) ?_
    refine lv_lload hx hb dX3_missOf_159 (lv_at hl 2 rfl) ?_
    refine lv_lload hx hb dX3_missOf_161 (lv_at hl 4 rfl) ?_
    refine lv_lmul hx hb dX3_missOf_163 ?_
    refine lv_lload hx hb dX3_missOf_164 (lv_at hl 2 rfl) ?_
    refine lv_lload hx hb dX3_missOf_166 (lv_at hl 1 rfl) ?_
    refine lv_lsub hx hb dX3_missOf_168 ?_
    refine lv_lload hx hb dX3_missOf_169 (lv_at hl 4 rfl) ?_
    refine lv_lload hx hb dX3_missOf_171 (lv_at hl 3 rfl) ?_
    refine lv_lsub hx hb dX3_missOf_173 ?_
    refine lv_lmul hx hb dX3_missOf_174 ?_
    refine lv_lsub hx hb dX3_missOf_175 ?_
    refine lv_lmul hx hb dX3_missOf_176 ?_
    obtain ⟨rfl, rfl⟩ := ob_pair hF
    exact gw_lret () hx hb hr hlocks hP hD hS rfl dX3_missOf_177
  have hJ_17 : ∀ (n_17 : Nat) (h : HS) (x2 : Int64) (x4 : Int64) (x6 : Int64) (x8 : Int64) (x10 : Int64) (x12 : Int32), f_X3_missOf_f_17 n_17 h x2 x4 x6 x8 x10 x12 = some (rr, hh) → ∀ (H : Heap) (locs : List Loc) (ls : Array Slot), va_P G vwCl (wC q cI cJ cZ cB cT h) H → va_D A (wC q cI cJ cZ cB cT h) → va_S A s.heap H locs → lv_has ls 15 [(0, .ref (q 23)), (1, .ref (q 24)), (2, .long x2), (4, .long x4), (6, .long x6), (8, .long x8), (10, .long x10), (12, .int x12)] → W p l e (gRm 1) s m args below meth c H locs 0 0 (MQ below (va_Ql (fun x (_ : Unit) => x = rr) (gB G (fun (_ : Unit) => (wC q cI cJ cZ cB cT hh)) A) A) args s 0 0 A) (F0 m 17 ls []) := by
    intro n_17
    induction n_17 with
    | zero =>
      intro h x2 x4 x6 x8 x10 x12 hF
      exact absurd hF (by simp [f_X3_missOf_f_17])
    | succ n_17 ih_17 =>
      have hJ_152 : ∀ (h : HS) (x2 : Int64) (x4 : Int64) (x6 : Int64) (x8 : Int64) (x10 : Int64) (x12 : Int32), f_X3_missOf_f_152 (f_X3_missOf_f_17 n_17) h x2 x4 x6 x8 x10 x12 = some (rr, hh) → ∀ (H : Heap) (locs : List Loc) (ls : Array Slot), va_P G vwCl (wC q cI cJ cZ cB cT h) H → va_D A (wC q cI cJ cZ cB cT h) → va_S A s.heap H locs → lv_has ls 15 [(0, .ref (q 23)), (1, .ref (q 24)), (2, .long x2), (4, .long x4), (6, .long x6), (8, .long x8), (10, .long x10), (12, .int x12)] → W p l e (gRm 1) s m args below meth c H locs 0 0 (MQ below (va_Ql (fun x (_ : Unit) => x = rr) (gB G (fun (_ : Unit) => (wC q cI cJ cZ cB cT hh)) A) A) args s 0 0 A) (F0 m 152 ls []) := by
        intro h x2 x4 x6 x8 x10 x12 hF H locs ls hP hD hS hl
        unfold f_X3_missOf_f_152 at hF
        refine lv_iinc (v := (x12 + 1)) (lv' := [(12, .int (x12 + 1)), (0, .ref (q 23)), (1, .ref (q 24)), (2, .long x2), (4, .long x4), (6, .long x6), (8, .long x8), (10, .long x10)]) hx hb dX3_missOf_152 hl (k := 7) rfl rfl (by decide) rfl (fun ls hl => ?_)
        refine lv_goto (tgt := 17) hx hb dX3_missOf_155 (by decide) ?_
        exact ih_17 h x2 x4 x6 x8 x10 (x12 + 1) hF H _ ls hP hD hS (lv_sub hl [1, 2, 3, 4, 5, 6, 7, 0] rfl)
      have hJ_85 : ∀ (h : HS) (x2 : Int64) (x4 : Int64) (x6 : Int64) (x8 : Int64) (x10 : Int64) (x12 : Int32) (y0 : Int32), f_X3_missOf_f_85 (f_X3_missOf_f_17 n_17) h x2 x4 x6 x8 x10 x12 y0 = some (rr, hh) → ∀ (H : Heap) (locs : List Loc) (ls : Array Slot), va_P G vwCl (wC q cI cJ cZ cB cT h) H → va_D A (wC q cI cJ cZ cB cT h) → va_S A s.heap H locs → lv_has ls 15 [(0, .ref (q 23)), (1, .ref (q 24)), (2, .long x2), (4, .long x4), (6, .long x6), (8, .long x8), (10, .long x10), (12, .int x12)] → W p l e (gRm 1) s m args below meth c H locs 0 0 (MQ below (va_Ql (fun x (_ : Unit) => x = rr) (gB G (fun (_ : Unit) => (wC q cI cJ cZ cB cT hh)) A) A) args s 0 0 A) (F0 m 85 ls [.int y0]) := by
        intro h x2 x4 x6 x8 x10 x12 y0 hF H locs ls hP hD hS hl
        unfold f_X3_missOf_f_85 at hF
        refine lv_istore (lv' := [(14, .int y0), (0, .ref (q 23)), (1, .ref (q 24)), (2, .long x2), (4, .long x4), (6, .long x6), (8, .long x8), (10, .long x10), (12, .int x12)]) hx hb dX3_missOf_85 hl (by decide) rfl (fun ls hl => ?_)
        refine lv_aload_n hx hb dX3_missOf_87 rfl (lv_at hl 1 rfl) ?_
        refine va_get (D := G) (ci := 3) (v := .ref (q 28)) (C := RX3) (T := TX3) (N := 16) hx hb hts iX3 hown hK hP 23 wC_at23 rfl 4 (by decide) (hts _ m_480) (fun _ h9 => h9) rfl dX3_missOf_88 ?_
        refine lv_iload hx hb dX3_missOf_91 (lv_at hl 8 rfl) ?_
        obtain ⟨hi_9, hF⟩ := ob_if hF
        refine va_iald (D := G) hx hb hK hP 28 0 wC_at28 rfl (vp_in_iff.mpr hi_9) dX3_missOf_93 ?_
        refine gw_topi (y := ((eA h 8 4) ((x12).toNatClampNeg))) rfl ?_
        refine lv_if_ne (tgt := 106) hx hb dX3_missOf_94 (by decide) (fun c_10 => ?_) (fun c_10 => ?_)
        · have hF := ob_neg c_10 hF
          refine lv_aload_n hx hb dX3_missOf_106 rfl (lv_at hl 1 rfl) ?_
          refine va_get (D := G) (ci := 3) (v := .ref (q 28)) (C := RX3) (T := TX3) (N := 16) hx hb hts iX3 hown hK hP 23 wC_at23 rfl 4 (by decide) (hts _ m_480) (fun _ h9 => h9) rfl dX3_missOf_107 ?_
          refine lv_iload hx hb dX3_missOf_110 (lv_at hl 8 rfl) ?_
          obtain ⟨hi_11, hF⟩ := ob_if hF
          refine va_iald (D := G) hx hb hK hP 28 0 wC_at28 rfl (vp_in_iff.mpr hi_11) dX3_missOf_112 ?_
          refine gw_topi (y := ((eA h 8 4) ((x12).toNatClampNeg))) rfl ?_
          refine lv_iconst (v := 1) hx hb dX3_missOf_113 (by decide) ?_
          refine lv_icmp_ne (tgt := 136) hx hb dX3_missOf_114 (by decide) (fun c_12 => ?_) (fun c_12 => ?_)
          · have hF := ob_neg c_12 hF
            refine lv_lload hx hb dX3_missOf_136 (lv_at hl 6 rfl) ?_
            refine lv_iload hx hb dX3_missOf_138 (lv_at hl 0 rfl) ?_
            refine lv_i2l (v := (y0).toInt64) hx hb dX3_missOf_140 rfl ?_
            refine lv_lmul hx hb dX3_missOf_141 ?_
            refine lv_lstore (lv' := [(8, .long (x8 * ((y0).toInt64))), (14, .int y0), (0, .ref (q 23)), (1, .ref (q 24)), (2, .long x2), (4, .long x4), (6, .long x6), (10, .long x10), (12, .int x12)]) hx hb dX3_missOf_142 hl (by decide) rfl (fun ls hl => ?_)
            refine lv_lload hx hb dX3_missOf_144 (lv_at hl 7 rfl) ?_
            refine lv_ldc2 (v := 100) hx hb hown (hts _ m_469) dX3_missOf_146 ?_
            refine lv_lmul hx hb dX3_missOf_149 ?_
            refine lv_lstore (lv' := [(10, .long (x10 * 100)), (8, .long (x8 * ((y0).toInt64))), (14, .int y0), (0, .ref (q 23)), (1, .ref (q 24)), (2, .long x2), (4, .long x4), (6, .long x6), (12, .int x12)]) hx hb dX3_missOf_150 hl (by decide) rfl (fun ls hl => ?_)
            exact hJ_152 h x2 x4 x6 (x8 * ((y0).toInt64)) (x10 * 100) x12 hF H _ ls hP hD hS (lv_sub hl [3, 4, 5, 6, 7, 1, 0, 8] rfl)
          · have hF := ob_pos c_12 hF
            refine lv_lload hx hb dX3_missOf_117 (lv_at hl 4 rfl) ?_
            refine lv_iload hx hb dX3_missOf_119 (lv_at hl 0 rfl) ?_
            refine lv_i2l (v := (y0).toInt64) hx hb dX3_missOf_121 rfl ?_
            refine lv_lmul hx hb dX3_missOf_122 ?_
            refine lv_lstore (lv' := [(4, .long (x4 * ((y0).toInt64))), (14, .int y0), (0, .ref (q 23)), (1, .ref (q 24)), (2, .long x2), (6, .long x6), (8, .long x8), (10, .long x10), (12, .int x12)]) hx hb dX3_missOf_123 hl (by decide) rfl (fun ls hl => ?_)
            refine lv_lload hx hb dX3_missOf_125 (lv_at hl 5 rfl) ?_
            refine lv_ldc2 (v := 100) hx hb hown (hts _ m_469) dX3_missOf_127 ?_
            refine lv_lmul hx hb dX3_missOf_130 ?_
            refine lv_lstore (lv' := [(6, .long (x6 * 100)), (4, .long (x4 * ((y0).toInt64))), (14, .int y0), (0, .ref (q 23)), (1, .ref (q 24)), (2, .long x2), (8, .long x8), (10, .long x10), (12, .int x12)]) hx hb dX3_missOf_131 hl (by decide) rfl (fun ls hl => ?_)
            refine lv_goto (tgt := 152) hx hb dX3_missOf_133 (by decide) ?_
            exact hJ_152 h x2 (x4 * ((y0).toInt64)) (x6 * 100) x8 x10 x12 hF H _ ls hP hD hS (lv_sub hl [3, 4, 5, 1, 0, 6, 7, 8] rfl)
        · have hF := ob_pos c_10 hF
          refine lv_lload_n hx hb dX3_missOf_97 rfl (lv_at hl 3 rfl) ?_
          refine lv_iload hx hb dX3_missOf_98 (lv_at hl 0 rfl) ?_
          refine lv_i2l (v := (y0).toInt64) hx hb dX3_missOf_100 rfl ?_
          refine lv_lmul hx hb dX3_missOf_101 ?_
          refine lv_lstore_n (lv' := [(2, .long (x2 * ((y0).toInt64))), (14, .int y0), (0, .ref (q 23)), (1, .ref (q 24)), (4, .long x4), (6, .long x6), (8, .long x8), (10, .long x10), (12, .int x12)]) hx hb dX3_missOf_102 rfl hl (by decide) rfl (fun ls hl => ?_)
          refine lv_goto (tgt := 152) hx hb dX3_missOf_103 (by decide) ?_
          exact hJ_152 h (x2 * ((y0).toInt64)) x4 x6 x8 x10 x12 hF H _ ls hP hD hS (lv_sub hl [2, 3, 0, 4, 5, 6, 7, 8] rfl)
      have hJ_83 : ∀ (h : HS) (x2 : Int64) (x4 : Int64) (x6 : Int64) (x8 : Int64) (x10 : Int64) (x12 : Int32), f_X3_missOf_f_83 (f_X3_missOf_f_17 n_17) h x2 x4 x6 x8 x10 x12 = some (rr, hh) → ∀ (H : Heap) (locs : List Loc) (ls : Array Slot), va_P G vwCl (wC q cI cJ cZ cB cT h) H → va_D A (wC q cI cJ cZ cB cT h) → va_S A s.heap H locs → lv_has ls 15 [(0, .ref (q 23)), (1, .ref (q 24)), (2, .long x2), (4, .long x4), (6, .long x6), (8, .long x8), (10, .long x10), (12, .int x12)] → W p l e (gRm 1) s m args below meth c H locs 0 0 (MQ below (va_Ql (fun x (_ : Unit) => x = rr) (gB G (fun (_ : Unit) => (wC q cI cJ cZ cB cT hh)) A) A) args s 0 0 A) (F0 m 83 ls []) := by
        intro h x2 x4 x6 x8 x10 x12 hF H locs ls hP hD hS hl
        unfold f_X3_missOf_f_83 at hF
        refine lv_bipush (v := 100) hx hb dX3_missOf_83 (by decide) ?_
        exact hJ_85 h x2 x4 x6 x8 x10 x12 100 hF H _ ls hP hD hS (lv_sub hl [0, 1, 2, 3, 4, 5, 6, 7] rfl)
      intro h x2 x4 x6 x8 x10 x12 hF H locs ls hP hD hS hl
      rw [f_X3_missOf_f_17_s] at hF
      refine lv_iload hx hb dX3_missOf_17 (lv_at hl 7 rfl) ?_
      refine lv_aload_n hx hb dX3_missOf_19 rfl (lv_at hl 0 rfl) ?_
      refine va_get (D := G) (ci := 3) (v := .int (eI h 8 8)) (C := RX3) (T := TX3) (N := 16) hx hb hts iX3 hown hK hP 23 wC_at23 rfl 8 (by decide) (hts _ m_475) (fun _ h9 => h9) rfl dX3_missOf_20 ?_
      refine lv_icmp_ge (tgt := 158) hx hb dX3_missOf_23 (by decide) (fun c_1 => ?_) (fun c_1 => ?_)
      · have hF := ob_pos c_1 hF
        exact hJ_158 h x2 x4 x6 x8 x10 hF H _ ls hP hD hS (lv_sub hl [2, 3, 4, 5, 6] rfl)
      · have hF := ob_neg c_1 hF
        refine lv_iload hx hb dX3_missOf_26 (lv_at hl 7 rfl) ?_
        refine lv_iconst (v := 3) hx hb dX3_missOf_28 (by decide) ?_
        refine lv_icmp_ge (tgt := 158) hx hb dX3_missOf_29 (by decide) (fun c_2 => ?_) (fun c_2 => ?_)
        · have hF := ob_pos c_2 hF
          exact hJ_158 h x2 x4 x6 x8 x10 hF H _ ls hP hD hS (lv_sub hl [2, 3, 4, 5, 6] rfl)
        · have hF := ob_neg c_2 hF
          refine lv_aload_n hx hb dX3_missOf_32 rfl (lv_at hl 0 rfl) ?_
          refine va_get (D := G) (ci := 3) (v := .ref (q 27)) (C := RX3) (T := TX3) (N := 16) hx hb hts iX3 hown hK hP 23 wC_at23 rfl 3 (by decide) (hts _ m_477) (fun _ h9 => h9) rfl dX3_missOf_33 ?_
          refine lv_iload hx hb dX3_missOf_36 (lv_at hl 7 rfl) ?_
          obtain ⟨hi_3, hF⟩ := ob_if hF
          refine va_iald (D := G) hx hb hK hP 27 0 wC_at27 rfl (vp_in_iff.mpr hi_3) dX3_missOf_38 ?_
          refine gw_topi (y := ((eA h 8 3) ((x12).toNatClampNeg))) rfl ?_
          refine lv_iconst (v := 3) hx hb dX3_missOf_39 (by decide) ?_
          refine lv_imul hx hb dX3_missOf_40 ?_
          refine lv_aload_n hx hb dX3_missOf_41 rfl (lv_at hl 0 rfl) ?_
          refine va_get (D := G) (ci := 3) (v := .ref (q 28)) (C := RX3) (T := TX3) (N := 16) hx hb hts iX3 hown hK hP 23 wC_at23 rfl 4 (by decide) (hts _ m_480) (fun _ h9 => h9) rfl dX3_missOf_42 ?_
          refine lv_iload hx hb dX3_missOf_45 (lv_at hl 7 rfl) ?_
          obtain ⟨hi_4, hF⟩ := ob_if hF
          refine va_iald (D := G) hx hb hK hP 28 0 wC_at28 rfl (vp_in_iff.mpr hi_4) dX3_missOf_47 ?_
          refine gw_topi (y := ((eA h 8 4) ((x12).toNatClampNeg))) rfl ?_
          refine lv_iadd hx hb dX3_missOf_48 ?_
          refine lv_iconst (v := 5) hx hb dX3_missOf_49 (by decide) ?_
          refine lv_imul hx hb dX3_missOf_50 ?_
          refine lv_aload_n hx hb dX3_missOf_51 rfl (lv_at hl 0 rfl) ?_
          refine va_get (D := G) (ci := 3) (v := .ref (q 29)) (C := RX3) (T := TX3) (N := 16) hx hb hts iX3 hown hK hP 23 wC_at23 rfl 5 (by decide) (hts _ m_479) (fun _ h9 => h9) rfl dX3_missOf_52 ?_
          refine lv_iload hx hb dX3_missOf_55 (lv_at hl 7 rfl) ?_
          obtain ⟨hi_5, hF⟩ := ob_if hF
          refine va_iald (D := G) hx hb hK hP 29 0 wC_at29 rfl (vp_in_iff.mpr hi_5) dX3_missOf_57 ?_
          refine gw_topi (y := ((eA h 8 5) ((x12).toNatClampNeg))) rfl ?_
          refine lv_iadd hx hb dX3_missOf_58 ?_
          refine lv_istore (lv' := [(13, .int ((((((eA h 8 3) ((x12).toNatClampNeg)) * 3) + ((eA h 8 4) ((x12).toNatClampNeg))) * 5) + ((eA h 8 5) ((x12).toNatClampNeg)))), (0, .ref (q 23)), (1, .ref (q 24)), (2, .long x2), (4, .long x4), (6, .long x6), (8, .long x8), (10, .long x10), (12, .int x12)]) hx hb dX3_missOf_59 hl (by decide) rfl (fun ls hl => ?_)
          refine lv_iload hx hb dX3_missOf_61 (lv_at hl 0 rfl) ?_
          refine lv_if_lt (tgt := 83) hx hb dX3_missOf_63 (by decide) (fun c_6 => ?_) (fun c_6 => ?_)
          · have hF := ob_pos c_6 hF
            exact hJ_83 h x2 x4 x6 x8 x10 x12 hF H _ ls hP hD hS (lv_sub hl [1, 2, 3, 4, 5, 6, 7, 8] rfl)
          · have hF := ob_neg c_6 hF
            refine lv_iload hx hb dX3_missOf_66 (lv_at hl 0 rfl) ?_
            refine lv_aload_n hx hb dX3_missOf_68 rfl (lv_at hl 2 rfl) ?_
            refine va_alen (D := G) hx hb hK hP 24 0 wC_at24 rfl (v := 150) rfl dX3_missOf_69 ?_
            refine lv_icmp_ge (tgt := 83) hx hb dX3_missOf_70 (by decide) (fun c_7 => ?_) (fun c_7 => ?_)
            · have hF := ob_pos c_7 hF
              exact hJ_83 h x2 x4 x6 x8 x10 x12 hF H _ ls hP hD hS (lv_sub hl [1, 2, 3, 4, 5, 6, 7, 8] rfl)
            · have hF := ob_neg c_7 hF
              refine lv_bipush (v := 100) hx hb dX3_missOf_73 (by decide) ?_
              refine lv_aload_n hx hb dX3_missOf_75 rfl (lv_at hl 2 rfl) ?_
              refine lv_iload hx hb dX3_missOf_76 (lv_at hl 0 rfl) ?_
              obtain ⟨hi_8, hF⟩ := ob_if hF
              refine va_iald (D := G) hx hb hK hP 24 0 wC_at24 rfl (vp_in_iff.mpr hi_8) dX3_missOf_78 ?_
              refine gw_topi (y := ((eA h 8 0) ((((((((eA h 8 3) ((x12).toNatClampNeg)) * 3) + ((eA h 8 4) ((x12).toNatClampNeg))) * 5) + ((eA h 8 5) ((x12).toNatClampNeg)))).toNatClampNeg))) rfl ?_
              refine lv_isub hx hb dX3_missOf_79 ?_
              refine lv_goto (tgt := 85) hx hb dX3_missOf_80 (by decide) ?_
              exact hJ_85 h x2 x4 x6 x8 x10 x12 (100 - ((eA h 8 0) ((((((((eA h 8 3) ((x12).toNatClampNeg)) * 3) + ((eA h 8 4) ((x12).toNatClampNeg))) * 5) + ((eA h 8 5) ((x12).toNatClampNeg)))).toNatClampNeg))) hF H _ ls hP hD hS (lv_sub hl [1, 2, 3, 4, 5, 6, 7, 8] rfl)
  unfold f_X3_missOf_f at hF
  refine lv_lconst (v := 1) hx hb dX3_missOf_0 (by decide) ?_
  refine lv_lstore_n (lv' := [(2, .long 1), (0, .ref (q 23)), (1, .ref (q 24))]) hx hb dX3_missOf_1 rfl hl (by decide) rfl (fun ls hl => ?_)
  refine lv_lconst (v := 1) hx hb dX3_missOf_2 (by decide) ?_
  refine lv_lstore (lv' := [(4, .long 1), (2, .long 1), (0, .ref (q 23)), (1, .ref (q 24))]) hx hb dX3_missOf_3 hl (by decide) rfl (fun ls hl => ?_)
  refine lv_lconst (v := 1) hx hb dX3_missOf_5 (by decide) ?_
  refine lv_lstore (lv' := [(6, .long 1), (4, .long 1), (2, .long 1), (0, .ref (q 23)), (1, .ref (q 24))]) hx hb dX3_missOf_6 hl (by decide) rfl (fun ls hl => ?_)
  refine lv_lconst (v := 1) hx hb dX3_missOf_8 (by decide) ?_
  refine lv_lstore (lv' := [(8, .long 1), (6, .long 1), (4, .long 1), (2, .long 1), (0, .ref (q 23)), (1, .ref (q 24))]) hx hb dX3_missOf_9 hl (by decide) rfl (fun ls hl => ?_)
  refine lv_lconst (v := 1) hx hb dX3_missOf_11 (by decide) ?_
  refine lv_lstore (lv' := [(10, .long 1), (8, .long 1), (6, .long 1), (4, .long 1), (2, .long 1), (0, .ref (q 23)), (1, .ref (q 24))]) hx hb dX3_missOf_12 hl (by decide) rfl (fun ls hl => ?_)
  refine lv_iconst (v := 0) hx hb dX3_missOf_14 (by decide) ?_
  refine lv_istore (lv' := [(12, .int 0), (10, .long 1), (8, .long 1), (6, .long 1), (4, .long 1), (2, .long 1), (0, .ref (q 23)), (1, .ref (q 24))]) hx hb dX3_missOf_15 hl (by decide) rfl (fun ls hl => ?_)
  exact hJ_17 8589934592 h 1 1 1 1 1 0 hF H _ ls hP hD hS (lv_sub hl [6, 7, 5, 4, 3, 2, 1, 0] rfl)
def f_X3_missOf_r_158 (h : HS) (x2 : Int64) (x4 : Int64) (x6 : Int64) (x8 : Int64) (x10 : Int64) : Option (Int64 × HS) := (some ((x2 * ((x6 * x10) - ((x6 - x4) * (x10 - x8)))), h))
def f_X3_missOf_r_152 (k17 : HS → Int64 → Int64 → Int64 → Int64 → Int64 → Int32 → Option (Int64 × HS)) (h : HS) (x2 : Int64) (x4 : Int64) (x6 : Int64) (x8 : Int64) (x10 : Int64) (x12 : Int32) : Option (Int64 × HS) := (k17 h x2 x4 x6 x8 x10 (x12 + 1))
def f_X3_missOf_r_85 (k17 : HS → Int64 → Int64 → Int64 → Int64 → Int64 → Int32 → Option (Int64 × HS)) (h : HS) (x2 : Int64) (x4 : Int64) (x6 : Int64) (x8 : Int64) (x10 : Int64) (x12 : Int32) (y0 : Int32) : Option (Int64 × HS) := (if 0 ≤ (x12).toInt ∧ (x12).toInt < 3 then (if ((eA h 8 4) ((x12).toNatClampNeg)) = 0 then (f_X3_missOf_r_152 k17 h (x2 * ((y0).toInt64)) x4 x6 x8 x10 x12) else (if 0 ≤ (x12).toInt ∧ (x12).toInt < 3 then (if ((eA h 8 4) ((x12).toNatClampNeg)) = 1 then (f_X3_missOf_r_152 k17 h x2 (x4 * ((y0).toInt64)) (x6 * 100) x8 x10 x12) else (f_X3_missOf_r_152 k17 h x2 x4 x6 (x8 * ((y0).toInt64)) (x10 * 100) x12)) else none)) else none)
def f_X3_missOf_r_83 (k17 : HS → Int64 → Int64 → Int64 → Int64 → Int64 → Int32 → Option (Int64 × HS)) (h : HS) (x2 : Int64) (x4 : Int64) (x6 : Int64) (x8 : Int64) (x10 : Int64) (x12 : Int32) : Option (Int64 × HS) := (f_X3_missOf_r_85 k17 h x2 x4 x6 x8 x10 x12 100)
def f_X3_missOf_r_17 : Nat → HS → Int64 → Int64 → Int64 → Int64 → Int64 → Int32 → Option (Int64 × HS)
  | 0, _, _, _, _, _, _, _ => none
  | n + 1, h, x2, x4, x6, x8, x10, x12 => (if (eI h 8 8) ≤ x12 then (f_X3_missOf_r_158 h x2 x4 x6 x8 x10) else (if 3 ≤ x12 then (f_X3_missOf_r_158 h x2 x4 x6 x8 x10) else (if 0 ≤ (x12).toInt ∧ (x12).toInt < 3 then (if 0 ≤ (x12).toInt ∧ (x12).toInt < 3 then (if 0 ≤ (x12).toInt ∧ (x12).toInt < 3 then (if ((((((eA h 8 3) ((x12).toNatClampNeg)) * 3) + ((eA h 8 4) ((x12).toNatClampNeg))) * 5) + ((eA h 8 5) ((x12).toNatClampNeg))) < 0 then (f_X3_missOf_r_83 (f_X3_missOf_r_17 n) h x2 x4 x6 x8 x10 x12) else (if 150 ≤ ((((((eA h 8 3) ((x12).toNatClampNeg)) * 3) + ((eA h 8 4) ((x12).toNatClampNeg))) * 5) + ((eA h 8 5) ((x12).toNatClampNeg))) then (f_X3_missOf_r_83 (f_X3_missOf_r_17 n) h x2 x4 x6 x8 x10 x12) else (if 0 ≤ (((((((eA h 8 3) ((x12).toNatClampNeg)) * 3) + ((eA h 8 4) ((x12).toNatClampNeg))) * 5) + ((eA h 8 5) ((x12).toNatClampNeg)))).toInt ∧ (((((((eA h 8 3) ((x12).toNatClampNeg)) * 3) + ((eA h 8 4) ((x12).toNatClampNeg))) * 5) + ((eA h 8 5) ((x12).toNatClampNeg)))).toInt < 150 then (f_X3_missOf_r_85 (f_X3_missOf_r_17 n) h x2 x4 x6 x8 x10 x12 (100 - ((eA h 8 1) ((((((((eA h 8 3) ((x12).toNatClampNeg)) * 3) + ((eA h 8 4) ((x12).toNatClampNeg))) * 5) + ((eA h 8 5) ((x12).toNatClampNeg)))).toNatClampNeg)))) else none))) else none) else none) else none)))
theorem f_X3_missOf_r_17_s (n : Nat) (h : HS) (x2 : Int64) (x4 : Int64) (x6 : Int64) (x8 : Int64) (x10 : Int64) (x12 : Int32) : f_X3_missOf_r_17 (n + 1) h x2 x4 x6 x8 x10 x12 = (if (eI h 8 8) ≤ x12 then (f_X3_missOf_r_158 h x2 x4 x6 x8 x10) else (if 3 ≤ x12 then (f_X3_missOf_r_158 h x2 x4 x6 x8 x10) else (if 0 ≤ (x12).toInt ∧ (x12).toInt < 3 then (if 0 ≤ (x12).toInt ∧ (x12).toInt < 3 then (if 0 ≤ (x12).toInt ∧ (x12).toInt < 3 then (if ((((((eA h 8 3) ((x12).toNatClampNeg)) * 3) + ((eA h 8 4) ((x12).toNatClampNeg))) * 5) + ((eA h 8 5) ((x12).toNatClampNeg))) < 0 then (f_X3_missOf_r_83 (f_X3_missOf_r_17 n) h x2 x4 x6 x8 x10 x12) else (if 150 ≤ ((((((eA h 8 3) ((x12).toNatClampNeg)) * 3) + ((eA h 8 4) ((x12).toNatClampNeg))) * 5) + ((eA h 8 5) ((x12).toNatClampNeg))) then (f_X3_missOf_r_83 (f_X3_missOf_r_17 n) h x2 x4 x6 x8 x10 x12) else (if 0 ≤ (((((((eA h 8 3) ((x12).toNatClampNeg)) * 3) + ((eA h 8 4) ((x12).toNatClampNeg))) * 5) + ((eA h 8 5) ((x12).toNatClampNeg)))).toInt ∧ (((((((eA h 8 3) ((x12).toNatClampNeg)) * 3) + ((eA h 8 4) ((x12).toNatClampNeg))) * 5) + ((eA h 8 5) ((x12).toNatClampNeg)))).toInt < 150 then (f_X3_missOf_r_85 (f_X3_missOf_r_17 n) h x2 x4 x6 x8 x10 x12 (100 - ((eA h 8 1) ((((((((eA h 8 3) ((x12).toNatClampNeg)) * 3) + ((eA h 8 4) ((x12).toNatClampNeg))) * 5) + ((eA h 8 5) ((x12).toNatClampNeg)))).toNatClampNeg)))) else none))) else none) else none) else none))) := rfl
def f_X3_missOf_r (h : HS) : Option (Int64 × HS) := (f_X3_missOf_r_17 8589934592 h 1 1 1 1 1 0)
set_option maxHeartbeats 4000000 in
set_option maxRecDepth 100000 in
theorem c_X3_missOf_r (l : Launch) (G : va_G) (cI cJ cZ cB cT : ClassId) (q : Nat → Nat) (h : HS)  (rr : Int64) (hh : HS) (hF : f_X3_missOf_r h = some (rr, hh)) : gMl l yX3_missOf (gws yX3_missOf cX3_missOf 15 (some .long)) 1 G (gT cI cJ cZ cB cT) [.ref (q 23), .ref (q 25)] (wC q cI cJ cZ cB cT h) (fun x (_ : Unit) => x = rr) (fun (_ : Unit) => (wC q cI cJ cZ cB cT hh)) := by
  intro sz
  refine gM_start (y := yX3_missOf) (av := [.ref (q 23), .ref (q 25)]) (ws := (wC q cI cJ cZ cB cT h)) (Qf := fun A => va_Ql (fun x (_ : Unit) => x = rr) (gB G (fun (_ : Unit) => (wC q cI cJ cZ cB cT hh)) A) A) (cc := cX3_missOf) (maxL := 15) (ret := (some .long)) (by decide) (Nat.le_of_ble_eq_true rfl) ?_
  intro p e s m args below meth c A ls H hx hb hr hts hown hin hlocks hml hP hK hD hA hS hl hE
  have hl : lv_has ls 15 [(0, .ref (q 23)), (1, .ref (q 25))] := hl
  have hJ_158 : ∀ (h : HS) (x2 : Int64) (x4 : Int64) (x6 : Int64) (x8 : Int64) (x10 : Int64), f_X3_missOf_r_158 h x2 x4 x6 x8 x10 = some (rr, hh) → ∀ (H : Heap) (locs : List Loc) (ls : Array Slot), va_P G vwCl (wC q cI cJ cZ cB cT h) H → va_D A (wC q cI cJ cZ cB cT h) → va_S A s.heap H locs → lv_has ls 15 [(2, .long x2), (4, .long x4), (6, .long x6), (8, .long x8), (10, .long x10)] → W p l e (gRm 1) s m args below meth c H locs 0 0 (MQ below (va_Ql (fun x (_ : Unit) => x = rr) (gB G (fun (_ : Unit) => (wC q cI cJ cZ cB cT hh)) A) A) args s 0 0 A) (F0 m 158 ls []) := by
    intro h x2 x4 x6 x8 x10 hF H locs ls hP hD hS hl
    unfold f_X3_missOf_r_158 at hF
    refine lv_lload_n hx hb dX3_missOf_158 rfl (lv_at hl 0 rfl) ?_
    refine lv_lload hx hb dX3_missOf_159 (lv_at hl 2 rfl) ?_
    refine lv_lload hx hb dX3_missOf_161 (lv_at hl 4 rfl) ?_
    refine lv_lmul hx hb dX3_missOf_163 ?_
    refine lv_lload hx hb dX3_missOf_164 (lv_at hl 2 rfl) ?_
    refine lv_lload hx hb dX3_missOf_166 (lv_at hl 1 rfl) ?_
    refine lv_lsub hx hb dX3_missOf_168 ?_
    refine lv_lload hx hb dX3_missOf_169 (lv_at hl 4 rfl) ?_
    refine lv_lload hx hb dX3_missOf_171 (lv_at hl 3 rfl) ?_
    refine lv_lsub hx hb dX3_missOf_173 ?_
    refine lv_lmul hx hb dX3_missOf_174 ?_
    refine lv_lsub hx hb dX3_missOf_175 ?_
    refine lv_lmul hx hb dX3_missOf_176 ?_
    obtain ⟨rfl, rfl⟩ := ob_pair hF
    exact gw_lret () hx hb hr hlocks hP hD hS rfl dX3_missOf_177
  have hJ_17 : ∀ (n_17 : Nat) (h : HS) (x2 : Int64) (x4 : Int64) (x6 : Int64) (x8 : Int64) (x10 : Int64) (x12 : Int32), f_X3_missOf_r_17 n_17 h x2 x4 x6 x8 x10 x12 = some (rr, hh) → ∀ (H : Heap) (locs : List Loc) (ls : Array Slot), va_P G vwCl (wC q cI cJ cZ cB cT h) H → va_D A (wC q cI cJ cZ cB cT h) → va_S A s.heap H locs → lv_has ls 15 [(0, .ref (q 23)), (1, .ref (q 25)), (2, .long x2), (4, .long x4), (6, .long x6), (8, .long x8), (10, .long x10), (12, .int x12)] → W p l e (gRm 1) s m args below meth c H locs 0 0 (MQ below (va_Ql (fun x (_ : Unit) => x = rr) (gB G (fun (_ : Unit) => (wC q cI cJ cZ cB cT hh)) A) A) args s 0 0 A) (F0 m 17 ls []) := by
    intro n_17
    induction n_17 with
    | zero =>
      intro h x2 x4 x6 x8 x10 x12 hF
      exact absurd hF (by simp [f_X3_missOf_r_17])
    | succ n_17 ih_17 =>
      have hJ_152 : ∀ (h : HS) (x2 : Int64) (x4 : Int64) (x6 : Int64) (x8 : Int64) (x10 : Int64) (x12 : Int32), f_X3_missOf_r_152 (f_X3_missOf_r_17 n_17) h x2 x4 x6 x8 x10 x12 = some (rr, hh) → ∀ (H : Heap) (locs : List Loc) (ls : Array Slot), va_P G vwCl (wC q cI cJ cZ cB cT h) H → va_D A (wC q cI cJ cZ cB cT h) → va_S A s.heap H locs → lv_has ls 15 [(0, .ref (q 23)), (1, .ref (q 25)), (2, .long x2), (4, .long x4), (6, .long x6), (8, .long x8), (10, .long x10), (12, .int x12)] → W p l e (gRm 1) s m args below meth c H locs 0 0 (MQ below (va_Ql (fun x (_ : Unit) => x = rr) (gB G (fun (_ : Unit) => (wC q cI cJ cZ cB cT hh)) A) A) args s 0 0 A) (F0 m 152 ls []) := by
        intro h x2 x4 x6 x8 x10 x12 hF H locs ls hP hD hS hl
        unfold f_X3_missOf_r_152 at hF
        refine lv_iinc (v := (x12 + 1)) (lv' := [(12, .int (x12 + 1)), (0, .ref (q 23)), (1, .ref (q 25)), (2, .long x2), (4, .long x4), (6, .long x6), (8, .long x8), (10, .long x10)]) hx hb dX3_missOf_152 hl (k := 7) rfl rfl (by decide) rfl (fun ls hl => ?_)
        refine lv_goto (tgt := 17) hx hb dX3_missOf_155 (by decide) ?_
        exact ih_17 h x2 x4 x6 x8 x10 (x12 + 1) hF H _ ls hP hD hS (lv_sub hl [1, 2, 3, 4, 5, 6, 7, 0] rfl)
      have hJ_85 : ∀ (h : HS) (x2 : Int64) (x4 : Int64) (x6 : Int64) (x8 : Int64) (x10 : Int64) (x12 : Int32) (y0 : Int32), f_X3_missOf_r_85 (f_X3_missOf_r_17 n_17) h x2 x4 x6 x8 x10 x12 y0 = some (rr, hh) → ∀ (H : Heap) (locs : List Loc) (ls : Array Slot), va_P G vwCl (wC q cI cJ cZ cB cT h) H → va_D A (wC q cI cJ cZ cB cT h) → va_S A s.heap H locs → lv_has ls 15 [(0, .ref (q 23)), (1, .ref (q 25)), (2, .long x2), (4, .long x4), (6, .long x6), (8, .long x8), (10, .long x10), (12, .int x12)] → W p l e (gRm 1) s m args below meth c H locs 0 0 (MQ below (va_Ql (fun x (_ : Unit) => x = rr) (gB G (fun (_ : Unit) => (wC q cI cJ cZ cB cT hh)) A) A) args s 0 0 A) (F0 m 85 ls [.int y0]) := by
        intro h x2 x4 x6 x8 x10 x12 y0 hF H locs ls hP hD hS hl
        unfold f_X3_missOf_r_85 at hF
        refine lv_istore (lv' := [(14, .int y0), (0, .ref (q 23)), (1, .ref (q 25)), (2, .long x2), (4, .long x4), (6, .long x6), (8, .long x8), (10, .long x10), (12, .int x12)]) hx hb dX3_missOf_85 hl (by decide) rfl (fun ls hl => ?_)
        refine lv_aload_n hx hb dX3_missOf_87 rfl (lv_at hl 1 rfl) ?_
        refine va_get (D := G) (ci := 3) (v := .ref (q 28)) (C := RX3) (T := TX3) (N := 16) hx hb hts iX3 hown hK hP 23 wC_at23 rfl 4 (by decide) (hts _ m_480) (fun _ h9 => h9) rfl dX3_missOf_88 ?_
        refine lv_iload hx hb dX3_missOf_91 (lv_at hl 8 rfl) ?_
        obtain ⟨hi_9, hF⟩ := ob_if hF
        refine va_iald (D := G) hx hb hK hP 28 0 wC_at28 rfl (vp_in_iff.mpr hi_9) dX3_missOf_93 ?_
        refine gw_topi (y := ((eA h 8 4) ((x12).toNatClampNeg))) rfl ?_
        refine lv_if_ne (tgt := 106) hx hb dX3_missOf_94 (by decide) (fun c_10 => ?_) (fun c_10 => ?_)
        · have hF := ob_neg c_10 hF
          refine lv_aload_n hx hb dX3_missOf_106 rfl (lv_at hl 1 rfl) ?_
          refine va_get (D := G) (ci := 3) (v := .ref (q 28)) (C := RX3) (T := TX3) (N := 16) hx hb hts iX3 hown hK hP 23 wC_at23 rfl 4 (by decide) (hts _ m_480) (fun _ h9 => h9) rfl dX3_missOf_107 ?_
          refine lv_iload hx hb dX3_missOf_110 (lv_at hl 8 rfl) ?_
          obtain ⟨hi_11, hF⟩ := ob_if hF
          refine va_iald (D := G) hx hb hK hP 28 0 wC_at28 rfl (vp_in_iff.mpr hi_11) dX3_missOf_112 ?_
          refine gw_topi (y := ((eA h 8 4) ((x12).toNatClampNeg))) rfl ?_
          refine lv_iconst (v := 1) hx hb dX3_missOf_113 (by decide) ?_
          refine lv_icmp_ne (tgt := 136) hx hb dX3_missOf_114 (by decide) (fun c_12 => ?_) (fun c_12 => ?_)
          · have hF := ob_neg c_12 hF
            refine lv_lload hx hb dX3_missOf_136 (lv_at hl 6 rfl) ?_
            refine lv_iload hx hb dX3_missOf_138 (lv_at hl 0 rfl) ?_
            refine lv_i2l (v := (y0).toInt64) hx hb dX3_missOf_140 rfl ?_
            refine lv_lmul hx hb dX3_missOf_141 ?_
            refine lv_lstore (lv' := [(8, .long (x8 * ((y0).toInt64))), (14, .int y0), (0, .ref (q 23)), (1, .ref (q 25)), (2, .long x2), (4, .long x4), (6, .long x6), (10, .long x10), (12, .int x12)]) hx hb dX3_missOf_142 hl (by decide) rfl (fun ls hl => ?_)
            refine lv_lload hx hb dX3_missOf_144 (lv_at hl 7 rfl) ?_
            refine lv_ldc2 (v := 100) hx hb hown (hts _ m_469) dX3_missOf_146 ?_
            refine lv_lmul hx hb dX3_missOf_149 ?_
            refine lv_lstore (lv' := [(10, .long (x10 * 100)), (8, .long (x8 * ((y0).toInt64))), (14, .int y0), (0, .ref (q 23)), (1, .ref (q 25)), (2, .long x2), (4, .long x4), (6, .long x6), (12, .int x12)]) hx hb dX3_missOf_150 hl (by decide) rfl (fun ls hl => ?_)
            exact hJ_152 h x2 x4 x6 (x8 * ((y0).toInt64)) (x10 * 100) x12 hF H _ ls hP hD hS (lv_sub hl [3, 4, 5, 6, 7, 1, 0, 8] rfl)
          · have hF := ob_pos c_12 hF
            refine lv_lload hx hb dX3_missOf_117 (lv_at hl 4 rfl) ?_
            refine lv_iload hx hb dX3_missOf_119 (lv_at hl 0 rfl) ?_
            refine lv_i2l (v := (y0).toInt64) hx hb dX3_missOf_121 rfl ?_
            refine lv_lmul hx hb dX3_missOf_122 ?_
            refine lv_lstore (lv' := [(4, .long (x4 * ((y0).toInt64))), (14, .int y0), (0, .ref (q 23)), (1, .ref (q 25)), (2, .long x2), (6, .long x6), (8, .long x8), (10, .long x10), (12, .int x12)]) hx hb dX3_missOf_123 hl (by decide) rfl (fun ls hl => ?_)
            refine lv_lload hx hb dX3_missOf_125 (lv_at hl 5 rfl) ?_
            refine lv_ldc2 (v := 100) hx hb hown (hts _ m_469) dX3_missOf_127 ?_
            refine lv_lmul hx hb dX3_missOf_130 ?_
            refine lv_lstore (lv' := [(6, .long (x6 * 100)), (4, .long (x4 * ((y0).toInt64))), (14, .int y0), (0, .ref (q 23)), (1, .ref (q 25)), (2, .long x2), (8, .long x8), (10, .long x10), (12, .int x12)]) hx hb dX3_missOf_131 hl (by decide) rfl (fun ls hl => ?_)
            refine lv_goto (tgt := 152) hx hb dX3_missOf_133 (by decide) ?_
            exact hJ_152 h x2 (x4 * ((y0).toInt64)) (x6 * 100) x8 x10 x12 hF H _ ls hP hD hS (lv_sub hl [3, 4, 5, 1, 0, 6, 7, 8] rfl)
        · have hF := ob_pos c_10 hF
          refine lv_lload_n hx hb dX3_missOf_97 rfl (lv_at hl 3 rfl) ?_
          refine lv_iload hx hb dX3_missOf_98 (lv_at hl 0 rfl) ?_
          refine lv_i2l (v := (y0).toInt64) hx hb dX3_missOf_100 rfl ?_
          refine lv_lmul hx hb dX3_missOf_101 ?_
          refine lv_lstore_n (lv' := [(2, .long (x2 * ((y0).toInt64))), (14, .int y0), (0, .ref (q 23)), (1, .ref (q 25)), (4, .long x4), (6, .long x6), (8, .long x8), (10, .long x10), (12, .int x12)]) hx hb dX3_missOf_102 rfl hl (by decide) rfl (fun ls hl => ?_)
          refine lv_goto (tgt := 152) hx hb dX3_missOf_103 (by decide) ?_
          exact hJ_152 h (x2 * ((y0).toInt64)) x4 x6 x8 x10 x12 hF H _ ls hP hD hS (lv_sub hl [2, 3, 0, 4, 5, 6, 7, 8] rfl)
      have hJ_83 : ∀ (h : HS) (x2 : Int64) (x4 : Int64) (x6 : Int64) (x8 : Int64) (x10 : Int64) (x12 : Int32), f_X3_missOf_r_83 (f_X3_missOf_r_17 n_17) h x2 x4 x6 x8 x10 x12 = some (rr, hh) → ∀ (H : Heap) (locs : List Loc) (ls : Array Slot), va_P G vwCl (wC q cI cJ cZ cB cT h) H → va_D A (wC q cI cJ cZ cB cT h) → va_S A s.heap H locs → lv_has ls 15 [(0, .ref (q 23)), (1, .ref (q 25)), (2, .long x2), (4, .long x4), (6, .long x6), (8, .long x8), (10, .long x10), (12, .int x12)] → W p l e (gRm 1) s m args below meth c H locs 0 0 (MQ below (va_Ql (fun x (_ : Unit) => x = rr) (gB G (fun (_ : Unit) => (wC q cI cJ cZ cB cT hh)) A) A) args s 0 0 A) (F0 m 83 ls []) := by
        intro h x2 x4 x6 x8 x10 x12 hF H locs ls hP hD hS hl
        unfold f_X3_missOf_r_83 at hF
        refine lv_bipush (v := 100) hx hb dX3_missOf_83 (by decide) ?_
        exact hJ_85 h x2 x4 x6 x8 x10 x12 100 hF H _ ls hP hD hS (lv_sub hl [0, 1, 2, 3, 4, 5, 6, 7] rfl)
      intro h x2 x4 x6 x8 x10 x12 hF H locs ls hP hD hS hl
      rw [f_X3_missOf_r_17_s] at hF
      refine lv_iload hx hb dX3_missOf_17 (lv_at hl 7 rfl) ?_
      refine lv_aload_n hx hb dX3_missOf_19 rfl (lv_at hl 0 rfl) ?_
      refine va_get (D := G) (ci := 3) (v := .int (eI h 8 8)) (C := RX3) (T := TX3) (N := 16) hx hb hts iX3 hown hK hP 23 wC_at23 rfl 8 (by decide) (hts _ m_475) (fun _ h9 => h9) rfl dX3_missOf_20 ?_
      refine lv_icmp_ge (tgt := 158) hx hb dX3_missOf_23 (by decide) (fun c_1 => ?_) (fun c_1 => ?_)
      · have hF := ob_pos c_1 hF
        exact hJ_158 h x2 x4 x6 x8 x10 hF H _ ls hP hD hS (lv_sub hl [2, 3, 4, 5, 6] rfl)
      · have hF := ob_neg c_1 hF
        refine lv_iload hx hb dX3_missOf_26 (lv_at hl 7 rfl) ?_
        refine lv_iconst (v := 3) hx hb dX3_missOf_28 (by decide) ?_
        refine lv_icmp_ge (tgt := 158) hx hb dX3_missOf_29 (by decide) (fun c_2 => ?_) (fun c_2 => ?_)
        · have hF := ob_pos c_2 hF
          exact hJ_158 h x2 x4 x6 x8 x10 hF H _ ls hP hD hS (lv_sub hl [2, 3, 4, 5, 6] rfl)
        · have hF := ob_neg c_2 hF
          refine lv_aload_n hx hb dX3_missOf_32 rfl (lv_at hl 0 rfl) ?_
          refine va_get (D := G) (ci := 3) (v := .ref (q 27)) (C := RX3) (T := TX3) (N := 16) hx hb hts iX3 hown hK hP 23 wC_at23 rfl 3 (by decide) (hts _ m_477) (fun _ h9 => h9) rfl dX3_missOf_33 ?_
          refine lv_iload hx hb dX3_missOf_36 (lv_at hl 7 rfl) ?_
          obtain ⟨hi_3, hF⟩ := ob_if hF
          refine va_iald (D := G) hx hb hK hP 27 0 wC_at27 rfl (vp_in_iff.mpr hi_3) dX3_missOf_38 ?_
          refine gw_topi (y := ((eA h 8 3) ((x12).toNatClampNeg))) rfl ?_
          refine lv_iconst (v := 3) hx hb dX3_missOf_39 (by decide) ?_
          refine lv_imul hx hb dX3_missOf_40 ?_
          refine lv_aload_n hx hb dX3_missOf_41 rfl (lv_at hl 0 rfl) ?_
          refine va_get (D := G) (ci := 3) (v := .ref (q 28)) (C := RX3) (T := TX3) (N := 16) hx hb hts iX3 hown hK hP 23 wC_at23 rfl 4 (by decide) (hts _ m_480) (fun _ h9 => h9) rfl dX3_missOf_42 ?_
          refine lv_iload hx hb dX3_missOf_45 (lv_at hl 7 rfl) ?_
          obtain ⟨hi_4, hF⟩ := ob_if hF
          refine va_iald (D := G) hx hb hK hP 28 0 wC_at28 rfl (vp_in_iff.mpr hi_4) dX3_missOf_47 ?_
          refine gw_topi (y := ((eA h 8 4) ((x12).toNatClampNeg))) rfl ?_
          refine lv_iadd hx hb dX3_missOf_48 ?_
          refine lv_iconst (v := 5) hx hb dX3_missOf_49 (by decide) ?_
          refine lv_imul hx hb dX3_missOf_50 ?_
          refine lv_aload_n hx hb dX3_missOf_51 rfl (lv_at hl 0 rfl) ?_
          refine va_get (D := G) (ci := 3) (v := .ref (q 29)) (C := RX3) (T := TX3) (N := 16) hx hb hts iX3 hown hK hP 23 wC_at23 rfl 5 (by decide) (hts _ m_479) (fun _ h9 => h9) rfl dX3_missOf_52 ?_
          refine lv_iload hx hb dX3_missOf_55 (lv_at hl 7 rfl) ?_
          obtain ⟨hi_5, hF⟩ := ob_if hF
          refine va_iald (D := G) hx hb hK hP 29 0 wC_at29 rfl (vp_in_iff.mpr hi_5) dX3_missOf_57 ?_
          refine gw_topi (y := ((eA h 8 5) ((x12).toNatClampNeg))) rfl ?_
          refine lv_iadd hx hb dX3_missOf_58 ?_
          refine lv_istore (lv' := [(13, .int ((((((eA h 8 3) ((x12).toNatClampNeg)) * 3) + ((eA h 8 4) ((x12).toNatClampNeg))) * 5) + ((eA h 8 5) ((x12).toNatClampNeg)))), (0, .ref (q 23)), (1, .ref (q 25)), (2, .long x2), (4, .long x4), (6, .long x6), (8, .long x8), (10, .long x10), (12, .int x12)]) hx hb dX3_missOf_59 hl (by decide) rfl (fun ls hl => ?_)
          refine lv_iload hx hb dX3_missOf_61 (lv_at hl 0 rfl) ?_
          refine lv_if_lt (tgt := 83) hx hb dX3_missOf_63 (by decide) (fun c_6 => ?_) (fun c_6 => ?_)
          · have hF := ob_pos c_6 hF
            exact hJ_83 h x2 x4 x6 x8 x10 x12 hF H _ ls hP hD hS (lv_sub hl [1, 2, 3, 4, 5, 6, 7, 8] rfl)
          · have hF := ob_neg c_6 hF
            refine lv_iload hx hb dX3_missOf_66 (lv_at hl 0 rfl) ?_
            refine lv_aload_n hx hb dX3_missOf_68 rfl (lv_at hl 2 rfl) ?_
            refine va_alen (D := G) hx hb hK hP 25 0 wC_at25 rfl (v := 150) rfl dX3_missOf_69 ?_
            refine lv_icmp_ge (tgt := 83) hx hb dX3_missOf_70 (by decide) (fun c_7 => ?_) (fun c_7 => ?_)
            · have hF := ob_pos c_7 hF
              exact hJ_83 h x2 x4 x6 x8 x10 x12 hF H _ ls hP hD hS (lv_sub hl [1, 2, 3, 4, 5, 6, 7, 8] rfl)
            · have hF := ob_neg c_7 hF
              refine lv_bipush (v := 100) hx hb dX3_missOf_73 (by decide) ?_
              refine lv_aload_n hx hb dX3_missOf_75 rfl (lv_at hl 2 rfl) ?_
              refine lv_iload hx hb dX3_missOf_76 (lv_at hl 0 rfl) ?_
              obtain ⟨hi_8, hF⟩ := ob_if hF
              refine va_iald (D := G) hx hb hK hP 25 0 wC_at25 rfl (vp_in_iff.mpr hi_8) dX3_missOf_78 ?_
              refine gw_topi (y := ((eA h 8 1) ((((((((eA h 8 3) ((x12).toNatClampNeg)) * 3) + ((eA h 8 4) ((x12).toNatClampNeg))) * 5) + ((eA h 8 5) ((x12).toNatClampNeg)))).toNatClampNeg))) rfl ?_
              refine lv_isub hx hb dX3_missOf_79 ?_
              refine lv_goto (tgt := 85) hx hb dX3_missOf_80 (by decide) ?_
              exact hJ_85 h x2 x4 x6 x8 x10 x12 (100 - ((eA h 8 1) ((((((((eA h 8 3) ((x12).toNatClampNeg)) * 3) + ((eA h 8 4) ((x12).toNatClampNeg))) * 5) + ((eA h 8 5) ((x12).toNatClampNeg)))).toNatClampNeg))) hF H _ ls hP hD hS (lv_sub hl [1, 2, 3, 4, 5, 6, 7, 8] rfl)
  unfold f_X3_missOf_r at hF
  refine lv_lconst (v := 1) hx hb dX3_missOf_0 (by decide) ?_
  refine lv_lstore_n (lv' := [(2, .long 1), (0, .ref (q 23)), (1, .ref (q 25))]) hx hb dX3_missOf_1 rfl hl (by decide) rfl (fun ls hl => ?_)
  refine lv_lconst (v := 1) hx hb dX3_missOf_2 (by decide) ?_
  refine lv_lstore (lv' := [(4, .long 1), (2, .long 1), (0, .ref (q 23)), (1, .ref (q 25))]) hx hb dX3_missOf_3 hl (by decide) rfl (fun ls hl => ?_)
  refine lv_lconst (v := 1) hx hb dX3_missOf_5 (by decide) ?_
  refine lv_lstore (lv' := [(6, .long 1), (4, .long 1), (2, .long 1), (0, .ref (q 23)), (1, .ref (q 25))]) hx hb dX3_missOf_6 hl (by decide) rfl (fun ls hl => ?_)
  refine lv_lconst (v := 1) hx hb dX3_missOf_8 (by decide) ?_
  refine lv_lstore (lv' := [(8, .long 1), (6, .long 1), (4, .long 1), (2, .long 1), (0, .ref (q 23)), (1, .ref (q 25))]) hx hb dX3_missOf_9 hl (by decide) rfl (fun ls hl => ?_)
  refine lv_lconst (v := 1) hx hb dX3_missOf_11 (by decide) ?_
  refine lv_lstore (lv' := [(10, .long 1), (8, .long 1), (6, .long 1), (4, .long 1), (2, .long 1), (0, .ref (q 23)), (1, .ref (q 25))]) hx hb dX3_missOf_12 hl (by decide) rfl (fun ls hl => ?_)
  refine lv_iconst (v := 0) hx hb dX3_missOf_14 (by decide) ?_
  refine lv_istore (lv' := [(12, .int 0), (10, .long 1), (8, .long 1), (6, .long 1), (4, .long 1), (2, .long 1), (0, .ref (q 23)), (1, .ref (q 25))]) hx hb dX3_missOf_15 hl (by decide) rfl (fun ls hl => ?_)
  exact hJ_17 8589934592 h 1 1 1 1 1 0 hF H _ ls hP hD hS (lv_sub hl [6, 7, 5, 4, 3, 2, 1, 0] rfl)
def f_X3_compare_113 (h : HS) : Option HS := (some h)
def f_X3_compare_107 (h : HS) (x1 : Int64) (x3 : Int32) : Option HS := (ob1 (f_X3_keep h x1 x3) (fun h_14 => (f_X3_compare_113 h_14)))
def f_X3_compare_75 (h : HS) (x1 : Int64) (x3 : Int32) : Option HS := (ob2 (f_X3_isBetter h x1) (fun r_9 h_9 => (if r_9 = 0 then (if (eI h_9 8 13) = 0 then (f_X3_compare_113 h_9) else (if (lg_cmp x1 (eL h_9 8 14)) = 0 then (if (eI h_9 8 15) ≤ x3 then (f_X3_compare_113 h_9) else (f_X3_compare_107 h_9 x1 x3)) else (f_X3_compare_113 h_9))) else (f_X3_compare_107 h_9 x1 x3))))
def f_X3_compare_30 : Nat → HS → Int64 → Int32 → Int32 → Option HS
  | 0, _, _, _, _ => none
  | n + 1, h, x1, x3, x4 => (if (eI h 8 8) ≤ x4 then (f_X3_compare_75 h x1 x3) else (if 3 ≤ x4 then (f_X3_compare_75 h x1 x3) else (if 0 ≤ (x4).toInt ∧ (x4).toInt < 3 then (if 0 ≤ (x4).toInt ∧ (x4).toInt < 3 then ((f_X3_compare_30 n) h x1 (((x3 * 100) + (((eA h 8 5) ((x4).toNatClampNeg)) * 10)) + ((eA h 8 4) ((x4).toNatClampNeg))) (x4 + 1)) else none) else none)))
theorem f_X3_compare_30_s (n : Nat) (h : HS) (x1 : Int64) (x3 : Int32) (x4 : Int32) : f_X3_compare_30 (n + 1) h x1 x3 x4 = (if (eI h 8 8) ≤ x4 then (f_X3_compare_75 h x1 x3) else (if 3 ≤ x4 then (f_X3_compare_75 h x1 x3) else (if 0 ≤ (x4).toInt ∧ (x4).toInt < 3 then (if 0 ≤ (x4).toInt ∧ (x4).toInt < 3 then ((f_X3_compare_30 n) h x1 (((x3 * 100) + (((eA h 8 5) ((x4).toNatClampNeg)) * 10)) + ((eA h 8 4) ((x4).toNatClampNeg))) (x4 + 1)) else none) else none))) := rfl
def f_X3_compare (h : HS) : Option HS := (ob2 (f_X3_missOf_f h) (fun r_1 h_1 => (ob2 (f_X3_isEnough h_1 r_1) (fun r_2 h_2 => (if r_2 = 0 then (some h_2) else (ob2 (f_X3_missOf_r h_2) (fun r_4 h_4 => (f_X3_compare_30 8589934592 h_4 r_4 0 0))))))))
theorem e_X3_isBetter : yX3_isBetter.cls = RX3 ∧ yX3_isBetter.cls ≠ "java/lang/invoke/MethodHandle" ∧ yX3_isBetter.cls ≠ "java/lang/invoke/VarHandle" ∧ (parseMethodDescriptor yX3_isBetter.desc).map (fun d => d.parameters.length) = some 1 := by decide +kernel
theorem e_X3_isEnough : yX3_isEnough.cls = RX3 ∧ yX3_isEnough.cls ≠ "java/lang/invoke/MethodHandle" ∧ yX3_isEnough.cls ≠ "java/lang/invoke/VarHandle" ∧ (parseMethodDescriptor yX3_isEnough.desc).map (fun d => d.parameters.length) = some 1 := by decide +kernel
theorem e_X3_keep : yX3_keep.cls = RX3 ∧ yX3_keep.cls ≠ "java/lang/invoke/MethodHandle" ∧ yX3_keep.cls ≠ "java/lang/invoke/VarHandle" ∧ (parseMethodDescriptor yX3_keep.desc).map (fun d => d.parameters.length) = some 2 := by decide +kernel
theorem e_X3_missOf : yX3_missOf.cls = RX3 ∧ yX3_missOf.cls ≠ "java/lang/invoke/MethodHandle" ∧ yX3_missOf.cls ≠ "java/lang/invoke/VarHandle" ∧ (parseMethodDescriptor yX3_missOf.desc).map (fun d => d.parameters.length) = some 1 := by decide +kernel
set_option maxHeartbeats 4000000 in
set_option maxRecDepth 100000 in
theorem c_X3_compare (l : Launch) (G : va_G) (cI cJ cZ cB cT : ClassId) (q : Nat → Nat) (h : HS)  (hh : HS) (hF : f_X3_compare h = some hh) : gMv l yX3_compare (gws yX3_compare cX3_compare 5 none) 2 G (gT cI cJ cZ cB cT) [.ref (q 23)] (wC q cI cJ cZ cB cT h) (fun (_ : Unit) => True) (fun (_ : Unit) => (wC q cI cJ cZ cB cT hh)) := by
  intro sz
  refine gM_start (y := yX3_compare) (av := [.ref (q 23)]) (ws := (wC q cI cJ cZ cB cT h)) (Qf := fun A => va_Qv (fun (_ : Unit) => True) (gB G (fun (_ : Unit) => (wC q cI cJ cZ cB cT hh)) A) A) (cc := cX3_compare) (maxL := 5) (ret := none) (by decide) (Nat.le_of_ble_eq_true rfl) ?_
  intro p e s m args below meth c A ls H hx hb hr hts hown hin hlocks hml hP hK hD hA hS hl hE
  have hl : lv_has ls 5 [(0, .ref (q 23))] := hl
  have hJ_113 : ∀ (h : HS), f_X3_compare_113 h = some hh → ∀ (H : Heap) (locs : List Loc) (ls : Array Slot), va_P G vwCl (wC q cI cJ cZ cB cT h) H → va_D A (wC q cI cJ cZ cB cT h) → va_S A s.heap H locs → lv_has ls 5 [] → W p l e (gRm 2) s m args below meth c H locs 0 0 (MQ below (va_Qv (fun (_ : Unit) => True) (gB G (fun (_ : Unit) => (wC q cI cJ cZ cB cT hh)) A) A) args s 0 0 A) (F0 m 113 ls []) := by
    intro h hF H locs ls hP hD hS hl
    unfold f_X3_compare_113 at hF
    obtain rfl := ob_one hF
    exact gw_vret () hx hb hr hlocks hP hD hS trivial dX3_compare_113
  have hJ_107 : ∀ (h : HS) (x1 : Int64) (x3 : Int32), f_X3_compare_107 h x1 x3 = some hh → ∀ (H : Heap) (locs : List Loc) (ls : Array Slot), va_P G vwCl (wC q cI cJ cZ cB cT h) H → va_D A (wC q cI cJ cZ cB cT h) → va_S A s.heap H locs → lv_has ls 5 [(0, .ref (q 23)), (1, .long x1), (3, .int x3)] → W p l e (gRm 2) s m args below meth c H locs 0 0 (MQ below (va_Qv (fun (_ : Unit) => True) (gB G (fun (_ : Unit) => (wC q cI cJ cZ cB cT hh)) A) A) args s 0 0 A) (F0 m 107 ls []) := by
    intro h x1 x3 hF H locs ls hP hD hS hl
    unfold f_X3_compare_107 at hF
    refine lv_aload_n hx hb dX3_compare_107 rfl (lv_at hl 0 rfl) ?_
    refine lv_lload_n hx hb dX3_compare_108 rfl (lv_at hl 1 rfl) ?_
    refine lv_iload_n hx hb dX3_compare_109 rfl (lv_at hl 2 rfl) ?_
    obtain ⟨h_14, e_14, hF⟩ := ob1_some hF
    refine gx_callv (gx_runV (As := [.long x1, .int x3]) (rest := []) ⟨hx, hb, hml, hown, hts⟩ (c_X3_keep l G cI cJ cZ cB cT q h x1 x3 h_14 e_14 H.size) (gG_V m_497 m_498 m_499 m_486 m_496) rfl e_X3_keep ⟨Nat.le_of_ble_eq_true rfl, Nat.le_of_ble_eq_true rfl⟩ hK hP hD hE hS hA 23 wC_at23 rfl rfl hl.1 rfl (Nat.le_of_ble_eq_true rfl) dX3_compare_110 ⟨Nat.le_refl _, Nat.le_refl _⟩) hP hD hS hA (fun u_14 H locs hw_14 hP hD hS => ?_)
    exact hJ_113 h_14 hF H _ ls hP hD hS (lv_sub hl [] rfl)
  have hJ_75 : ∀ (h : HS) (x1 : Int64) (x3 : Int32), f_X3_compare_75 h x1 x3 = some hh → ∀ (H : Heap) (locs : List Loc) (ls : Array Slot), va_P G vwCl (wC q cI cJ cZ cB cT h) H → va_D A (wC q cI cJ cZ cB cT h) → va_S A s.heap H locs → lv_has ls 5 [(0, .ref (q 23)), (1, .long x1), (3, .int x3)] → W p l e (gRm 2) s m args below meth c H locs 0 0 (MQ below (va_Qv (fun (_ : Unit) => True) (gB G (fun (_ : Unit) => (wC q cI cJ cZ cB cT hh)) A) A) args s 0 0 A) (F0 m 75 ls []) := by
    intro h x1 x3 hF H locs ls hP hD hS hl
    unfold f_X3_compare_75 at hF
    refine lv_aload_n hx hb dX3_compare_75 rfl (lv_at hl 0 rfl) ?_
    refine lv_lload_n hx hb dX3_compare_76 rfl (lv_at hl 1 rfl) ?_
    obtain ⟨r_9, h_9, e_9, hF⟩ := ob2_some hF
    refine gx_calli (gx_runV (As := [.long x1]) (rest := []) ⟨hx, hb, hml, hown, hts⟩ (c_X3_isBetter l G cI cJ cZ cB cT q h x1 r_9 h_9 e_9 H.size) (gG_V m_493 m_494 m_495 m_486 m_492) rfl e_X3_isBetter ⟨Nat.le_of_ble_eq_true rfl, Nat.le_of_ble_eq_true rfl⟩ hK hP hD hE hS hA 23 wC_at23 rfl rfl hl.1 rfl (Nat.le_of_ble_eq_true rfl) dX3_compare_77 ⟨Nat.le_refl _, Nat.le_refl _⟩) hP hD hS hA (fun x_9 u_9 H locs hw_9 hP hD hS => ?_)
    subst x_9
    refine lv_if_ne (tgt := 107) hx hb dX3_compare_80 (by decide) (fun c_10 => ?_) (fun c_10 => ?_)
    · have hF := ob_neg c_10 hF
      exact hJ_107 h_9 x1 x3 hF H _ ls hP hD hS (lv_sub hl [0, 1, 2] rfl)
    · have hF := ob_pos c_10 hF
      refine lv_aload_n hx hb dX3_compare_83 rfl (lv_at hl 0 rfl) ?_
      refine va_get (D := G) (ci := 3) (v := .int (eI h_9 8 13)) (C := RX3) (T := TX3) (N := 16) hx hb hts iX3 hown hK hP 23 wC_at23 rfl 13 (by decide) (hts _ m_473) (fun _ h9 => h9) rfl dX3_compare_84 ?_
      refine lv_if_eq (tgt := 113) hx hb dX3_compare_87 (by decide) (fun c_11 => ?_) (fun c_11 => ?_)
      · have hF := ob_pos c_11 hF
        exact hJ_113 h_9 hF H _ ls hP hD hS (lv_sub hl [] rfl)
      · have hF := ob_neg c_11 hF
        refine lv_lload_n hx hb dX3_compare_90 rfl (lv_at hl 1 rfl) ?_
        refine lv_aload_n hx hb dX3_compare_91 rfl (lv_at hl 0 rfl) ?_
        refine va_get (D := G) (ci := 3) (v := .long (eL h_9 8 14)) (C := RX3) (T := TX3) (N := 16) hx hb hts iX3 hown hK hP 23 wC_at23 rfl 14 (by decide) (hts _ m_472) (fun _ h9 => h9) rfl dX3_compare_92 ?_
        refine W.lcmp hx hb dX3_compare_95 ?_
        refine lv_if_ne (tgt := 113) hx hb dX3_compare_96 (by decide) (fun c_12 => ?_) (fun c_12 => ?_)
        · have hF := ob_neg c_12 hF
          exact hJ_113 h_9 hF H _ ls hP hD hS (lv_sub hl [] rfl)
        · have hF := ob_pos c_12 hF
          refine lv_iload_n hx hb dX3_compare_99 rfl (lv_at hl 2 rfl) ?_
          refine lv_aload_n hx hb dX3_compare_100 rfl (lv_at hl 0 rfl) ?_
          refine va_get (D := G) (ci := 3) (v := .int (eI h_9 8 15)) (C := RX3) (T := TX3) (N := 16) hx hb hts iX3 hown hK hP 23 wC_at23 rfl 15 (by decide) (hts _ m_474) (fun _ h9 => h9) rfl dX3_compare_101 ?_
          refine lv_icmp_ge (tgt := 113) hx hb dX3_compare_104 (by decide) (fun c_13 => ?_) (fun c_13 => ?_)
          · have hF := ob_pos c_13 hF
            exact hJ_113 h_9 hF H _ ls hP hD hS (lv_sub hl [] rfl)
          · have hF := ob_neg c_13 hF
            exact hJ_107 h_9 x1 x3 hF H _ ls hP hD hS (lv_sub hl [0, 1, 2] rfl)
  have hJ_30 : ∀ (n_30 : Nat) (h : HS) (x1 : Int64) (x3 : Int32) (x4 : Int32), f_X3_compare_30 n_30 h x1 x3 x4 = some hh → ∀ (H : Heap) (locs : List Loc) (ls : Array Slot), va_P G vwCl (wC q cI cJ cZ cB cT h) H → va_D A (wC q cI cJ cZ cB cT h) → va_S A s.heap H locs → lv_has ls 5 [(0, .ref (q 23)), (1, .long x1), (3, .int x3), (4, .int x4)] → W p l e (gRm 2) s m args below meth c H locs 0 0 (MQ below (va_Qv (fun (_ : Unit) => True) (gB G (fun (_ : Unit) => (wC q cI cJ cZ cB cT hh)) A) A) args s 0 0 A) (F0 m 30 ls []) := by
    intro n_30
    induction n_30 with
    | zero =>
      intro h x1 x3 x4 hF
      exact absurd hF (by simp [f_X3_compare_30])
    | succ n_30 ih_30 =>
      intro h x1 x3 x4 hF H locs ls hP hD hS hl
      rw [f_X3_compare_30_s] at hF
      refine lv_iload hx hb dX3_compare_30 (lv_at hl 3 rfl) ?_
      refine lv_aload_n hx hb dX3_compare_32 rfl (lv_at hl 0 rfl) ?_
      refine va_get (D := G) (ci := 3) (v := .int (eI h 8 8)) (C := RX3) (T := TX3) (N := 16) hx hb hts iX3 hown hK hP 23 wC_at23 rfl 8 (by decide) (hts _ m_475) (fun _ h9 => h9) rfl dX3_compare_33 ?_
      refine lv_icmp_ge (tgt := 75) hx hb dX3_compare_36 (by decide) (fun c_5 => ?_) (fun c_5 => ?_)
      · have hF := ob_pos c_5 hF
        exact hJ_75 h x1 x3 hF H _ ls hP hD hS (lv_sub hl [0, 1, 2] rfl)
      · have hF := ob_neg c_5 hF
        refine lv_iload hx hb dX3_compare_39 (lv_at hl 3 rfl) ?_
        refine lv_iconst (v := 3) hx hb dX3_compare_41 (by decide) ?_
        refine lv_icmp_ge (tgt := 75) hx hb dX3_compare_42 (by decide) (fun c_6 => ?_) (fun c_6 => ?_)
        · have hF := ob_pos c_6 hF
          exact hJ_75 h x1 x3 hF H _ ls hP hD hS (lv_sub hl [0, 1, 2] rfl)
        · have hF := ob_neg c_6 hF
          refine lv_iload_n hx hb dX3_compare_45 rfl (lv_at hl 2 rfl) ?_
          refine lv_bipush (v := 100) hx hb dX3_compare_46 (by decide) ?_
          refine lv_imul hx hb dX3_compare_48 ?_
          refine lv_aload_n hx hb dX3_compare_49 rfl (lv_at hl 0 rfl) ?_
          refine va_get (D := G) (ci := 3) (v := .ref (q 29)) (C := RX3) (T := TX3) (N := 16) hx hb hts iX3 hown hK hP 23 wC_at23 rfl 5 (by decide) (hts _ m_479) (fun _ h9 => h9) rfl dX3_compare_50 ?_
          refine lv_iload hx hb dX3_compare_53 (lv_at hl 3 rfl) ?_
          obtain ⟨hi_7, hF⟩ := ob_if hF
          refine va_iald (D := G) hx hb hK hP 29 0 wC_at29 rfl (vp_in_iff.mpr hi_7) dX3_compare_55 ?_
          refine gw_topi (y := ((eA h 8 5) ((x4).toNatClampNeg))) rfl ?_
          refine lv_bipush (v := 10) hx hb dX3_compare_56 (by decide) ?_
          refine lv_imul hx hb dX3_compare_58 ?_
          refine lv_iadd hx hb dX3_compare_59 ?_
          refine lv_aload_n hx hb dX3_compare_60 rfl (lv_at hl 0 rfl) ?_
          refine va_get (D := G) (ci := 3) (v := .ref (q 28)) (C := RX3) (T := TX3) (N := 16) hx hb hts iX3 hown hK hP 23 wC_at23 rfl 4 (by decide) (hts _ m_480) (fun _ h9 => h9) rfl dX3_compare_61 ?_
          refine lv_iload hx hb dX3_compare_64 (lv_at hl 3 rfl) ?_
          obtain ⟨hi_8, hF⟩ := ob_if hF
          refine va_iald (D := G) hx hb hK hP 28 0 wC_at28 rfl (vp_in_iff.mpr hi_8) dX3_compare_66 ?_
          refine gw_topi (y := ((eA h 8 4) ((x4).toNatClampNeg))) rfl ?_
          refine lv_iadd hx hb dX3_compare_67 ?_
          refine lv_istore_n (lv' := [(3, .int (((x3 * 100) + (((eA h 8 5) ((x4).toNatClampNeg)) * 10)) + ((eA h 8 4) ((x4).toNatClampNeg)))), (0, .ref (q 23)), (1, .long x1), (4, .int x4)]) hx hb dX3_compare_68 rfl hl (by decide) rfl (fun ls hl => ?_)
          refine lv_iinc (v := (x4 + 1)) (lv' := [(4, .int (x4 + 1)), (3, .int (((x3 * 100) + (((eA h 8 5) ((x4).toNatClampNeg)) * 10)) + ((eA h 8 4) ((x4).toNatClampNeg)))), (0, .ref (q 23)), (1, .long x1)]) hx hb dX3_compare_69 hl (k := 3) rfl rfl (by decide) rfl (fun ls hl => ?_)
          refine lv_goto (tgt := 30) hx hb dX3_compare_72 (by decide) ?_
          exact ih_30 h x1 (((x3 * 100) + (((eA h 8 5) ((x4).toNatClampNeg)) * 10)) + ((eA h 8 4) ((x4).toNatClampNeg))) (x4 + 1) hF H _ ls hP hD hS (lv_sub hl [2, 3, 1, 0] rfl)
  unfold f_X3_compare at hF
  refine lv_aload_n hx hb dX3_compare_0 rfl (lv_at hl 0 rfl) ?_
  refine lv_aload_n hx hb dX3_compare_1 rfl (lv_at hl 0 rfl) ?_
  refine lv_aload_n hx hb dX3_compare_2 rfl (lv_at hl 0 rfl) ?_
  refine va_get (D := G) (ci := 3) (v := .ref (q 24)) (C := RX3) (T := TX3) (N := 16) hx hb hts iX3 hown hK hP 23 wC_at23 rfl 0 (by decide) (hts _ m_481) (fun _ h9 => h9) rfl dX3_compare_3 ?_
  obtain ⟨r_1, h_1, e_1, hF⟩ := ob2_some hF
  refine gx_calll (gx_runV (As := [.ref (q 24)]) (rest := [.ref (q 23)]) ⟨hx, hb, hml, hown, hts⟩ (c_X3_missOf_f l G cI cJ cZ cB cT q h  r_1 h_1 e_1 H.size) (gG_V m_483 m_484 m_485 m_486 m_482) rfl e_X3_missOf ⟨Nat.le_of_ble_eq_true rfl, Nat.le_of_ble_eq_true rfl⟩ hK hP hD hE hS hA 23 wC_at23 rfl rfl hl.1 rfl (Nat.le_of_ble_eq_true rfl) dX3_compare_6 ⟨Nat.le_refl _, Nat.le_refl _⟩) hP hD hS hA (fun x_1 u_1 H locs hw_1 hP hD hS => ?_)
  subst x_1
  obtain ⟨r_2, h_2, e_2, hF⟩ := ob2_some hF
  refine gx_calli (gx_runV (As := [.long r_1]) (rest := []) ⟨hx, hb, hml, hown, hts⟩ (c_X3_isEnough l G cI cJ cZ cB cT q h_1 r_1 r_2 h_2 e_2 H.size) (gG_V m_488 m_489 m_490 m_486 m_487) rfl e_X3_isEnough ⟨Nat.le_of_ble_eq_true rfl, Nat.le_of_ble_eq_true rfl⟩ hK hP hD hE hS hA 23 wC_at23 rfl rfl hl.1 rfl (Nat.le_of_ble_eq_true rfl) dX3_compare_9 ⟨Nat.le_refl _, Nat.le_refl _⟩) hP hD hS hA (fun x_2 u_2 H locs hw_2 hP hD hS => ?_)
  subst x_2
  refine lv_if_ne (tgt := 16) hx hb dX3_compare_12 (by decide) (fun c_3 => ?_) (fun c_3 => ?_)
  · have hF := ob_neg c_3 hF
    refine lv_aload_n hx hb dX3_compare_16 rfl (lv_at hl 0 rfl) ?_
    refine lv_aload_n hx hb dX3_compare_17 rfl (lv_at hl 0 rfl) ?_
    refine va_get (D := G) (ci := 3) (v := .ref (q 25)) (C := RX3) (T := TX3) (N := 16) hx hb hts iX3 hown hK hP 23 wC_at23 rfl 1 (by decide) (hts _ m_491) (fun _ h9 => h9) rfl dX3_compare_18 ?_
    obtain ⟨r_4, h_4, e_4, hF⟩ := ob2_some hF
    refine gx_calll (gx_runV (As := [.ref (q 25)]) (rest := []) ⟨hx, hb, hml, hown, hts⟩ (c_X3_missOf_r l G cI cJ cZ cB cT q h_2  r_4 h_4 e_4 H.size) (gG_V m_483 m_484 m_485 m_486 m_482) rfl e_X3_missOf ⟨Nat.le_of_ble_eq_true rfl, Nat.le_of_ble_eq_true rfl⟩ hK hP hD hE hS hA 23 wC_at23 rfl rfl hl.1 rfl (Nat.le_of_ble_eq_true rfl) dX3_compare_21 ⟨Nat.le_refl _, Nat.le_refl _⟩) hP hD hS hA (fun x_4 u_4 H locs hw_4 hP hD hS => ?_)
    subst x_4
    refine lv_lstore_n (lv' := [(1, .long r_4), (0, .ref (q 23))]) hx hb dX3_compare_24 rfl hl (by decide) rfl (fun ls hl => ?_)
    refine lv_iconst (v := 0) hx hb dX3_compare_25 (by decide) ?_
    refine lv_istore_n (lv' := [(3, .int 0), (1, .long r_4), (0, .ref (q 23))]) hx hb dX3_compare_26 rfl hl (by decide) rfl (fun ls hl => ?_)
    refine lv_iconst (v := 0) hx hb dX3_compare_27 (by decide) ?_
    refine lv_istore (lv' := [(4, .int 0), (3, .int 0), (1, .long r_4), (0, .ref (q 23))]) hx hb dX3_compare_28 hl (by decide) rfl (fun ls hl => ?_)
    exact hJ_30 8589934592 h_4 r_4 0 0 hF H _ ls hP hD hS (lv_sub hl [3, 2, 1, 0] rfl)
  · have hF := ob_pos c_3 hF
    obtain rfl := ob_one hF
    exact gw_vret () hx hb hr hlocks hP hD hS trivial dX3_compare_15
theorem e_J3_checkIndex_8e157 : yJ3_checkIndex_8e157.cls ≠ "java/lang/invoke/MethodHandle" ∧ yJ3_checkIndex_8e157.cls ≠ "java/lang/invoke/VarHandle" ∧ (parseMethodDescriptor yJ3_checkIndex_8e157.desc).map (fun d => d.parameters.length) = some 3 := by decide +kernel
theorem e_J0_checkIndex_df160 : yJ0_checkIndex_df160.cls ≠ "java/lang/invoke/MethodHandle" ∧ yJ0_checkIndex_df160.cls ≠ "java/lang/invoke/VarHandle" ∧ (parseMethodDescriptor yJ0_checkIndex_df160.desc).map (fun d => d.parameters.length) = some 2 := by decide +kernel
theorem e_J1_charAt_3b067 : yJ1_charAt_3b067.cls ≠ "java/lang/invoke/MethodHandle" ∧ yJ1_charAt_3b067.cls ≠ "java/lang/invoke/VarHandle" ∧ (parseMethodDescriptor yJ1_charAt_3b067.desc).map (fun d => d.parameters.length) = some 2 := by decide +kernel
theorem e_J0_coder_7d493 : yJ0_coder_7d493.cls = RJ0 ∧ yJ0_coder_7d493.cls ≠ "java/lang/invoke/MethodHandle" ∧ yJ0_coder_7d493.cls ≠ "java/lang/invoke/VarHandle" ∧ (parseMethodDescriptor yJ0_coder_7d493.desc).map (fun d => d.parameters.length) = some 0 := by decide +kernel
theorem e_J0_isLatin1_aae02 : yJ0_isLatin1_aae02.cls = RJ0 ∧ yJ0_isLatin1_aae02.cls ≠ "java/lang/invoke/MethodHandle" ∧ yJ0_isLatin1_aae02.cls ≠ "java/lang/invoke/VarHandle" ∧ (parseMethodDescriptor yJ0_isLatin1_aae02.desc).map (fun d => d.parameters.length) = some 0 := by decide +kernel
theorem e_J0_length_8abf5 : yJ0_length_8abf5.cls = RJ0 ∧ yJ0_length_8abf5.cls ≠ "java/lang/invoke/MethodHandle" ∧ yJ0_length_8abf5.cls ≠ "java/lang/invoke/VarHandle" ∧ (parseMethodDescriptor yJ0_length_8abf5.desc).map (fun d => d.parameters.length) = some 0 := by decide +kernel
theorem e_J0_charAt_5068e : yJ0_charAt_5068e.cls = RJ0 ∧ yJ0_charAt_5068e.cls ≠ "java/lang/invoke/MethodHandle" ∧ yJ0_charAt_5068e.cls ≠ "java/lang/invoke/VarHandle" ∧ (parseMethodDescriptor yJ0_charAt_5068e.desc).map (fun d => d.parameters.length) = some 1 := by decide +kernel
set_option maxHeartbeats 4000000 in
set_option maxRecDepth 100000 in
theorem c_J3_checkIndex_8e157 (l : Launch) (G : va_G) (cI cJ cZ cB cT : ClassId) (p1 p2 : Int32) (w : Option Nat) (h0 : ¬ p1 < 0) (h1 : p1 < p2) : gMi l yJ3_checkIndex_8e157 (gws yJ3_checkIndex_8e157 cJ3_checkIndex_8e157 3 (some .int)) 1 G (gT cI cJ cZ cB cT) [.int p1, .int p2, va_rf w] ([] : va_W) (fun x (_ : Unit) => x = p1) (fun (_ : Unit) => ([] : va_W)) := by
  cases w with
  | none =>
    intro sz
    refine gM_start (y := yJ3_checkIndex_8e157) (av := [.int p1, .int p2, .null]) (ws := ([] : va_W)) (Qf := fun A => va_Qi (fun x (_ : Unit) => x = p1) (gB G (fun (_ : Unit) => ([] : va_W)) A) A) (cc := cJ3_checkIndex_8e157) (maxL := 3) (ret := (some .int)) (by decide) (Nat.le_of_ble_eq_true rfl) ?_
    intro p e s m args below meth c A ls H hx hb hr hts hown hin hlocks hml hP hK hD hA hS hl hE
    have hl : lv_has ls 3 [(0, .int p1), (1, .int p2), (2, .null)] := hl
    refine lv_iload_n hx hb dJ3_checkIndex_8e157_0 rfl (lv_at hl 0 rfl) ?_
    refine lv_if_lt (tgt := 9) hx hb dJ3_checkIndex_8e157_1 (by decide) (fun c => absurd c h0) (fun _ => ?_)
    refine lv_iload_n hx hb dJ3_checkIndex_8e157_4 rfl (lv_at hl 0 rfl) ?_
    refine lv_iload_n hx hb dJ3_checkIndex_8e157_5 rfl (lv_at hl 1 rfl) ?_
    refine lv_icmp_lt (tgt := 16) hx hb dJ3_checkIndex_8e157_6 (by decide) (fun _ => ?_) (fun c => absurd h1 c)
    refine lv_iload_n hx hb dJ3_checkIndex_8e157_16 rfl (lv_at hl 0 rfl) ?_
    exact gw_iret () hx hb hr hlocks hP hD hS rfl dJ3_checkIndex_8e157_17
  | some t =>
    intro sz
    refine gM_start (y := yJ3_checkIndex_8e157) (av := [.int p1, .int p2, .ref t]) (ws := ([] : va_W)) (Qf := fun A => va_Qi (fun x (_ : Unit) => x = p1) (gB G (fun (_ : Unit) => ([] : va_W)) A) A) (cc := cJ3_checkIndex_8e157) (maxL := 3) (ret := (some .int)) (by decide) (Nat.le_of_ble_eq_true rfl) ?_
    intro p e s m args below meth c A ls H hx hb hr hts hown hin hlocks hml hP hK hD hA hS hl hE
    have hl : lv_has ls 3 [(0, .int p1), (1, .int p2), (2, .ref t)] := hl
    refine lv_iload_n hx hb dJ3_checkIndex_8e157_0 rfl (lv_at hl 0 rfl) ?_
    refine lv_if_lt (tgt := 9) hx hb dJ3_checkIndex_8e157_1 (by decide) (fun c => absurd c h0) (fun _ => ?_)
    refine lv_iload_n hx hb dJ3_checkIndex_8e157_4 rfl (lv_at hl 0 rfl) ?_
    refine lv_iload_n hx hb dJ3_checkIndex_8e157_5 rfl (lv_at hl 1 rfl) ?_
    refine lv_icmp_lt (tgt := 16) hx hb dJ3_checkIndex_8e157_6 (by decide) (fun _ => ?_) (fun c => absurd h1 c)
    refine lv_iload_n hx hb dJ3_checkIndex_8e157_16 rfl (lv_at hl 0 rfl) ?_
    exact gw_iret () hx hb hr hlocks hP hD hS rfl dJ3_checkIndex_8e157_17
set_option maxHeartbeats 4000000 in
set_option maxRecDepth 100000 in
theorem c_J0_checkIndex_df160 (l : Launch) (G : va_G) (cI cJ cZ cB cT : ClassId) (p1 p2 : Int32) (h0 : ¬ p1 < 0) (h1 : p1 < p2) : gMv l yJ0_checkIndex_df160 (gws yJ0_checkIndex_df160 cJ0_checkIndex_df160 2 none) 2 G (gT cI cJ cZ cB cT) [.int p1, .int p2] ([] : va_W) (fun (_ : Unit) => True) (fun (_ : Unit) => ([] : va_W)) := by
  intro sz
  refine gM_start (y := yJ0_checkIndex_df160) (av := [.int p1, .int p2]) (ws := ([] : va_W)) (Qf := fun A => va_Qv (fun (_ : Unit) => True) (gB G (fun (_ : Unit) => ([] : va_W)) A) A) (cc := cJ0_checkIndex_df160) (maxL := 2) (ret := none) (by decide) (Nat.le_of_ble_eq_true rfl) ?_
  intro p e s m args below meth c A ls H hx hb hr hts hown hin hlocks hml hP hK hD hA hS hl hE
  have hl : lv_has ls 2 [(0, .int p1), (1, .int p2)] := hl
  refine lv_iload_n hx hb dJ0_checkIndex_df160_0 rfl (lv_at hl 0 rfl) ?_
  refine lv_iload_n hx hb dJ0_checkIndex_df160_1 rfl (lv_at hl 1 rfl) ?_
  rcases hE.2.2.2.2.2 with hZ | ⟨t, hZ⟩
  · refine va_gets hx hb hZ hS hown (hts _ m_500) (fun _ h9 => h9) dJ0_checkIndex_df160_2 ?_
    refine gx_calli0 (gx_runSx0 (As := [.int p1, .int p2, va_rf none]) (rest := []) ⟨hx, hb, hml, hown, hts⟩ (c_J3_checkIndex_8e157 l G cI cJ cZ cB cT p1 p2 none h0 h1 H.size) (gG_3 m_501 m_502 m_503 (gG_I m_504)) rfl e_J3_checkIndex_8e157 ⟨Nat.le_of_ble_eq_true rfl, Nat.le_of_ble_eq_true rfl⟩ hK hE hS hA rfl hl.1 rfl (Nat.le_of_ble_eq_true rfl) dJ0_checkIndex_df160_5 ⟨Nat.le_of_ble_eq_true rfl, Nat.le_of_ble_eq_true rfl⟩) hP hD hS hA (fun x_1 u_1 H locs hw_1 hP hD hS => ?_)
    refine lv_pop hx hb dJ0_checkIndex_df160_8 rfl ?_
    exact gw_vret () hx hb hr hlocks hP hD hS trivial dJ0_checkIndex_df160_9
  · refine va_gets hx hb hZ hS hown (hts _ m_500) (fun _ h9 => h9) dJ0_checkIndex_df160_2 ?_
    refine gx_calli0 (gx_runSx0 (As := [.int p1, .int p2, va_rf (some t)]) (rest := []) ⟨hx, hb, hml, hown, hts⟩ (c_J3_checkIndex_8e157 l G cI cJ cZ cB cT p1 p2 (some t) h0 h1 H.size) (gG_3 m_501 m_502 m_503 (gG_I m_504)) rfl e_J3_checkIndex_8e157 ⟨Nat.le_of_ble_eq_true rfl, Nat.le_of_ble_eq_true rfl⟩ hK hE hS hA rfl hl.1 rfl (Nat.le_of_ble_eq_true rfl) dJ0_checkIndex_df160_5 ⟨Nat.le_of_ble_eq_true rfl, Nat.le_of_ble_eq_true rfl⟩) hP hD hS hA (fun x_1 u_1 H locs hw_1 hP hD hS => ?_)
    refine lv_pop hx hb dJ0_checkIndex_df160_8 rfl ?_
    exact gw_vret () hx hb hr hlocks hP hD hS trivial dJ0_checkIndex_df160_9
set_option maxHeartbeats 4000000 in
set_option maxRecDepth 100000 in
theorem c_J0_coder_7d493 (l : Launch) (G : va_G) (cI cJ cZ cB cT : ClassId) : gMi l yJ0_coder_7d493 (gws yJ0_coder_7d493 cJ0_coder_7d493 1 (some .byte)) 1 G (gT cI cJ cZ cB cT) [.ref (G.2 99 2)] ([] : va_W) (fun x (_ : Unit) => x = 0) (fun (_ : Unit) => ([] : va_W)) := by
  intro sz
  refine gM_start (y := yJ0_coder_7d493) (av := [.ref (G.2 99 2)]) (ws := ([] : va_W)) (Qf := fun A => va_Qi (fun x (_ : Unit) => x = 0) (gB G (fun (_ : Unit) => ([] : va_W)) A) A) (cc := cJ0_coder_7d493) (maxL := 1) (ret := (some .byte)) (by decide) (Nat.le_of_ble_eq_true rfl) ?_
  intro p e s m args below meth c A ls H hx hb hr hts hown hin hlocks hml hP hK hD hA hS hl hE
  have hl : lv_has ls 1 [(0, .ref (G.2 99 2))] := hl
  refine va_gets hx hb hE.2.2.2.2.1 hS hown (hts _ m_505) (fun _ h9 => h9) dJ0_coder_7d493_0 ?_
  refine lv_if_eq (tgt := 13) hx hb dJ0_coder_7d493_3 (by decide) (fun c => absurd c (by decide)) (fun _ => ?_)
  refine lv_aload_n hx hb dJ0_coder_7d493_6 rfl (lv_at hl 0 rfl) ?_
  refine vk_getf hx hb (hE.2.2.2.1.2.1 0 (by decide)).2.1 hS hown (hts _ m_506) (fun _ h9 => h9) dJ0_coder_7d493_7 ?_
  refine lv_goto (tgt := 14) hx hb dJ0_coder_7d493_10 (by decide) ?_
  exact gw_tret () hx hb hr hlocks rfl hP hD hS rfl dJ0_coder_7d493_14
set_option maxHeartbeats 4000000 in
set_option maxRecDepth 100000 in
theorem c_J0_isLatin1_aae02 (l : Launch) (G : va_G) (cI cJ cZ cB cT : ClassId) : gMi l yJ0_isLatin1_aae02 (gws yJ0_isLatin1_aae02 cJ0_isLatin1_aae02 1 (some .boolean)) 1 G (gT cI cJ cZ cB cT) [.ref (G.2 99 2)] ([] : va_W) (fun x (_ : Unit) => x = 1) (fun (_ : Unit) => ([] : va_W)) := by
  intro sz
  refine gM_start (y := yJ0_isLatin1_aae02) (av := [.ref (G.2 99 2)]) (ws := ([] : va_W)) (Qf := fun A => va_Qi (fun x (_ : Unit) => x = 1) (gB G (fun (_ : Unit) => ([] : va_W)) A) A) (cc := cJ0_isLatin1_aae02) (maxL := 1) (ret := (some .boolean)) (by decide) (Nat.le_of_ble_eq_true rfl) ?_
  intro p e s m args below meth c A ls H hx hb hr hts hown hin hlocks hml hP hK hD hA hS hl hE
  have hl : lv_has ls 1 [(0, .ref (G.2 99 2))] := hl
  refine va_gets hx hb hE.2.2.2.2.1 hS hown (hts _ m_505) (fun _ h9 => h9) dJ0_isLatin1_aae02_0 ?_
  refine lv_if_eq (tgt := 17) hx hb dJ0_isLatin1_aae02_3 (by decide) (fun c => absurd c (by decide)) (fun _ => ?_)
  refine lv_aload_n hx hb dJ0_isLatin1_aae02_6 rfl (lv_at hl 0 rfl) ?_
  refine vk_getf hx hb (hE.2.2.2.1.2.1 0 (by decide)).2.1 hS hown (hts _ m_506) (fun _ h9 => h9) dJ0_isLatin1_aae02_7 ?_
  refine lv_if_ne (tgt := 17) hx hb dJ0_isLatin1_aae02_10 (by decide) (fun c => absurd rfl c) (fun _ => ?_)
  refine lv_iconst (v := 1) hx hb dJ0_isLatin1_aae02_13 (by decide) ?_
  refine lv_goto (tgt := 18) hx hb dJ0_isLatin1_aae02_14 (by decide) ?_
  exact gw_tret () hx hb hr hlocks rfl hP hD hS rfl dJ0_isLatin1_aae02_18
def f_J0_length : Option Int32 := some 121
set_option maxHeartbeats 4000000 in
set_option maxRecDepth 100000 in
theorem c_J0_length_8abf5 (l : Launch) (G : va_G) (cI cJ cZ cB cT : ClassId) (rr : Int32) (hF : f_J0_length = some rr) : gMi l yJ0_length_8abf5 (gws yJ0_length_8abf5 cJ0_length_8abf5 1 (some .int)) 2 G (gT cI cJ cZ cB cT) [.ref (G.2 99 2)] ([] : va_W) (fun x (_ : Unit) => x = rr) (fun (_ : Unit) => ([] : va_W)) := by
  obtain rfl := ob_one hF
  intro sz
  refine gM_start (y := yJ0_length_8abf5) (av := [.ref (G.2 99 2)]) (ws := ([] : va_W)) (Qf := fun A => va_Qi (fun x (_ : Unit) => x = 121) (gB G (fun (_ : Unit) => ([] : va_W)) A) A) (cc := cJ0_length_8abf5) (maxL := 1) (ret := (some .int)) (by decide) (Nat.le_of_ble_eq_true rfl) ?_
  intro p e s m args below meth c A ls H hx hb hr hts hown hin hlocks hml hP hK hD hA hS hl hE
  have hl : lv_has ls 1 [(0, .ref (G.2 99 2))] := hl
  refine lv_aload_n hx hb dJ0_length_8abf5_0 rfl (lv_at hl 0 rfl) ?_
  refine vk_getf hx hb (hE.2.2.2.1.2.1 0 (by decide)).2.2.1 hS hown (hts _ m_507) (fun _ h9 => h9) dJ0_length_8abf5_1 ?_
  refine va_tlen hx hb (hE.2.2.2.1.2.1 0 (by decide)).2.2.2 hS (v := 121) rfl dJ0_length_8abf5_4 ?_
  refine lv_aload_n hx hb dJ0_length_8abf5_5 rfl (lv_at hl 0 rfl) ?_
  refine gx_calli0 (gx_runV0 (As := []) (rest := [.int 121]) ⟨hx, hb, hml, hown, hts⟩ (c_J0_coder_7d493 l G cI cJ cZ cB cT H.size) (gG_V m_508 m_509 m_510 m_511 m_512) rfl e_J0_coder_7d493 ⟨Nat.le_of_ble_eq_true rfl, Nat.le_of_ble_eq_true rfl⟩ hK hE hS hA (vk_recv hE.2.2.2.1.2 (i := 0) (by decide) hS) rfl hl.1 rfl (Nat.le_of_ble_eq_true rfl) dJ0_length_8abf5_6 ⟨Nat.le_of_ble_eq_true rfl, Nat.le_of_ble_eq_true rfl⟩) hP hD hS hA (fun x_1 u_1 H locs hw_1 hP hD hS => ?_)
  subst x_1
  refine lv_ishr hx hb dJ0_length_8abf5_9 ?_
  refine gw_topi (y := 121) (by decide) ?_
  exact gw_iret () hx hb hr hlocks hP hD hS rfl dJ0_length_8abf5_10
theorem gch (b : Int32) : narrow .char (.int (b &&& 255)) = .int (b &&& 255) := sc_nar b
set_option maxHeartbeats 4000000 in
set_option maxRecDepth 100000 in
theorem c_J1_charAt_3b067 (l : Launch) (G : va_G) (cI cJ cZ cB cT : ClassId) (p1 : Int32) (h0 : 0 ≤ p1.toInt ∧ p1.toInt < 121) : gMi l yJ1_charAt_3b067 (gws yJ1_charAt_3b067 cJ1_charAt_3b067 2 (some .char)) 3 G (gT cI cJ cZ cB cT) [.ref (G.2 99 3), .int p1] ([] : va_W) (fun x (_ : Unit) => x = ((gWb.getD (p1.toNatClampNeg) 0) &&& 255)) (fun (_ : Unit) => ([] : va_W)) := by
  intro sz
  refine gM_start (y := yJ1_charAt_3b067) (av := [.ref (G.2 99 3), .int p1]) (ws := ([] : va_W)) (Qf := fun A => va_Qi (fun x (_ : Unit) => x = ((gWb.getD (p1.toNatClampNeg) 0) &&& 255)) (gB G (fun (_ : Unit) => ([] : va_W)) A) A) (cc := cJ1_charAt_3b067) (maxL := 2) (ret := (some .char)) (by decide) (Nat.le_of_ble_eq_true rfl) ?_
  intro p e s m args below meth c A ls H hx hb hr hts hown hin hlocks hml hP hK hD hA hS hl hE
  have hl : lv_has ls 2 [(0, .ref (G.2 99 3)), (1, .int p1)] := hl
  have hn0 : ¬ p1 < 0 := gi_nlt (by have : (0 : Int32).toInt = 0 := (by decide); omega)
  have hn1 : p1 < 121 := gi_lt (by have : (121 : Int32).toInt = 121 := (by decide); omega)
  refine lv_iload_n hx hb dJ1_charAt_3b067_0 rfl (lv_at hl 1 rfl) ?_
  refine lv_aload_n hx hb dJ1_charAt_3b067_1 rfl (lv_at hl 0 rfl) ?_
  refine va_tlen hx hb (hE.2.2.2.1.2.1 0 (by decide)).2.2.2 hS (v := 121) rfl dJ1_charAt_3b067_2 ?_
  refine gx_callv0 (gx_runSx0 (As := [.int p1, .int 121]) (rest := []) ⟨hx, hb, hml, hown, hts⟩ (c_J0_checkIndex_df160 l G cI cJ cZ cB cT p1 121 hn0 hn1 H.size) (gG_3 m_513 m_514 m_511 (gG_I m_515)) rfl e_J0_checkIndex_df160 ⟨Nat.le_of_ble_eq_true rfl, Nat.le_of_ble_eq_true rfl⟩ hK hE hS hA rfl hl.1 rfl (Nat.le_of_ble_eq_true rfl) dJ1_charAt_3b067_3 ⟨Nat.le_of_ble_eq_true rfl, Nat.le_of_ble_eq_true rfl⟩) hP hD hS hA (fun u_1 H locs hw_1 hP hD hS => ?_)
  refine lv_aload_n hx hb dJ1_charAt_3b067_6 rfl (lv_at hl 0 rfl) ?_
  refine lv_iload_n hx hb dJ1_charAt_3b067_7 rfl (lv_at hl 1 rfl) ?_
  refine va_tb hx hb (hE.2.2.2.1.2.1 0 (by decide)).2.2.2 hS (vp_in_iff.mpr h0) (v := .int (gWb.getD (p1.toNatClampNeg) 0)) rfl dJ1_charAt_3b067_8 ?_
  refine lv_sipush (v := 255) hx hb dJ1_charAt_3b067_9 (by decide) ?_
  refine lv_iand hx hb dJ1_charAt_3b067_12 ?_
  refine lv_i2c (v := ((gWb.getD (p1.toNatClampNeg) 0) &&& 255)) hx hb dJ1_charAt_3b067_13 (sc_c2 _) ?_
  exact gw_tret () hx hb hr hlocks (gch _) hP hD hS rfl dJ1_charAt_3b067_14
def f_J0_charAt (p1 : Int32) : Option Int32 := if 0 ≤ p1.toInt ∧ p1.toInt < 121 then some ((gWb.getD (p1.toNatClampNeg) 0) &&& 255) else none
set_option maxHeartbeats 4000000 in
set_option maxRecDepth 100000 in
theorem c_J0_charAt_5068e (l : Launch) (G : va_G) (cI cJ cZ cB cT : ClassId) (p1 rr : Int32) (hF : f_J0_charAt p1 = some rr) : gMi l yJ0_charAt_5068e (gws yJ0_charAt_5068e cJ0_charAt_5068e 2 (some .char)) 4 G (gT cI cJ cZ cB cT) [.ref (G.2 99 2), .int p1] ([] : va_W) (fun x (_ : Unit) => x = rr) (fun (_ : Unit) => ([] : va_W)) := by
  unfold f_J0_charAt at hF
  obtain ⟨h0, hF⟩ := ob_if hF
  obtain rfl := ob_one hF
  intro sz
  refine gM_start (y := yJ0_charAt_5068e) (av := [.ref (G.2 99 2), .int p1]) (ws := ([] : va_W)) (Qf := fun A => va_Qi (fun x (_ : Unit) => x = ((gWb.getD (p1.toNatClampNeg) 0) &&& 255)) (gB G (fun (_ : Unit) => ([] : va_W)) A) A) (cc := cJ0_charAt_5068e) (maxL := 2) (ret := (some .char)) (by decide) (Nat.le_of_ble_eq_true rfl) ?_
  intro p e s m args below meth c A ls H hx hb hr hts hown hin hlocks hml hP hK hD hA hS hl hE
  have hl : lv_has ls 2 [(0, .ref (G.2 99 2)), (1, .int p1)] := hl
  refine lv_aload_n hx hb dJ0_charAt_5068e_0 rfl (lv_at hl 0 rfl) ?_
  refine gx_calli0 (gx_runV0 (As := []) (rest := []) ⟨hx, hb, hml, hown, hts⟩ (c_J0_isLatin1_aae02 l G cI cJ cZ cB cT H.size) (gG_V m_516 m_517 m_518 m_511 m_519) rfl e_J0_isLatin1_aae02 ⟨Nat.le_of_ble_eq_true rfl, Nat.le_of_ble_eq_true rfl⟩ hK hE hS hA (vk_recv hE.2.2.2.1.2 (i := 0) (by decide) hS) rfl hl.1 rfl (Nat.le_of_ble_eq_true rfl) dJ0_charAt_5068e_1 ⟨Nat.le_of_ble_eq_true rfl, Nat.le_of_ble_eq_true rfl⟩) hP hD hS hA (fun x_1 u_1 H locs hw_1 hP hD hS => ?_)
  subst x_1
  refine lv_if_eq (tgt := 16) hx hb dJ0_charAt_5068e_4 (by decide) (fun c => absurd c (by decide)) (fun _ => ?_)
  refine lv_aload_n hx hb dJ0_charAt_5068e_7 rfl (lv_at hl 0 rfl) ?_
  refine vk_getf hx hb (hE.2.2.2.1.2.1 0 (by decide)).2.2.1 hS hown (hts _ m_507) (fun _ h9 => h9) dJ0_charAt_5068e_8 ?_
  refine lv_iload_n hx hb dJ0_charAt_5068e_11 rfl (lv_at hl 1 rfl) ?_
  refine gx_calli0 (gx_runSx0 (As := [.ref (G.2 99 3), .int p1]) (rest := []) ⟨hx, hb, hml, hown, hts⟩ (c_J1_charAt_3b067 l G cI cJ cZ cB cT p1 h0 H.size) (gG_3 m_520 m_521 m_522 (gG_I m_523)) rfl e_J1_charAt_3b067 ⟨Nat.le_of_ble_eq_true rfl, Nat.le_of_ble_eq_true rfl⟩ hK hE hS hA rfl hl.1 rfl (Nat.le_of_ble_eq_true rfl) dJ0_charAt_5068e_12 ⟨Nat.le_of_ble_eq_true rfl, Nat.le_of_ble_eq_true rfl⟩) hP hD hS hA (fun x_2 u_2 H locs hw_2 hP hD hS => ?_)
  subst x_2
  exact gw_tret () hx hb hr hlocks (gch _) hP hD hS rfl dJ0_charAt_5068e_15
def f_X7_wordKind_106 (k12 : HS → Int32 → Int32 → Int32 → Int32 → Int32 → Int32 → Option (Int32 × HS)) (h : HS) (x1 : Int32) (x2 : Int32) (x3 : Int32) (x4 : Int32) (x5 : Int32) (x6 : Int32) : Option (Int32 × HS) := (k12 h x1 x2 x3 x4 x5 (x6 + 1))
def f_X7_wordKind_94 (k12 : HS → Int32 → Int32 → Int32 → Int32 → Int32 → Int32 → Option (Int32 × HS)) (h : HS) (x1 : Int32) (x2 : Int32) (x3 : Int32) (x6 : Int32) : Option (Int32 × HS) := (f_X7_wordKind_106 k12 h x1 x2 (x3 + 1) (x6 + 1) 1 x6)
def f_X7_wordKind_73 (k12 : HS → Int32 → Int32 → Int32 → Int32 → Int32 → Int32 → Option (Int32 × HS)) (h : HS) (x1 : Int32) (x2 : Int32) (x3 : Int32) (x4 : Int32) (x6 : Int32) (y0 : Int32) : Option (Int32 × HS) := (f_X7_wordKind_106 k12 h x1 x2 x3 x4 y0 x6)
def f_X7_wordKind_72 (k12 : HS → Int32 → Int32 → Int32 → Int32 → Int32 → Int32 → Option (Int32 × HS)) (h : HS) (x1 : Int32) (x2 : Int32) (x3 : Int32) (x4 : Int32) (x6 : Int32) : Option (Int32 × HS) := (f_X7_wordKind_73 k12 h x1 x2 x3 x4 x6 0)
def f_X7_wordKind_12 : Nat → HS → Int32 → Int32 → Int32 → Int32 → Int32 → Int32 → Option (Int32 × HS)
  | 0, _, _, _, _, _, _, _ => none
  | n + 1, h, x1, x2, x3, x4, x5, x6 => (ob1 (f_J0_length) (fun r_1 => (if r_1 ≤ x6 then (some (1, h)) else (ob1 (f_J0_charAt x6) (fun r_3 => (if r_3 = 32 then (if x5 = 0 then (f_X7_wordKind_94 (f_X7_wordKind_12 n) h x1 x2 x3 x6) else (if (x6 - x4) = x2 then (some (x3, h)) else (f_X7_wordKind_94 (f_X7_wordKind_12 n) h x1 x2 x3 x6))) else (if x5 = 0 then (f_X7_wordKind_72 (f_X7_wordKind_12 n) h x1 x2 x3 x4 x6) else (if x2 ≤ (x6 - x4) then (f_X7_wordKind_72 (f_X7_wordKind_12 n) h x1 x2 x3 x4 x6) else (ob2 (f_X5_byteAt h ((x1 + x6) - x4)) (fun r_9 h_9 => (if r_9 = r_3 then (f_X7_wordKind_73 (f_X7_wordKind_12 n) h_9 x1 x2 x3 x4 x6 1) else (f_X7_wordKind_72 (f_X7_wordKind_12 n) h_9 x1 x2 x3 x4 x6))))))))))))
theorem f_X7_wordKind_12_s (n : Nat) (h : HS) (x1 : Int32) (x2 : Int32) (x3 : Int32) (x4 : Int32) (x5 : Int32) (x6 : Int32) : f_X7_wordKind_12 (n + 1) h x1 x2 x3 x4 x5 x6 = (ob1 (f_J0_length) (fun r_1 => (if r_1 ≤ x6 then (some (1, h)) else (ob1 (f_J0_charAt x6) (fun r_3 => (if r_3 = 32 then (if x5 = 0 then (f_X7_wordKind_94 (f_X7_wordKind_12 n) h x1 x2 x3 x6) else (if (x6 - x4) = x2 then (some (x3, h)) else (f_X7_wordKind_94 (f_X7_wordKind_12 n) h x1 x2 x3 x6))) else (if x5 = 0 then (f_X7_wordKind_72 (f_X7_wordKind_12 n) h x1 x2 x3 x4 x6) else (if x2 ≤ (x6 - x4) then (f_X7_wordKind_72 (f_X7_wordKind_12 n) h x1 x2 x3 x4 x6) else (ob2 (f_X5_byteAt h ((x1 + x6) - x4)) (fun r_9 h_9 => (if r_9 = r_3 then (f_X7_wordKind_73 (f_X7_wordKind_12 n) h_9 x1 x2 x3 x4 x6 1) else (f_X7_wordKind_72 (f_X7_wordKind_12 n) h_9 x1 x2 x3 x4 x6)))))))))))) := rfl
def f_X7_wordKind (h : HS) (p1 : Int32) (p2 : Int32) : Option (Int32 × HS) := (f_X7_wordKind_12 8589934592 h p1 p2 16 0 1 0)
set_option maxHeartbeats 4000000 in
set_option maxRecDepth 100000 in
theorem c_X7_wordKind (l : Launch) (G : va_G) (cI cJ cZ cB cT : ClassId) (q : Nat → Nat) (h : HS) (p1 : Int32) (p2 : Int32) (rr : Int32) (hh : HS) (hF : f_X7_wordKind h p1 p2 = some (rr, hh)) : gMi l yX7_wordKind (gws yX7_wordKind cX7_wordKind 8 (some .int)) 5 G (gT cI cJ cZ cB cT) [.ref (q 9), .int p1, .int p2] (wC q cI cJ cZ cB cT h) (fun x (_ : Unit) => x = rr) (fun (_ : Unit) => (wC q cI cJ cZ cB cT hh)) := by
  intro sz
  refine gM_start (y := yX7_wordKind) (av := [.ref (q 9), .int p1, .int p2]) (ws := (wC q cI cJ cZ cB cT h)) (Qf := fun A => va_Qi (fun x (_ : Unit) => x = rr) (gB G (fun (_ : Unit) => (wC q cI cJ cZ cB cT hh)) A) A) (cc := cX7_wordKind) (maxL := 8) (ret := (some .int)) (by decide) (Nat.le_of_ble_eq_true rfl) ?_
  intro p e s m args below meth c A ls H hx hb hr hts hown hin hlocks hml hP hK hD hA hS hl hE
  have hl : lv_has ls 8 [(0, .ref (q 9)), (1, .int p1), (2, .int p2)] := hl
  have hJ_12 : ∀ (n_12 : Nat) (h : HS) (x1 : Int32) (x2 : Int32) (x3 : Int32) (x4 : Int32) (x5 : Int32) (x6 : Int32), f_X7_wordKind_12 n_12 h x1 x2 x3 x4 x5 x6 = some (rr, hh) → ∀ (H : Heap) (locs : List Loc) (ls : Array Slot), va_P G vwCl (wC q cI cJ cZ cB cT h) H → va_D A (wC q cI cJ cZ cB cT h) → va_S A s.heap H locs → lv_has ls 8 [(0, .ref (q 9)), (1, .int x1), (2, .int x2), (3, .int x3), (4, .int x4), (5, .int x5), (6, .int x6)] → W p l e (gRm 5) s m args below meth c H locs 0 0 (MQ below (va_Qi (fun x (_ : Unit) => x = rr) (gB G (fun (_ : Unit) => (wC q cI cJ cZ cB cT hh)) A) A) args s 0 0 A) (F0 m 12 ls []) := by
    intro n_12
    induction n_12 with
    | zero =>
      intro h x1 x2 x3 x4 x5 x6 hF
      exact absurd hF (by simp [f_X7_wordKind_12])
    | succ n_12 ih_12 =>
      have hJ_106 : ∀ (h : HS) (x1 : Int32) (x2 : Int32) (x3 : Int32) (x4 : Int32) (x5 : Int32) (x6 : Int32), f_X7_wordKind_106 (f_X7_wordKind_12 n_12) h x1 x2 x3 x4 x5 x6 = some (rr, hh) → ∀ (H : Heap) (locs : List Loc) (ls : Array Slot), va_P G vwCl (wC q cI cJ cZ cB cT h) H → va_D A (wC q cI cJ cZ cB cT h) → va_S A s.heap H locs → lv_has ls 8 [(0, .ref (q 9)), (1, .int x1), (2, .int x2), (3, .int x3), (4, .int x4), (5, .int x5), (6, .int x6)] → W p l e (gRm 5) s m args below meth c H locs 0 0 (MQ below (va_Qi (fun x (_ : Unit) => x = rr) (gB G (fun (_ : Unit) => (wC q cI cJ cZ cB cT hh)) A) A) args s 0 0 A) (F0 m 106 ls []) := by
        intro h x1 x2 x3 x4 x5 x6 hF H locs ls hP hD hS hl
        unfold f_X7_wordKind_106 at hF
        refine lv_iinc (v := (x6 + 1)) (lv' := [(6, .int (x6 + 1)), (0, .ref (q 9)), (1, .int x1), (2, .int x2), (3, .int x3), (4, .int x4), (5, .int x5)]) hx hb dX7_wordKind_106 hl (k := 6) rfl rfl (by decide) rfl (fun ls hl => ?_)
        refine lv_goto (tgt := 12) hx hb dX7_wordKind_109 (by decide) ?_
        exact ih_12 h x1 x2 x3 x4 x5 (x6 + 1) hF H _ ls hP hD hS (lv_sub hl [1, 2, 3, 4, 5, 6, 0] rfl)
      have hJ_94 : ∀ (h : HS) (x1 : Int32) (x2 : Int32) (x3 : Int32) (x6 : Int32), f_X7_wordKind_94 (f_X7_wordKind_12 n_12) h x1 x2 x3 x6 = some (rr, hh) → ∀ (H : Heap) (locs : List Loc) (ls : Array Slot), va_P G vwCl (wC q cI cJ cZ cB cT h) H → va_D A (wC q cI cJ cZ cB cT h) → va_S A s.heap H locs → lv_has ls 8 [(0, .ref (q 9)), (1, .int x1), (2, .int x2), (3, .int x3), (6, .int x6)] → W p l e (gRm 5) s m args below meth c H locs 0 0 (MQ below (va_Qi (fun x (_ : Unit) => x = rr) (gB G (fun (_ : Unit) => (wC q cI cJ cZ cB cT hh)) A) A) args s 0 0 A) (F0 m 94 ls []) := by
        intro h x1 x2 x3 x6 hF H locs ls hP hD hS hl
        unfold f_X7_wordKind_94 at hF
        refine lv_iinc (v := (x3 + 1)) (lv' := [(3, .int (x3 + 1)), (0, .ref (q 9)), (1, .int x1), (2, .int x2), (6, .int x6)]) hx hb dX7_wordKind_94 hl (k := 3) rfl rfl (by decide) rfl (fun ls hl => ?_)
        refine lv_iload hx hb dX7_wordKind_97 (lv_at hl 4 rfl) ?_
        refine lv_iconst (v := 1) hx hb dX7_wordKind_99 (by decide) ?_
        refine lv_iadd hx hb dX7_wordKind_100 ?_
        refine lv_istore (lv' := [(4, .int (x6 + 1)), (3, .int (x3 + 1)), (0, .ref (q 9)), (1, .int x1), (2, .int x2), (6, .int x6)]) hx hb dX7_wordKind_101 hl (by decide) rfl (fun ls hl => ?_)
        refine lv_iconst (v := 1) hx hb dX7_wordKind_103 (by decide) ?_
        refine lv_istore (lv' := [(5, .int 1), (4, .int (x6 + 1)), (3, .int (x3 + 1)), (0, .ref (q 9)), (1, .int x1), (2, .int x2), (6, .int x6)]) hx hb dX7_wordKind_104 hl (by decide) rfl (fun ls hl => ?_)
        exact hJ_106 h x1 x2 (x3 + 1) (x6 + 1) 1 x6 hF H _ ls hP hD hS (lv_sub hl [3, 4, 5, 2, 1, 0, 6] rfl)
      have hJ_73 : ∀ (h : HS) (x1 : Int32) (x2 : Int32) (x3 : Int32) (x4 : Int32) (x6 : Int32) (y0 : Int32), f_X7_wordKind_73 (f_X7_wordKind_12 n_12) h x1 x2 x3 x4 x6 y0 = some (rr, hh) → ∀ (H : Heap) (locs : List Loc) (ls : Array Slot), va_P G vwCl (wC q cI cJ cZ cB cT h) H → va_D A (wC q cI cJ cZ cB cT h) → va_S A s.heap H locs → lv_has ls 8 [(0, .ref (q 9)), (1, .int x1), (2, .int x2), (3, .int x3), (4, .int x4), (6, .int x6)] → W p l e (gRm 5) s m args below meth c H locs 0 0 (MQ below (va_Qi (fun x (_ : Unit) => x = rr) (gB G (fun (_ : Unit) => (wC q cI cJ cZ cB cT hh)) A) A) args s 0 0 A) (F0 m 73 ls [.int y0]) := by
        intro h x1 x2 x3 x4 x6 y0 hF H locs ls hP hD hS hl
        unfold f_X7_wordKind_73 at hF
        refine lv_istore (lv' := [(5, .int y0), (0, .ref (q 9)), (1, .int x1), (2, .int x2), (3, .int x3), (4, .int x4), (6, .int x6)]) hx hb dX7_wordKind_73 hl (by decide) rfl (fun ls hl => ?_)
        refine lv_goto (tgt := 106) hx hb dX7_wordKind_75 (by decide) ?_
        exact hJ_106 h x1 x2 x3 x4 y0 x6 hF H _ ls hP hD hS (lv_sub hl [1, 2, 3, 4, 5, 0, 6] rfl)
      have hJ_72 : ∀ (h : HS) (x1 : Int32) (x2 : Int32) (x3 : Int32) (x4 : Int32) (x6 : Int32), f_X7_wordKind_72 (f_X7_wordKind_12 n_12) h x1 x2 x3 x4 x6 = some (rr, hh) → ∀ (H : Heap) (locs : List Loc) (ls : Array Slot), va_P G vwCl (wC q cI cJ cZ cB cT h) H → va_D A (wC q cI cJ cZ cB cT h) → va_S A s.heap H locs → lv_has ls 8 [(0, .ref (q 9)), (1, .int x1), (2, .int x2), (3, .int x3), (4, .int x4), (6, .int x6)] → W p l e (gRm 5) s m args below meth c H locs 0 0 (MQ below (va_Qi (fun x (_ : Unit) => x = rr) (gB G (fun (_ : Unit) => (wC q cI cJ cZ cB cT hh)) A) A) args s 0 0 A) (F0 m 72 ls []) := by
        intro h x1 x2 x3 x4 x6 hF H locs ls hP hD hS hl
        unfold f_X7_wordKind_72 at hF
        refine lv_iconst (v := 0) hx hb dX7_wordKind_72 (by decide) ?_
        exact hJ_73 h x1 x2 x3 x4 x6 0 hF H _ ls hP hD hS (lv_sub hl [0, 1, 2, 3, 4, 5] rfl)
      intro h x1 x2 x3 x4 x5 x6 hF H locs ls hP hD hS hl
      rw [f_X7_wordKind_12_s] at hF
      refine lv_iload hx hb dX7_wordKind_12 (lv_at hl 6 rfl) ?_
      refine va_ldcS hx hb hown hE.2.2.2.1.1 dX7_wordKind_14 ?_
      obtain ⟨r_1, e_1, hF⟩ := ob1_some hF
      refine gx_calli0 (gx_runV0 (As := []) (rest := [.int x6]) ⟨hx, hb, hml, hown, hts⟩ (c_J0_length_8abf5 l G cI cJ cZ cB cT    r_1 e_1 H.size) (gG_V m_525 m_526 m_527 m_511 m_524) rfl e_J0_length_8abf5 ⟨Nat.le_of_ble_eq_true rfl, Nat.le_of_ble_eq_true rfl⟩ hK hE hS hA (vk_recv hE.2.2.2.1.2 (i := 0) (by decide) hS) rfl hl.1 rfl (Nat.le_of_ble_eq_true rfl) dX7_wordKind_16 ⟨Nat.le_refl _, Nat.le_refl _⟩) hP hD hS hA (fun x_1 u_1 H locs hw_1 hP hD hS => ?_)
      subst x_1
      refine lv_icmp_ge (tgt := 112) hx hb dX7_wordKind_19 (by decide) (fun c_2 => ?_) (fun c_2 => ?_)
      · have hF := ob_pos c_2 hF
        refine lv_iconst (v := 1) hx hb dX7_wordKind_112 (by decide) ?_
        obtain ⟨rfl, rfl⟩ := ob_pair hF
        exact gw_iret () hx hb hr hlocks hP hD hS rfl dX7_wordKind_113
      · have hF := ob_neg c_2 hF
        refine va_ldcS hx hb hown hE.2.2.2.1.1 dX7_wordKind_22 ?_
        refine lv_iload hx hb dX7_wordKind_24 (lv_at hl 6 rfl) ?_
        obtain ⟨r_3, e_3, hF⟩ := ob1_some hF
        refine gx_calli0 (gx_runV0 (As := [.int x6]) (rest := []) ⟨hx, hb, hml, hown, hts⟩ (c_J0_charAt_5068e l G cI cJ cZ cB cT   x6 r_3 e_3 H.size) (gG_V m_529 m_530 m_531 m_511 m_528) rfl e_J0_charAt_5068e ⟨Nat.le_of_ble_eq_true rfl, Nat.le_of_ble_eq_true rfl⟩ hK hE hS hA (vk_recv hE.2.2.2.1.2 (i := 0) (by decide) hS) rfl hl.1 rfl (Nat.le_of_ble_eq_true rfl) dX7_wordKind_26 ⟨Nat.le_refl _, Nat.le_refl _⟩) hP hD hS hA (fun x_3 u_3 H locs hw_3 hP hD hS => ?_)
        subst x_3
        refine lv_istore (lv' := [(7, .int r_3), (0, .ref (q 9)), (1, .int x1), (2, .int x2), (3, .int x3), (4, .int x4), (5, .int x5), (6, .int x6)]) hx hb dX7_wordKind_29 hl (by decide) rfl (fun ls hl => ?_)
        refine lv_iload hx hb dX7_wordKind_31 (lv_at hl 0 rfl) ?_
        refine lv_bipush (v := 32) hx hb dX7_wordKind_33 (by decide) ?_
        refine lv_icmp_eq (tgt := 78) hx hb dX7_wordKind_35 (by decide) (fun c_4 => ?_) (fun c_4 => ?_)
        · have hF := ob_pos c_4 hF
          refine lv_iload hx hb dX7_wordKind_78 (lv_at hl 6 rfl) ?_
          refine lv_if_eq (tgt := 94) hx hb dX7_wordKind_80 (by decide) (fun c_5 => ?_) (fun c_5 => ?_)
          · have hF := ob_pos c_5 hF
            exact hJ_94 h x1 x2 x3 x6 hF H _ ls hP hD hS (lv_sub hl [1, 2, 3, 4, 7] rfl)
          · have hF := ob_neg c_5 hF
            refine lv_iload hx hb dX7_wordKind_83 (lv_at hl 7 rfl) ?_
            refine lv_iload hx hb dX7_wordKind_85 (lv_at hl 5 rfl) ?_
            refine lv_isub hx hb dX7_wordKind_87 ?_
            refine lv_iload_n hx hb dX7_wordKind_88 rfl (lv_at hl 3 rfl) ?_
            refine lv_icmp_ne (tgt := 94) hx hb dX7_wordKind_89 (by decide) (fun c_6 => ?_) (fun c_6 => ?_)
            · have hF := ob_neg c_6 hF
              exact hJ_94 h x1 x2 x3 x6 hF H _ ls hP hD hS (lv_sub hl [1, 2, 3, 4, 7] rfl)
            · have hF := ob_pos c_6 hF
              refine lv_iload_n hx hb dX7_wordKind_92 rfl (lv_at hl 4 rfl) ?_
              obtain ⟨rfl, rfl⟩ := ob_pair hF
              exact gw_iret () hx hb hr hlocks hP hD hS rfl dX7_wordKind_93
        · have hF := ob_neg c_4 hF
          refine lv_iload hx hb dX7_wordKind_38 (lv_at hl 6 rfl) ?_
          refine lv_if_eq (tgt := 72) hx hb dX7_wordKind_40 (by decide) (fun c_7 => ?_) (fun c_7 => ?_)
          · have hF := ob_pos c_7 hF
            exact hJ_72 h x1 x2 x3 x4 x6 hF H _ ls hP hD hS (lv_sub hl [1, 2, 3, 4, 5, 7] rfl)
          · have hF := ob_neg c_7 hF
            refine lv_iload hx hb dX7_wordKind_43 (lv_at hl 7 rfl) ?_
            refine lv_iload hx hb dX7_wordKind_45 (lv_at hl 5 rfl) ?_
            refine lv_isub hx hb dX7_wordKind_47 ?_
            refine lv_iload_n hx hb dX7_wordKind_48 rfl (lv_at hl 3 rfl) ?_
            refine lv_icmp_ge (tgt := 72) hx hb dX7_wordKind_49 (by decide) (fun c_8 => ?_) (fun c_8 => ?_)
            · have hF := ob_pos c_8 hF
              exact hJ_72 h x1 x2 x3 x4 x6 hF H _ ls hP hD hS (lv_sub hl [1, 2, 3, 4, 5, 7] rfl)
            · have hF := ob_neg c_8 hF
              refine lv_aload_n hx hb dX7_wordKind_52 rfl (lv_at hl 1 rfl) ?_
              refine lv_iload_n hx hb dX7_wordKind_53 rfl (lv_at hl 2 rfl) ?_
              refine lv_iload hx hb dX7_wordKind_54 (lv_at hl 7 rfl) ?_
              refine lv_iadd hx hb dX7_wordKind_56 ?_
              refine lv_iload hx hb dX7_wordKind_57 (lv_at hl 5 rfl) ?_
              refine lv_isub hx hb dX7_wordKind_59 ?_
              obtain ⟨r_9, h_9, e_9, hF⟩ := ob2_some hF
              refine gx_calli (gx_runV (As := [.int ((x1 + x6) - x4)]) (rest := []) ⟨hx, hb, hml, hown, hts⟩ (c_X5_byteAt l G cI cJ cZ cB cT q h ((x1 + x6) - x4) r_9 h_9 e_9 H.size) (gG_V m_410 m_411 m_412 m_413 m_409) rfl e_X5_byteAt ⟨Nat.le_of_ble_eq_true rfl, Nat.le_of_ble_eq_true rfl⟩ hK hP hD hE hS hA 9 wC_at9 rfl rfl hl.1 rfl (Nat.le_of_ble_eq_true rfl) dX7_wordKind_60 ⟨Nat.le_refl _, Nat.le_refl _⟩) hP hD hS hA (fun x_9 u_9 H locs hw_9 hP hD hS => ?_)
              subst x_9
              refine lv_iload hx hb dX7_wordKind_63 (lv_at hl 0 rfl) ?_
              refine lv_icmp_ne (tgt := 72) hx hb dX7_wordKind_65 (by decide) (fun c_10 => ?_) (fun c_10 => ?_)
              · have hF := ob_neg c_10 hF
                exact hJ_72 h_9 x1 x2 x3 x4 x6 hF H _ ls hP hD hS (lv_sub hl [1, 2, 3, 4, 5, 7] rfl)
              · have hF := ob_pos c_10 hF
                refine lv_iconst (v := 1) hx hb dX7_wordKind_68 (by decide) ?_
                refine lv_goto (tgt := 73) hx hb dX7_wordKind_69 (by decide) ?_
                exact hJ_73 h_9 x1 x2 x3 x4 x6 1 hF H _ ls hP hD hS (lv_sub hl [1, 2, 3, 4, 5, 7] rfl)
  unfold f_X7_wordKind at hF
  refine lv_bipush (v := 16) hx hb dX7_wordKind_0 (by decide) ?_
  refine lv_istore_n (lv' := [(3, .int 16), (0, .ref (q 9)), (1, .int p1), (2, .int p2)]) hx hb dX7_wordKind_2 rfl hl (by decide) rfl (fun ls hl => ?_)
  refine lv_iconst (v := 0) hx hb dX7_wordKind_3 (by decide) ?_
  refine lv_istore (lv' := [(4, .int 0), (3, .int 16), (0, .ref (q 9)), (1, .int p1), (2, .int p2)]) hx hb dX7_wordKind_4 hl (by decide) rfl (fun ls hl => ?_)
  refine lv_iconst (v := 1) hx hb dX7_wordKind_6 (by decide) ?_
  refine lv_istore (lv' := [(5, .int 1), (4, .int 0), (3, .int 16), (0, .ref (q 9)), (1, .int p1), (2, .int p2)]) hx hb dX7_wordKind_7 hl (by decide) rfl (fun ls hl => ?_)
  refine lv_iconst (v := 0) hx hb dX7_wordKind_9 (by decide) ?_
  refine lv_istore (lv' := [(6, .int 0), (5, .int 1), (4, .int 0), (3, .int 16), (0, .ref (q 9)), (1, .int p1), (2, .int p2)]) hx hb dX7_wordKind_10 hl (by decide) rfl (fun ls hl => ?_)
  exact hJ_12 8589934592 h p1 p2 16 0 1 0 hF H _ ls hP hD hS (lv_sub hl [4, 5, 6, 3, 2, 1, 0] rfl)
def f_X7_splitWord_27 (h : HS) (x2 : Int32) (x3 : Int32) : Option (Int32 × HS) := (ob2 (f_X7_wordKind h x2 (x3 - x2)) (fun r_5 h_5 => (ob1 (f_X7_add h_5 r_5 x2 0) (fun h_6 => (some (x3, h_6))))))
def f_X7_splitWord_2 : Nat → HS → Int32 → Int32 → Option (Int32 × HS)
  | 0, _, _, _ => none
  | n + 1, h, x2, x3 => (if (eI h 3 1) ≤ x3 then (f_X7_splitWord_27 h x2 x3) else (ob2 (f_X5_byteAt h x3) (fun r_2 h_2 => (ob1 (f_X7_isAlpha r_2) (fun r_3 => (if r_3 = 0 then (f_X7_splitWord_27 h_2 x2 x3) else ((f_X7_splitWord_2 n) h_2 x2 (x3 + 1))))))))
theorem f_X7_splitWord_2_s (n : Nat) (h : HS) (x2 : Int32) (x3 : Int32) : f_X7_splitWord_2 (n + 1) h x2 x3 = (if (eI h 3 1) ≤ x3 then (f_X7_splitWord_27 h x2 x3) else (ob2 (f_X5_byteAt h x3) (fun r_2 h_2 => (ob1 (f_X7_isAlpha r_2) (fun r_3 => (if r_3 = 0 then (f_X7_splitWord_27 h_2 x2 x3) else ((f_X7_splitWord_2 n) h_2 x2 (x3 + 1)))))))) := rfl
def f_X7_splitWord (h : HS) (p1 : Int32) : Option (Int32 × HS) := (f_X7_splitWord_2 8589934592 h p1 p1)
theorem e_X7_isAlpha : yX7_isAlpha.cls = RX7 ∧ yX7_isAlpha.cls ≠ "java/lang/invoke/MethodHandle" ∧ yX7_isAlpha.cls ≠ "java/lang/invoke/VarHandle" ∧ (parseMethodDescriptor yX7_isAlpha.desc).map (fun d => d.parameters.length) = some 1 := by decide +kernel
theorem e_X7_wordKind : yX7_wordKind.cls = RX7 ∧ yX7_wordKind.cls ≠ "java/lang/invoke/MethodHandle" ∧ yX7_wordKind.cls ≠ "java/lang/invoke/VarHandle" ∧ (parseMethodDescriptor yX7_wordKind.desc).map (fun d => d.parameters.length) = some 3 := by decide +kernel
set_option maxHeartbeats 4000000 in
set_option maxRecDepth 100000 in
theorem c_X7_splitWord (l : Launch) (G : va_G) (cI cJ cZ cB cT : ClassId) (q : Nat → Nat) (h : HS) (p1 : Int32) (rr : Int32) (hh : HS) (hF : f_X7_splitWord h p1 = some (rr, hh)) : gMi l yX7_splitWord (gws yX7_splitWord cX7_splitWord 4 (some .int)) 6 G (gT cI cJ cZ cB cT) [.ref (q 11), .ref (q 9), .int p1] (wC q cI cJ cZ cB cT h) (fun x (_ : Unit) => x = rr) (fun (_ : Unit) => (wC q cI cJ cZ cB cT hh)) := by
  intro sz
  refine gM_start (y := yX7_splitWord) (av := [.ref (q 11), .ref (q 9), .int p1]) (ws := (wC q cI cJ cZ cB cT h)) (Qf := fun A => va_Qi (fun x (_ : Unit) => x = rr) (gB G (fun (_ : Unit) => (wC q cI cJ cZ cB cT hh)) A) A) (cc := cX7_splitWord) (maxL := 4) (ret := (some .int)) (by decide) (Nat.le_of_ble_eq_true rfl) ?_
  intro p e s m args below meth c A ls H hx hb hr hts hown hin hlocks hml hP hK hD hA hS hl hE
  have hl : lv_has ls 4 [(0, .ref (q 11)), (1, .ref (q 9)), (2, .int p1)] := hl
  have hJ_27 : ∀ (h : HS) (x2 : Int32) (x3 : Int32), f_X7_splitWord_27 h x2 x3 = some (rr, hh) → ∀ (H : Heap) (locs : List Loc) (ls : Array Slot), va_P G vwCl (wC q cI cJ cZ cB cT h) H → va_D A (wC q cI cJ cZ cB cT h) → va_S A s.heap H locs → lv_has ls 4 [(0, .ref (q 11)), (1, .ref (q 9)), (2, .int x2), (3, .int x3)] → W p l e (gRm 6) s m args below meth c H locs 0 0 (MQ below (va_Qi (fun x (_ : Unit) => x = rr) (gB G (fun (_ : Unit) => (wC q cI cJ cZ cB cT hh)) A) A) args s 0 0 A) (F0 m 27 ls []) := by
    intro h x2 x3 hF H locs ls hP hD hS hl
    unfold f_X7_splitWord_27 at hF
    refine lv_aload_n hx hb dX7_splitWord_27 rfl (lv_at hl 0 rfl) ?_
    refine lv_aload_n hx hb dX7_splitWord_28 rfl (lv_at hl 1 rfl) ?_
    refine lv_iload_n hx hb dX7_splitWord_29 rfl (lv_at hl 2 rfl) ?_
    refine lv_iload_n hx hb dX7_splitWord_30 rfl (lv_at hl 3 rfl) ?_
    refine lv_iload_n hx hb dX7_splitWord_31 rfl (lv_at hl 2 rfl) ?_
    refine lv_isub hx hb dX7_splitWord_32 ?_
    obtain ⟨r_5, h_5, e_5, hF⟩ := ob2_some hF
    refine gx_calli (gx_runS (As := [.ref (q 9), .int x2, .int (x3 - x2)]) (rest := [.ref (q 11)]) ⟨hx, hb, hml, hown, hts⟩ (c_X7_wordKind l G cI cJ cZ cB cT q h x2 (x3 - x2) r_5 h_5 e_5 H.size) (gG_S m_536 m_537 m_417 m_535) rfl e_X7_wordKind ⟨Nat.le_of_ble_eq_true rfl, Nat.le_of_ble_eq_true rfl⟩ hK hP hD hE hS hA rfl hl.1 rfl (Nat.le_of_ble_eq_true rfl) dX7_splitWord_33 ⟨Nat.le_refl _, Nat.le_refl _⟩) hP hD hS hA (fun x_5 u_5 H locs hw_5 hP hD hS => ?_)
    subst x_5
    refine lv_iload_n hx hb dX7_splitWord_36 rfl (lv_at hl 2 rfl) ?_
    refine lv_iconst (v := 0) hx hb dX7_splitWord_37 (by decide) ?_
    obtain ⟨h_6, e_6, hF⟩ := ob1_some hF
    refine gx_callv (gx_runV (As := [.int r_5, .int x2, .int 0]) (rest := []) ⟨hx, hb, hml, hown, hts⟩ (c_X7_add l G cI cJ cZ cB cT q h_5 r_5 x2 0 h_6 e_6 H.size) (gG_V m_420 m_421 m_422 m_417 m_419) rfl e_X7_add ⟨Nat.le_of_ble_eq_true rfl, Nat.le_of_ble_eq_true rfl⟩ hK hP hD hE hS hA 11 wC_at11 rfl rfl hl.1 rfl (Nat.le_of_ble_eq_true rfl) dX7_splitWord_38 ⟨Nat.le_refl _, Nat.le_refl _⟩) hP hD hS hA (fun u_6 H locs hw_6 hP hD hS => ?_)
    refine lv_iload_n hx hb dX7_splitWord_41 rfl (lv_at hl 3 rfl) ?_
    obtain ⟨rfl, rfl⟩ := ob_pair hF
    exact gw_iret () hx hb hr hlocks hP hD hS rfl dX7_splitWord_42
  have hJ_2 : ∀ (n_2 : Nat) (h : HS) (x2 : Int32) (x3 : Int32), f_X7_splitWord_2 n_2 h x2 x3 = some (rr, hh) → ∀ (H : Heap) (locs : List Loc) (ls : Array Slot), va_P G vwCl (wC q cI cJ cZ cB cT h) H → va_D A (wC q cI cJ cZ cB cT h) → va_S A s.heap H locs → lv_has ls 4 [(0, .ref (q 11)), (1, .ref (q 9)), (2, .int x2), (3, .int x3)] → W p l e (gRm 6) s m args below meth c H locs 0 0 (MQ below (va_Qi (fun x (_ : Unit) => x = rr) (gB G (fun (_ : Unit) => (wC q cI cJ cZ cB cT hh)) A) A) args s 0 0 A) (F0 m 2 ls []) := by
    intro n_2
    induction n_2 with
    | zero =>
      intro h x2 x3 hF
      exact absurd hF (by simp [f_X7_splitWord_2])
    | succ n_2 ih_2 =>
      intro h x2 x3 hF H locs ls hP hD hS hl
      rw [f_X7_splitWord_2_s] at hF
      refine lv_iload_n hx hb dX7_splitWord_2 rfl (lv_at hl 3 rfl) ?_
      refine lv_aload_n hx hb dX7_splitWord_3 rfl (lv_at hl 1 rfl) ?_
      refine va_get (D := G) (ci := 5) (v := .int (eI h 3 1)) (C := RX5) (T := TX5) (N := 2) hx hb hts iX5 hown hK hP 9 wC_at9 rfl 1 (by decide) (hts _ m_408) (fun _ h9 => h9) rfl dX7_splitWord_4 ?_
      refine lv_icmp_ge (tgt := 27) hx hb dX7_splitWord_7 (by decide) (fun c_1 => ?_) (fun c_1 => ?_)
      · have hF := ob_pos c_1 hF
        exact hJ_27 h x2 x3 hF H _ ls hP hD hS (lv_sub hl [0, 1, 2, 3] rfl)
      · have hF := ob_neg c_1 hF
        refine lv_aload_n hx hb dX7_splitWord_10 rfl (lv_at hl 1 rfl) ?_
        refine lv_iload_n hx hb dX7_splitWord_11 rfl (lv_at hl 3 rfl) ?_
        obtain ⟨r_2, h_2, e_2, hF⟩ := ob2_some hF
        refine gx_calli (gx_runV (As := [.int x3]) (rest := []) ⟨hx, hb, hml, hown, hts⟩ (c_X5_byteAt l G cI cJ cZ cB cT q h x3 r_2 h_2 e_2 H.size) (gG_V m_410 m_411 m_412 m_413 m_409) rfl e_X5_byteAt ⟨Nat.le_of_ble_eq_true rfl, Nat.le_of_ble_eq_true rfl⟩ hK hP hD hE hS hA 9 wC_at9 rfl rfl hl.1 rfl (Nat.le_of_ble_eq_true rfl) dX7_splitWord_12 ⟨Nat.le_refl _, Nat.le_refl _⟩) hP hD hS hA (fun x_2 u_2 H locs hw_2 hP hD hS => ?_)
        subst x_2
        obtain ⟨r_3, e_3, hF⟩ := ob1_some hF
        refine gx_calli0 (gx_runS0 (As := [.int r_2]) (rest := []) ⟨hx, hb, hml, hown, hts⟩ (c_X7_isAlpha l G cI cJ cZ cB cT   r_2 r_3 e_3 H.size) (gG_S m_533 m_534 m_417 m_532) rfl e_X7_isAlpha ⟨Nat.le_of_ble_eq_true rfl, Nat.le_of_ble_eq_true rfl⟩ hK hE hS hA rfl hl.1 rfl (Nat.le_of_ble_eq_true rfl) dX7_splitWord_15 ⟨Nat.le_refl _, Nat.le_refl _⟩) hP hD hS hA (fun x_3 u_3 H locs hw_3 hP hD hS => ?_)
        subst x_3
        refine lv_if_eq (tgt := 27) hx hb dX7_splitWord_18 (by decide) (fun c_4 => ?_) (fun c_4 => ?_)
        · have hF := ob_pos c_4 hF
          exact hJ_27 h_2 x2 x3 hF H _ ls hP hD hS (lv_sub hl [0, 1, 2, 3] rfl)
        · have hF := ob_neg c_4 hF
          refine lv_iinc (v := (x3 + 1)) (lv' := [(3, .int (x3 + 1)), (0, .ref (q 11)), (1, .ref (q 9)), (2, .int x2)]) hx hb dX7_splitWord_21 hl (k := 3) rfl rfl (by decide) rfl (fun ls hl => ?_)
          refine lv_goto (tgt := 2) hx hb dX7_splitWord_24 (by decide) ?_
          exact ih_2 h_2 x2 (x3 + 1) hF H _ ls hP hD hS (lv_sub hl [1, 2, 3, 0] rfl)
  unfold f_X7_splitWord at hF
  refine lv_iload_n hx hb dX7_splitWord_0 rfl (lv_at hl 2 rfl) ?_
  refine lv_istore_n (lv' := [(3, .int p1), (0, .ref (q 11)), (1, .ref (q 9)), (2, .int p1)]) hx hb dX7_splitWord_1 rfl hl (by decide) rfl (fun ls hl => ?_)
  exact hJ_2 8589934592 h p1 p1 hF H _ ls hP hD hS (lv_sub hl [1, 2, 3, 0] rfl)
def f_X7_split_99 (h : HS) : Option HS := (ob1 (f_X7_add h 0 (eI h 3 1) 0) (fun h_13 => (some h_13)))
def f_X7_split_93 (k14 : HS → Int32 → Int32 → Option HS) (h : HS) (x2 : Int32) (x3 : Int32) : Option HS := (k14 h x2 (x3 + 1))
def f_X7_split_14 : Nat → HS → Int32 → Int32 → Option HS
  | 0, _, _, _ => none
  | n + 1, h, x2, x3 => (if 300 ≤ x3 then (f_X7_split_99 h) else (if (eI h 3 1) ≤ x2 then (f_X7_split_99 h) else (ob2 (f_X5_byteAt h x2) (fun r_3 h_3 => (ob1 (f_X7_isBlank r_3) (fun r_4 => (if r_4 = 0 then (ob1 (f_X7_isAlpha r_3) (fun r_6 => (if r_6 = 0 then (ob1 (f_X7_isNumeral r_3) (fun r_8 => (if r_8 = 0 then (ob2 (f_X7_splitSign h_3 x2) (fun r_10 h_10 => (f_X7_split_93 (f_X7_split_14 n) h_10 r_10 x3))) else (ob2 (f_X7_splitNumber h_3 x2) (fun r_11 h_11 => (f_X7_split_93 (f_X7_split_14 n) h_11 r_11 x3)))))) else (ob2 (f_X7_splitWord h_3 x2) (fun r_12 h_12 => (f_X7_split_93 (f_X7_split_14 n) h_12 r_12 x3)))))) else (f_X7_split_93 (f_X7_split_14 n) h_3 (x2 + 1) x3))))))))
theorem f_X7_split_14_s (n : Nat) (h : HS) (x2 : Int32) (x3 : Int32) : f_X7_split_14 (n + 1) h x2 x3 = (if 300 ≤ x3 then (f_X7_split_99 h) else (if (eI h 3 1) ≤ x2 then (f_X7_split_99 h) else (ob2 (f_X5_byteAt h x2) (fun r_3 h_3 => (ob1 (f_X7_isBlank r_3) (fun r_4 => (if r_4 = 0 then (ob1 (f_X7_isAlpha r_3) (fun r_6 => (if r_6 = 0 then (ob1 (f_X7_isNumeral r_3) (fun r_8 => (if r_8 = 0 then (ob2 (f_X7_splitSign h_3 x2) (fun r_10 h_10 => (f_X7_split_93 (f_X7_split_14 n) h_10 r_10 x3))) else (ob2 (f_X7_splitNumber h_3 x2) (fun r_11 h_11 => (f_X7_split_93 (f_X7_split_14 n) h_11 r_11 x3)))))) else (ob2 (f_X7_splitWord h_3 x2) (fun r_12 h_12 => (f_X7_split_93 (f_X7_split_14 n) h_12 r_12 x3)))))) else (f_X7_split_93 (f_X7_split_14 n) h_3 (x2 + 1) x3)))))))) := rfl
def f_X7_split (h : HS) : Option HS := (f_X7_split_14 8589934592 (sI (sI h 4 4 0) 4 3 0) 0 0)
theorem e_X7_isBlank : yX7_isBlank.cls = RX7 ∧ yX7_isBlank.cls ≠ "java/lang/invoke/MethodHandle" ∧ yX7_isBlank.cls ≠ "java/lang/invoke/VarHandle" ∧ (parseMethodDescriptor yX7_isBlank.desc).map (fun d => d.parameters.length) = some 1 := by decide +kernel
theorem e_X7_splitNumber : yX7_splitNumber.cls = RX7 ∧ yX7_splitNumber.cls ≠ "java/lang/invoke/MethodHandle" ∧ yX7_splitNumber.cls ≠ "java/lang/invoke/VarHandle" ∧ (parseMethodDescriptor yX7_splitNumber.desc).map (fun d => d.parameters.length) = some 2 := by decide +kernel
theorem e_X7_splitSign : yX7_splitSign.cls = RX7 ∧ yX7_splitSign.cls ≠ "java/lang/invoke/MethodHandle" ∧ yX7_splitSign.cls ≠ "java/lang/invoke/VarHandle" ∧ (parseMethodDescriptor yX7_splitSign.desc).map (fun d => d.parameters.length) = some 2 := by decide +kernel
theorem e_X7_splitWord : yX7_splitWord.cls = RX7 ∧ yX7_splitWord.cls ≠ "java/lang/invoke/MethodHandle" ∧ yX7_splitWord.cls ≠ "java/lang/invoke/VarHandle" ∧ (parseMethodDescriptor yX7_splitWord.desc).map (fun d => d.parameters.length) = some 2 := by decide +kernel
set_option maxHeartbeats 4000000 in
set_option maxRecDepth 100000 in
theorem c_X7_split (l : Launch) (G : va_G) (cI cJ cZ cB cT : ClassId) (q : Nat → Nat) (h : HS)  (hh : HS) (hF : f_X7_split h = some hh) : gMv l yX7_split (gws yX7_split cX7_split 5 none) 7 G (gT cI cJ cZ cB cT) [.ref (q 11), .ref (q 9)] (wC q cI cJ cZ cB cT h) (fun (_ : Unit) => True) (fun (_ : Unit) => (wC q cI cJ cZ cB cT hh)) := by
  intro sz
  refine gM_start (y := yX7_split) (av := [.ref (q 11), .ref (q 9)]) (ws := (wC q cI cJ cZ cB cT h)) (Qf := fun A => va_Qv (fun (_ : Unit) => True) (gB G (fun (_ : Unit) => (wC q cI cJ cZ cB cT hh)) A) A) (cc := cX7_split) (maxL := 5) (ret := none) (by decide) (Nat.le_of_ble_eq_true rfl) ?_
  intro p e s m args below meth c A ls H hx hb hr hts hown hin hlocks hml hP hK hD hA hS hl hE
  have hl : lv_has ls 5 [(0, .ref (q 11)), (1, .ref (q 9))] := hl
  have hJ_99 : ∀ (h : HS), f_X7_split_99 h = some hh → ∀ (H : Heap) (locs : List Loc) (ls : Array Slot), va_P G vwCl (wC q cI cJ cZ cB cT h) H → va_D A (wC q cI cJ cZ cB cT h) → va_S A s.heap H locs → lv_has ls 5 [(0, .ref (q 11)), (1, .ref (q 9))] → W p l e (gRm 7) s m args below meth c H locs 0 0 (MQ below (va_Qv (fun (_ : Unit) => True) (gB G (fun (_ : Unit) => (wC q cI cJ cZ cB cT hh)) A) A) args s 0 0 A) (F0 m 99 ls []) := by
    intro h hF H locs ls hP hD hS hl
    unfold f_X7_split_99 at hF
    refine lv_aload_n hx hb dX7_split_99 rfl (lv_at hl 0 rfl) ?_
    refine lv_iconst (v := 0) hx hb dX7_split_100 (by decide) ?_
    refine lv_aload_n hx hb dX7_split_101 rfl (lv_at hl 1 rfl) ?_
    refine va_get (D := G) (ci := 5) (v := .int (eI h 3 1)) (C := RX5) (T := TX5) (N := 2) hx hb hts iX5 hown hK hP 9 wC_at9 rfl 1 (by decide) (hts _ m_408) (fun _ h9 => h9) rfl dX7_split_102 ?_
    refine lv_iconst (v := 0) hx hb dX7_split_105 (by decide) ?_
    obtain ⟨h_13, e_13, hF⟩ := ob1_some hF
    refine gx_callv (gx_runV (As := [.int 0, .int (eI h 3 1), .int 0]) (rest := []) ⟨hx, hb, hml, hown, hts⟩ (c_X7_add l G cI cJ cZ cB cT q h 0 (eI h 3 1) 0 h_13 e_13 H.size) (gG_V m_420 m_421 m_422 m_417 m_419) rfl e_X7_add ⟨Nat.le_of_ble_eq_true rfl, Nat.le_of_ble_eq_true rfl⟩ hK hP hD hE hS hA 11 wC_at11 rfl rfl hl.1 rfl (Nat.le_of_ble_eq_true rfl) dX7_split_106 ⟨Nat.le_refl _, Nat.le_refl _⟩) hP hD hS hA (fun u_13 H locs hw_13 hP hD hS => ?_)
    obtain rfl := ob_one hF
    exact gw_vret () hx hb hr hlocks hP hD hS trivial dX7_split_109
  have hJ_14 : ∀ (n_14 : Nat) (h : HS) (x2 : Int32) (x3 : Int32), f_X7_split_14 n_14 h x2 x3 = some hh → ∀ (H : Heap) (locs : List Loc) (ls : Array Slot), va_P G vwCl (wC q cI cJ cZ cB cT h) H → va_D A (wC q cI cJ cZ cB cT h) → va_S A s.heap H locs → lv_has ls 5 [(0, .ref (q 11)), (1, .ref (q 9)), (2, .int x2), (3, .int x3)] → W p l e (gRm 7) s m args below meth c H locs 0 0 (MQ below (va_Qv (fun (_ : Unit) => True) (gB G (fun (_ : Unit) => (wC q cI cJ cZ cB cT hh)) A) A) args s 0 0 A) (F0 m 14 ls []) := by
    intro n_14
    induction n_14 with
    | zero =>
      intro h x2 x3 hF
      exact absurd hF (by simp [f_X7_split_14])
    | succ n_14 ih_14 =>
      have hJ_93 : ∀ (h : HS) (x2 : Int32) (x3 : Int32), f_X7_split_93 (f_X7_split_14 n_14) h x2 x3 = some hh → ∀ (H : Heap) (locs : List Loc) (ls : Array Slot), va_P G vwCl (wC q cI cJ cZ cB cT h) H → va_D A (wC q cI cJ cZ cB cT h) → va_S A s.heap H locs → lv_has ls 5 [(0, .ref (q 11)), (1, .ref (q 9)), (2, .int x2), (3, .int x3)] → W p l e (gRm 7) s m args below meth c H locs 0 0 (MQ below (va_Qv (fun (_ : Unit) => True) (gB G (fun (_ : Unit) => (wC q cI cJ cZ cB cT hh)) A) A) args s 0 0 A) (F0 m 93 ls []) := by
        intro h x2 x3 hF H locs ls hP hD hS hl
        unfold f_X7_split_93 at hF
        refine lv_iinc (v := (x3 + 1)) (lv' := [(3, .int (x3 + 1)), (0, .ref (q 11)), (1, .ref (q 9)), (2, .int x2)]) hx hb dX7_split_93 hl (k := 3) rfl rfl (by decide) rfl (fun ls hl => ?_)
        refine lv_goto (tgt := 14) hx hb dX7_split_96 (by decide) ?_
        exact ih_14 h x2 (x3 + 1) hF H _ ls hP hD hS (lv_sub hl [1, 2, 3, 0] rfl)
      intro h x2 x3 hF H locs ls hP hD hS hl
      rw [f_X7_split_14_s] at hF
      refine lv_iload_n hx hb dX7_split_14 rfl (lv_at hl 3 rfl) ?_
      refine lv_sipush (v := 300) hx hb dX7_split_15 (by decide) ?_
      refine lv_icmp_ge (tgt := 99) hx hb dX7_split_18 (by decide) (fun c_1 => ?_) (fun c_1 => ?_)
      · have hF := ob_pos c_1 hF
        exact hJ_99 h hF H _ ls hP hD hS (lv_sub hl [0, 1] rfl)
      · have hF := ob_neg c_1 hF
        refine lv_iload_n hx hb dX7_split_21 rfl (lv_at hl 2 rfl) ?_
        refine lv_aload_n hx hb dX7_split_22 rfl (lv_at hl 1 rfl) ?_
        refine va_get (D := G) (ci := 5) (v := .int (eI h 3 1)) (C := RX5) (T := TX5) (N := 2) hx hb hts iX5 hown hK hP 9 wC_at9 rfl 1 (by decide) (hts _ m_408) (fun _ h9 => h9) rfl dX7_split_23 ?_
        refine lv_icmp_ge (tgt := 99) hx hb dX7_split_26 (by decide) (fun c_2 => ?_) (fun c_2 => ?_)
        · have hF := ob_pos c_2 hF
          exact hJ_99 h hF H _ ls hP hD hS (lv_sub hl [0, 1] rfl)
        · have hF := ob_neg c_2 hF
          refine lv_aload_n hx hb dX7_split_29 rfl (lv_at hl 1 rfl) ?_
          refine lv_iload_n hx hb dX7_split_30 rfl (lv_at hl 2 rfl) ?_
          obtain ⟨r_3, h_3, e_3, hF⟩ := ob2_some hF
          refine gx_calli (gx_runV (As := [.int x2]) (rest := []) ⟨hx, hb, hml, hown, hts⟩ (c_X5_byteAt l G cI cJ cZ cB cT q h x2 r_3 h_3 e_3 H.size) (gG_V m_410 m_411 m_412 m_413 m_409) rfl e_X5_byteAt ⟨Nat.le_of_ble_eq_true rfl, Nat.le_of_ble_eq_true rfl⟩ hK hP hD hE hS hA 9 wC_at9 rfl rfl hl.1 rfl (Nat.le_of_ble_eq_true rfl) dX7_split_31 ⟨Nat.le_refl _, Nat.le_refl _⟩) hP hD hS hA (fun x_3 u_3 H locs hw_3 hP hD hS => ?_)
          subst x_3
          refine lv_istore (lv' := [(4, .int r_3), (0, .ref (q 11)), (1, .ref (q 9)), (2, .int x2), (3, .int x3)]) hx hb dX7_split_34 hl (by decide) rfl (fun ls hl => ?_)
          refine lv_iload hx hb dX7_split_36 (lv_at hl 0 rfl) ?_
          obtain ⟨r_4, e_4, hF⟩ := ob1_some hF
          refine gx_calli0 (gx_runS0 (As := [.int r_3]) (rest := []) ⟨hx, hb, hml, hown, hts⟩ (c_X7_isBlank l G cI cJ cZ cB cT   r_3 r_4 e_4 H.size) (gG_S m_539 m_540 m_417 m_538) rfl e_X7_isBlank ⟨Nat.le_of_ble_eq_true rfl, Nat.le_of_ble_eq_true rfl⟩ hK hE hS hA rfl hl.1 rfl (Nat.le_of_ble_eq_true rfl) dX7_split_38 ⟨Nat.le_refl _, Nat.le_refl _⟩) hP hD hS hA (fun x_4 u_4 H locs hw_4 hP hD hS => ?_)
          subst x_4
          refine lv_if_eq (tgt := 50) hx hb dX7_split_41 (by decide) (fun c_5 => ?_) (fun c_5 => ?_)
          · have hF := ob_pos c_5 hF
            refine lv_iload hx hb dX7_split_50 (lv_at hl 0 rfl) ?_
            obtain ⟨r_6, e_6, hF⟩ := ob1_some hF
            refine gx_calli0 (gx_runS0 (As := [.int r_3]) (rest := []) ⟨hx, hb, hml, hown, hts⟩ (c_X7_isAlpha l G cI cJ cZ cB cT   r_3 r_6 e_6 H.size) (gG_S m_533 m_534 m_417 m_532) rfl e_X7_isAlpha ⟨Nat.le_of_ble_eq_true rfl, Nat.le_of_ble_eq_true rfl⟩ hK hE hS hA rfl hl.1 rfl (Nat.le_of_ble_eq_true rfl) dX7_split_52 ⟨Nat.le_refl _, Nat.le_refl _⟩) hP hD hS hA (fun x_6 u_6 H locs hw_6 hP hD hS => ?_)
            subst x_6
            refine lv_if_eq (tgt := 68) hx hb dX7_split_55 (by decide) (fun c_7 => ?_) (fun c_7 => ?_)
            · have hF := ob_pos c_7 hF
              refine lv_iload hx hb dX7_split_68 (lv_at hl 0 rfl) ?_
              obtain ⟨r_8, e_8, hF⟩ := ob1_some hF
              refine gx_calli0 (gx_runS0 (As := [.int r_3]) (rest := []) ⟨hx, hb, hml, hown, hts⟩ (c_X7_isNumeral l G cI cJ cZ cB cT   r_3 r_8 e_8 H.size) (gG_S m_415 m_416 m_417 m_414) rfl e_X7_isNumeral ⟨Nat.le_of_ble_eq_true rfl, Nat.le_of_ble_eq_true rfl⟩ hK hE hS hA rfl hl.1 rfl (Nat.le_of_ble_eq_true rfl) dX7_split_70 ⟨Nat.le_refl _, Nat.le_refl _⟩) hP hD hS hA (fun x_8 u_8 H locs hw_8 hP hD hS => ?_)
              subst x_8
              refine lv_if_eq (tgt := 86) hx hb dX7_split_73 (by decide) (fun c_9 => ?_) (fun c_9 => ?_)
              · have hF := ob_pos c_9 hF
                refine lv_aload_n hx hb dX7_split_86 rfl (lv_at hl 1 rfl) ?_
                refine lv_aload_n hx hb dX7_split_87 rfl (lv_at hl 2 rfl) ?_
                refine lv_iload_n hx hb dX7_split_88 rfl (lv_at hl 3 rfl) ?_
                obtain ⟨r_10, h_10, e_10, hF⟩ := ob2_some hF
                refine gx_calli (gx_runV (As := [.ref (q 9), .int x2]) (rest := []) ⟨hx, hb, hml, hown, hts⟩ (c_X7_splitSign l G cI cJ cZ cB cT q h_3 x2 r_10 h_10 e_10 H.size) (gG_V m_542 m_543 m_544 m_417 m_541) rfl e_X7_splitSign ⟨Nat.le_of_ble_eq_true rfl, Nat.le_of_ble_eq_true rfl⟩ hK hP hD hE hS hA 11 wC_at11 rfl rfl hl.1 rfl (Nat.le_of_ble_eq_true rfl) dX7_split_89 ⟨Nat.le_refl _, Nat.le_refl _⟩) hP hD hS hA (fun x_10 u_10 H locs hw_10 hP hD hS => ?_)
                subst x_10
                refine lv_istore_n (lv' := [(2, .int r_10), (4, .int r_3), (0, .ref (q 11)), (1, .ref (q 9)), (3, .int x3)]) hx hb dX7_split_92 rfl hl (by decide) rfl (fun ls hl => ?_)
                exact hJ_93 h_10 r_10 x3 hF H _ ls hP hD hS (lv_sub hl [2, 3, 0, 4] rfl)
              · have hF := ob_neg c_9 hF
                refine lv_aload_n hx hb dX7_split_76 rfl (lv_at hl 1 rfl) ?_
                refine lv_aload_n hx hb dX7_split_77 rfl (lv_at hl 2 rfl) ?_
                refine lv_iload_n hx hb dX7_split_78 rfl (lv_at hl 3 rfl) ?_
                obtain ⟨r_11, h_11, e_11, hF⟩ := ob2_some hF
                refine gx_calli (gx_runV (As := [.ref (q 9), .int x2]) (rest := []) ⟨hx, hb, hml, hown, hts⟩ (c_X7_splitNumber l G cI cJ cZ cB cT q h_3 x2 r_11 h_11 e_11 H.size) (gG_V m_546 m_547 m_548 m_417 m_545) rfl e_X7_splitNumber ⟨Nat.le_of_ble_eq_true rfl, Nat.le_of_ble_eq_true rfl⟩ hK hP hD hE hS hA 11 wC_at11 rfl rfl hl.1 rfl (Nat.le_of_ble_eq_true rfl) dX7_split_79 ⟨Nat.le_refl _, Nat.le_refl _⟩) hP hD hS hA (fun x_11 u_11 H locs hw_11 hP hD hS => ?_)
                subst x_11
                refine lv_istore_n (lv' := [(2, .int r_11), (4, .int r_3), (0, .ref (q 11)), (1, .ref (q 9)), (3, .int x3)]) hx hb dX7_split_82 rfl hl (by decide) rfl (fun ls hl => ?_)
                refine lv_goto (tgt := 93) hx hb dX7_split_83 (by decide) ?_
                exact hJ_93 h_11 r_11 x3 hF H _ ls hP hD hS (lv_sub hl [2, 3, 0, 4] rfl)
            · have hF := ob_neg c_7 hF
              refine lv_aload_n hx hb dX7_split_58 rfl (lv_at hl 1 rfl) ?_
              refine lv_aload_n hx hb dX7_split_59 rfl (lv_at hl 2 rfl) ?_
              refine lv_iload_n hx hb dX7_split_60 rfl (lv_at hl 3 rfl) ?_
              obtain ⟨r_12, h_12, e_12, hF⟩ := ob2_some hF
              refine gx_calli (gx_runV (As := [.ref (q 9), .int x2]) (rest := []) ⟨hx, hb, hml, hown, hts⟩ (c_X7_splitWord l G cI cJ cZ cB cT q h_3 x2 r_12 h_12 e_12 H.size) (gG_V m_550 m_551 m_552 m_417 m_549) rfl e_X7_splitWord ⟨Nat.le_of_ble_eq_true rfl, Nat.le_of_ble_eq_true rfl⟩ hK hP hD hE hS hA 11 wC_at11 rfl rfl hl.1 rfl (Nat.le_of_ble_eq_true rfl) dX7_split_61 ⟨Nat.le_refl _, Nat.le_refl _⟩) hP hD hS hA (fun x_12 u_12 H locs hw_12 hP hD hS => ?_)
              subst x_12
              refine lv_istore_n (lv' := [(2, .int r_12), (4, .int r_3), (0, .ref (q 11)), (1, .ref (q 9)), (3, .int x3)]) hx hb dX7_split_64 rfl hl (by decide) rfl (fun ls hl => ?_)
              refine lv_goto (tgt := 93) hx hb dX7_split_65 (by decide) ?_
              exact hJ_93 h_12 r_12 x3 hF H _ ls hP hD hS (lv_sub hl [2, 3, 0, 4] rfl)
          · have hF := ob_neg c_5 hF
            refine lv_iinc (v := (x2 + 1)) (lv' := [(2, .int (x2 + 1)), (4, .int r_3), (0, .ref (q 11)), (1, .ref (q 9)), (3, .int x3)]) hx hb dX7_split_44 hl (k := 3) rfl rfl (by decide) rfl (fun ls hl => ?_)
            refine lv_goto (tgt := 93) hx hb dX7_split_47 (by decide) ?_
            exact hJ_93 h_3 (x2 + 1) x3 hF H _ ls hP hD hS (lv_sub hl [2, 3, 0, 4] rfl)
  unfold f_X7_split at hF
  refine lv_aload_n hx hb dX7_split_0 rfl (lv_at hl 0 rfl) ?_
  refine lv_iconst (v := 0) hx hb dX7_split_1 (by decide) ?_
  refine va_put (D := G) (ci := 7) (v := .int 0) (ty := .int) (C := RX7) (T := TX7) (N := 5) hx hb hts iX7 tyX7 tyX7_ok nmX7 hown hK hP hD hS 11 wC_at11 rfl 4 (by decide) (hts _ m_403) (fun _ h9 => h9) rfl (tyX7_ok 4 (by decide)) rfl rfl (Nat.le_of_ble_eq_true rfl) dX7_split_2 (fun H locs hP hD hS => ?_)
  rw [wC_sI11_4] at hP hD
  refine lv_aload_n hx hb dX7_split_5 rfl (lv_at hl 0 rfl) ?_
  refine lv_iconst (v := 0) hx hb dX7_split_6 (by decide) ?_
  refine va_put (D := G) (ci := 7) (v := .int 0) (ty := .int) (C := RX7) (T := TX7) (N := 5) hx hb hts iX7 tyX7 tyX7_ok nmX7 hown hK hP hD hS 11 wC_at11 rfl 3 (by decide) (hts _ m_404) (fun _ h9 => h9) rfl (tyX7_ok 3 (by decide)) rfl rfl (Nat.le_of_ble_eq_true rfl) dX7_split_7 (fun H locs hP hD hS => ?_)
  rw [wC_sI11_3] at hP hD
  refine lv_iconst (v := 0) hx hb dX7_split_10 (by decide) ?_
  refine lv_istore_n (lv' := [(2, .int 0), (0, .ref (q 11)), (1, .ref (q 9))]) hx hb dX7_split_11 rfl hl (by decide) rfl (fun ls hl => ?_)
  refine lv_iconst (v := 0) hx hb dX7_split_12 (by decide) ?_
  refine lv_istore_n (lv' := [(3, .int 0), (2, .int 0), (0, .ref (q 11)), (1, .ref (q 9))]) hx hb dX7_split_13 rfl hl (by decide) rfl (fun ls hl => ?_)
  exact hJ_14 8589934592 (sI (sI h 4 4 0) 4 3 0) 0 0 hF H _ ls hP hD hS (lv_sub hl [2, 3, 1, 0] rfl)
set_option maxHeartbeats 4000000 in
set_option maxRecDepth 100000 in
theorem c_textOf_0 (l : Launch) (G : va_G) (cI cJ cZ cB cT : ClassId) (q : Nat → Nat) (h : HS) : gMq l yX1_textOf (gws yX1_textOf cX1_textOf 2 (some (.object "GooseLetters$Text"))) 1 G (gT cI cJ cZ cB cT) [.ref (q 16), .int 0] (wC q cI cJ cZ cB cT h) (fun x (_ : Unit) => x = some (q 32)) (fun (_ : Unit) => (wC q cI cJ cZ cB cT h)) := by
  intro sz
  refine gM_start (y := yX1_textOf) (av := [.ref (q 16), .int 0]) (ws := (wC q cI cJ cZ cB cT h)) (Qf := fun A => va_Qq (fun x (_ : Unit) => x = some (q 32)) (gB G (fun (_ : Unit) => (wC q cI cJ cZ cB cT h)) A) A) (cc := cX1_textOf) (maxL := 2) (ret := (some (.object "GooseLetters$Text"))) (by decide) (Nat.le_of_ble_eq_true rfl) ?_
  intro p e s m args below meth c A ls H hx hb hr hts hown hin hlocks hml hP hK hD hA hS hl hE
  have hl : lv_has ls 2 [(0, .ref (q 16)), (1, .int 0)] := hl
  refine lv_iload_n hx hb dX1_textOf_0 rfl (lv_at hl 1 rfl) ?_
  refine lv_if_lt (tgt := 18) hx hb dX1_textOf_1 (by decide) (fun c => absurd c (by decide)) (fun _ => ?_)
  refine lv_iload_n hx hb dX1_textOf_4 rfl (lv_at hl 1 rfl) ?_
  refine lv_iconst (v := 4) hx hb dX1_textOf_5 (by decide) ?_
  refine lv_icmp_ge (tgt := 18) hx hb dX1_textOf_6 (by decide) (fun c => absurd c (by decide)) (fun _ => ?_)
  refine lv_aload_n hx hb dX1_textOf_9 rfl (lv_at hl 0 rfl) ?_
  refine va_get (D := G) (ci := 1) (v := .ref (q 17)) (C := RX1) (T := TX1) (N := 4) hx hb hts iX1 hown hK hP 16 wC_at16 rfl 0 (by decide) (hts _ m_553) (fun _ h9 => h9) rfl dX1_textOf_10 ?_
  refine lv_iload_n hx hb dX1_textOf_13 rfl (lv_at hl 1 rfl) ?_
  refine gw_aldq (x := some (q 32)) hx hb hK hP 17 4 0 wC_at17 rfl rfl (by decide) (by decide) rfl dX1_textOf_14 ?_
  refine lv_goto (tgt := 19) hx hb dX1_textOf_15 (by decide) ?_
  exact gw_qret () hx hb hr hlocks hP hD hS rfl dX1_textOf_19
theorem c_textOf_e0 (l : Launch) (G : va_G) (cI cJ cZ cB cT : ClassId) (q : Nat → Nat) (h : HS) (p1 : Int32) (e1 : p1 = 0) : gMq l yX1_textOf (gws yX1_textOf cX1_textOf 2 (some (.object "GooseLetters$Text"))) 1 G (gT cI cJ cZ cB cT) [.ref (q 16), .int p1] (wC q cI cJ cZ cB cT h) (fun x (_ : Unit) => x = some (q 32)) (fun (_ : Unit) => (wC q cI cJ cZ cB cT h)) := by
  subst e1
  exact c_textOf_0 l G cI cJ cZ cB cT q h
set_option maxHeartbeats 4000000 in
set_option maxRecDepth 100000 in
theorem c_textOf_1 (l : Launch) (G : va_G) (cI cJ cZ cB cT : ClassId) (q : Nat → Nat) (h : HS) : gMq l yX1_textOf (gws yX1_textOf cX1_textOf 2 (some (.object "GooseLetters$Text"))) 1 G (gT cI cJ cZ cB cT) [.ref (q 16), .int 1] (wC q cI cJ cZ cB cT h) (fun x (_ : Unit) => x = some (q 37)) (fun (_ : Unit) => (wC q cI cJ cZ cB cT h)) := by
  intro sz
  refine gM_start (y := yX1_textOf) (av := [.ref (q 16), .int 1]) (ws := (wC q cI cJ cZ cB cT h)) (Qf := fun A => va_Qq (fun x (_ : Unit) => x = some (q 37)) (gB G (fun (_ : Unit) => (wC q cI cJ cZ cB cT h)) A) A) (cc := cX1_textOf) (maxL := 2) (ret := (some (.object "GooseLetters$Text"))) (by decide) (Nat.le_of_ble_eq_true rfl) ?_
  intro p e s m args below meth c A ls H hx hb hr hts hown hin hlocks hml hP hK hD hA hS hl hE
  have hl : lv_has ls 2 [(0, .ref (q 16)), (1, .int 1)] := hl
  refine lv_iload_n hx hb dX1_textOf_0 rfl (lv_at hl 1 rfl) ?_
  refine lv_if_lt (tgt := 18) hx hb dX1_textOf_1 (by decide) (fun c => absurd c (by decide)) (fun _ => ?_)
  refine lv_iload_n hx hb dX1_textOf_4 rfl (lv_at hl 1 rfl) ?_
  refine lv_iconst (v := 4) hx hb dX1_textOf_5 (by decide) ?_
  refine lv_icmp_ge (tgt := 18) hx hb dX1_textOf_6 (by decide) (fun c => absurd c (by decide)) (fun _ => ?_)
  refine lv_aload_n hx hb dX1_textOf_9 rfl (lv_at hl 0 rfl) ?_
  refine va_get (D := G) (ci := 1) (v := .ref (q 17)) (C := RX1) (T := TX1) (N := 4) hx hb hts iX1 hown hK hP 16 wC_at16 rfl 0 (by decide) (hts _ m_553) (fun _ h9 => h9) rfl dX1_textOf_10 ?_
  refine lv_iload_n hx hb dX1_textOf_13 rfl (lv_at hl 1 rfl) ?_
  refine gw_aldq (x := some (q 37)) hx hb hK hP 17 4 1 wC_at17 rfl rfl (by decide) (by decide) rfl dX1_textOf_14 ?_
  refine lv_goto (tgt := 19) hx hb dX1_textOf_15 (by decide) ?_
  exact gw_qret () hx hb hr hlocks hP hD hS rfl dX1_textOf_19
theorem c_textOf_e1 (l : Launch) (G : va_G) (cI cJ cZ cB cT : ClassId) (q : Nat → Nat) (h : HS) (p1 : Int32) (e1 : p1 = 1) : gMq l yX1_textOf (gws yX1_textOf cX1_textOf 2 (some (.object "GooseLetters$Text"))) 1 G (gT cI cJ cZ cB cT) [.ref (q 16), .int p1] (wC q cI cJ cZ cB cT h) (fun x (_ : Unit) => x = some (q 37)) (fun (_ : Unit) => (wC q cI cJ cZ cB cT h)) := by
  subst e1
  exact c_textOf_1 l G cI cJ cZ cB cT q h
set_option maxHeartbeats 4000000 in
set_option maxRecDepth 100000 in
theorem c_textOf_2 (l : Launch) (G : va_G) (cI cJ cZ cB cT : ClassId) (q : Nat → Nat) (h : HS) : gMq l yX1_textOf (gws yX1_textOf cX1_textOf 2 (some (.object "GooseLetters$Text"))) 1 G (gT cI cJ cZ cB cT) [.ref (q 16), .int 2] (wC q cI cJ cZ cB cT h) (fun x (_ : Unit) => x = some (q 42)) (fun (_ : Unit) => (wC q cI cJ cZ cB cT h)) := by
  intro sz
  refine gM_start (y := yX1_textOf) (av := [.ref (q 16), .int 2]) (ws := (wC q cI cJ cZ cB cT h)) (Qf := fun A => va_Qq (fun x (_ : Unit) => x = some (q 42)) (gB G (fun (_ : Unit) => (wC q cI cJ cZ cB cT h)) A) A) (cc := cX1_textOf) (maxL := 2) (ret := (some (.object "GooseLetters$Text"))) (by decide) (Nat.le_of_ble_eq_true rfl) ?_
  intro p e s m args below meth c A ls H hx hb hr hts hown hin hlocks hml hP hK hD hA hS hl hE
  have hl : lv_has ls 2 [(0, .ref (q 16)), (1, .int 2)] := hl
  refine lv_iload_n hx hb dX1_textOf_0 rfl (lv_at hl 1 rfl) ?_
  refine lv_if_lt (tgt := 18) hx hb dX1_textOf_1 (by decide) (fun c => absurd c (by decide)) (fun _ => ?_)
  refine lv_iload_n hx hb dX1_textOf_4 rfl (lv_at hl 1 rfl) ?_
  refine lv_iconst (v := 4) hx hb dX1_textOf_5 (by decide) ?_
  refine lv_icmp_ge (tgt := 18) hx hb dX1_textOf_6 (by decide) (fun c => absurd c (by decide)) (fun _ => ?_)
  refine lv_aload_n hx hb dX1_textOf_9 rfl (lv_at hl 0 rfl) ?_
  refine va_get (D := G) (ci := 1) (v := .ref (q 17)) (C := RX1) (T := TX1) (N := 4) hx hb hts iX1 hown hK hP 16 wC_at16 rfl 0 (by decide) (hts _ m_553) (fun _ h9 => h9) rfl dX1_textOf_10 ?_
  refine lv_iload_n hx hb dX1_textOf_13 rfl (lv_at hl 1 rfl) ?_
  refine gw_aldq (x := some (q 42)) hx hb hK hP 17 4 2 wC_at17 rfl rfl (by decide) (by decide) rfl dX1_textOf_14 ?_
  refine lv_goto (tgt := 19) hx hb dX1_textOf_15 (by decide) ?_
  exact gw_qret () hx hb hr hlocks hP hD hS rfl dX1_textOf_19
theorem c_textOf_e2 (l : Launch) (G : va_G) (cI cJ cZ cB cT : ClassId) (q : Nat → Nat) (h : HS) (p1 : Int32) (e1 : p1 = 2) : gMq l yX1_textOf (gws yX1_textOf cX1_textOf 2 (some (.object "GooseLetters$Text"))) 1 G (gT cI cJ cZ cB cT) [.ref (q 16), .int p1] (wC q cI cJ cZ cB cT h) (fun x (_ : Unit) => x = some (q 42)) (fun (_ : Unit) => (wC q cI cJ cZ cB cT h)) := by
  subst e1
  exact c_textOf_2 l G cI cJ cZ cB cT q h
set_option maxHeartbeats 4000000 in
set_option maxRecDepth 100000 in
theorem c_textOf_3 (l : Launch) (G : va_G) (cI cJ cZ cB cT : ClassId) (q : Nat → Nat) (h : HS) : gMq l yX1_textOf (gws yX1_textOf cX1_textOf 2 (some (.object "GooseLetters$Text"))) 1 G (gT cI cJ cZ cB cT) [.ref (q 16), .int 3] (wC q cI cJ cZ cB cT h) (fun x (_ : Unit) => x = some (q 47)) (fun (_ : Unit) => (wC q cI cJ cZ cB cT h)) := by
  intro sz
  refine gM_start (y := yX1_textOf) (av := [.ref (q 16), .int 3]) (ws := (wC q cI cJ cZ cB cT h)) (Qf := fun A => va_Qq (fun x (_ : Unit) => x = some (q 47)) (gB G (fun (_ : Unit) => (wC q cI cJ cZ cB cT h)) A) A) (cc := cX1_textOf) (maxL := 2) (ret := (some (.object "GooseLetters$Text"))) (by decide) (Nat.le_of_ble_eq_true rfl) ?_
  intro p e s m args below meth c A ls H hx hb hr hts hown hin hlocks hml hP hK hD hA hS hl hE
  have hl : lv_has ls 2 [(0, .ref (q 16)), (1, .int 3)] := hl
  refine lv_iload_n hx hb dX1_textOf_0 rfl (lv_at hl 1 rfl) ?_
  refine lv_if_lt (tgt := 18) hx hb dX1_textOf_1 (by decide) (fun c => absurd c (by decide)) (fun _ => ?_)
  refine lv_iload_n hx hb dX1_textOf_4 rfl (lv_at hl 1 rfl) ?_
  refine lv_iconst (v := 4) hx hb dX1_textOf_5 (by decide) ?_
  refine lv_icmp_ge (tgt := 18) hx hb dX1_textOf_6 (by decide) (fun c => absurd c (by decide)) (fun _ => ?_)
  refine lv_aload_n hx hb dX1_textOf_9 rfl (lv_at hl 0 rfl) ?_
  refine va_get (D := G) (ci := 1) (v := .ref (q 17)) (C := RX1) (T := TX1) (N := 4) hx hb hts iX1 hown hK hP 16 wC_at16 rfl 0 (by decide) (hts _ m_553) (fun _ h9 => h9) rfl dX1_textOf_10 ?_
  refine lv_iload_n hx hb dX1_textOf_13 rfl (lv_at hl 1 rfl) ?_
  refine gw_aldq (x := some (q 47)) hx hb hK hP 17 4 3 wC_at17 rfl rfl (by decide) (by decide) rfl dX1_textOf_14 ?_
  refine lv_goto (tgt := 19) hx hb dX1_textOf_15 (by decide) ?_
  exact gw_qret () hx hb hr hlocks hP hD hS rfl dX1_textOf_19
theorem c_textOf_e3 (l : Launch) (G : va_G) (cI cJ cZ cB cT : ClassId) (q : Nat → Nat) (h : HS) (p1 : Int32) (e1 : p1 = 3) : gMq l yX1_textOf (gws yX1_textOf cX1_textOf 2 (some (.object "GooseLetters$Text"))) 1 G (gT cI cJ cZ cB cT) [.ref (q 16), .int p1] (wC q cI cJ cZ cB cT h) (fun x (_ : Unit) => x = some (q 47)) (fun (_ : Unit) => (wC q cI cJ cZ cB cT h)) := by
  subst e1
  exact c_textOf_3 l G cI cJ cZ cB cT q h
set_option maxHeartbeats 4000000 in
set_option maxRecDepth 100000 in
theorem c_textOf_no (l : Launch) (G : va_G) (cI cJ cZ cB cT : ClassId) (q : Nat → Nat) (h : HS) (p1 : Int32) (n0 : ¬ p1 = 0) (n1 : ¬ p1 = 1) (n2 : ¬ p1 = 2) (n3 : ¬ p1 = 3) : gMq l yX1_textOf (gws yX1_textOf cX1_textOf 2 (some (.object "GooseLetters$Text"))) 1 G (gT cI cJ cZ cB cT) [.ref (q 16), .int p1] (wC q cI cJ cZ cB cT h) (fun x (_ : Unit) => x = none) (fun (_ : Unit) => (wC q cI cJ cZ cB cT h)) := by
  intro sz
  refine gM_start (y := yX1_textOf) (av := [.ref (q 16), .int p1]) (ws := (wC q cI cJ cZ cB cT h)) (Qf := fun A => va_Qq (fun x (_ : Unit) => x = none) (gB G (fun (_ : Unit) => (wC q cI cJ cZ cB cT h)) A) A) (cc := cX1_textOf) (maxL := 2) (ret := (some (.object "GooseLetters$Text"))) (by decide) (Nat.le_of_ble_eq_true rfl) ?_
  intro p e s m args below meth c A ls H hx hb hr hts hown hin hlocks hml hP hK hD hA hS hl hE
  have hl : lv_has ls 2 [(0, .ref (q 16)), (1, .int p1)] := hl
  refine lv_iload_n hx hb dX1_textOf_0 rfl (lv_at hl 1 rfl) ?_
  refine lv_if_lt (tgt := 18) hx hb dX1_textOf_1 (by decide) (fun _ => ?_) (fun c1 => ?_)
  · refine lv_null hx hb dX1_textOf_18 ?_
    exact gw_qret (v := none) () hx hb hr hlocks hP hD hS rfl dX1_textOf_19
  · refine lv_iload_n hx hb dX1_textOf_4 rfl (lv_at hl 1 rfl) ?_
    refine lv_iconst (v := 4) hx hb dX1_textOf_5 (by decide) ?_
    have h4 : 4 ≤ p1 := gi_le (by have := gi_of_nlt c1; have := gi_of_ne n0; have := gi_of_ne n1; have := gi_of_ne n2; have := gi_of_ne n3; have : (0 : Int32).toInt = 0 := (by decide); have : (1 : Int32).toInt = 1 := (by decide); have : (2 : Int32).toInt = 2 := (by decide); have : (3 : Int32).toInt = 3 := (by decide); have : (4 : Int32).toInt = 4 := (by decide); omega)
    refine lv_icmp_ge (tgt := 18) hx hb dX1_textOf_6 (by decide) (fun _ => ?_) (fun c => absurd h4 c)
    refine lv_null hx hb dX1_textOf_18 ?_
    exact gw_qret (v := none) () hx hb hr hlocks hP hD hS rfl dX1_textOf_19
