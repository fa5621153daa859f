def f_X6_clear_0_12 : Nat → HS → Int32 → Option HS
  | 0, _, _ => none
  | n + 1, h, x1 => (if 4 ≤ x1 then (some h) else (if 0 ≤ (x1).toInt ∧ (x1).toInt < 4 then (if 0 ≤ (x1).toInt ∧ (x1).toInt < 4 then ((f_X6_clear_0_12 n) (sA (sA h 9 3 (upd (eA h 9 3) ((x1).toNatClampNeg) (-1))) 9 4 (upd (eA h 9 4) ((x1).toNatClampNeg) (-1))) (x1 + 1)) else none) else none))
theorem f_X6_clear_0_12_s (n : Nat) (h : HS) (x1 : Int32) : f_X6_clear_0_12 (n + 1) h x1 = (if 4 ≤ x1 then (some h) else (if 0 ≤ (x1).toInt ∧ (x1).toInt < 4 then (if 0 ≤ (x1).toInt ∧ (x1).toInt < 4 then ((f_X6_clear_0_12 n) (sA (sA h 9 3 (upd (eA h 9 3) ((x1).toNatClampNeg) (-1))) 9 4 (upd (eA h 9 4) ((x1).toNatClampNeg) (-1))) (x1 + 1)) else none) else none)) := rfl
def f_X6_clear_0 (h : HS) : Option HS := (f_X6_clear_0_12 8589934592 (sI (sI h 9 1 0) 9 5 0) 0)
set_option maxHeartbeats 4000000 in
set_option maxRecDepth 100000 in
theorem c_X6_clear_0 (l : Launch) (G : va_G) (cI cJ cZ cB cT : ClassId) (q : Nat → Nat) (h : HS)  (hh : HS) (hF : f_X6_clear_0 h = some hh) : gMv l yX6_clear (gws yX6_clear cX6_clear 2 none) 1 G (gT cI cJ cZ cB cT) [.ref (q 32)] (wC q cI cJ cZ cB cT h) (fun (_ : Unit) => True) (fun (_ : Unit) => (wC q cI cJ cZ cB cT hh)) := by
  intro sz
  refine gM_start (y := yX6_clear) (av := [.ref (q 32)]) (ws := (wC q cI cJ cZ cB cT h)) (Qf := fun A => va_Qv (fun (_ : Unit) => True) (gB G (fun (_ : Unit) => (wC q cI cJ cZ cB cT hh)) A) A) (cc := cX6_clear) (maxL := 2) (ret := none) (by decide) (Nat.le_of_ble_eq_true rfl) ?_
  intro p e s m args below meth c A ls H hx hb hr hts hown hin hlocks hml hP hK hD hA hS hl hE
  have hl : lv_has ls 2 [(0, .ref (q 32))] := hl
  have hJ_12 : ∀ (n_12 : Nat) (h : HS) (x1 : Int32), f_X6_clear_0_12 n_12 h x1 = some hh → ∀ (H : Heap) (locs : List Loc) (ls : Array Slot), va_P G vwCl (wC q cI cJ cZ cB cT h) H → va_D A (wC q cI cJ cZ cB cT h) → va_S A s.heap H locs → lv_has ls 2 [(0, .ref (q 32)), (1, .int x1)] → W p l e (gRm 1) s m args below meth c H locs 0 0 (MQ below (va_Qv (fun (_ : Unit) => True) (gB G (fun (_ : Unit) => (wC q cI cJ cZ cB cT hh)) A) A) args s 0 0 A) (F0 m 12 ls []) := by
    intro n_12
    induction n_12 with
    | zero =>
      intro h x1 hF
      exact absurd hF (by simp [f_X6_clear_0_12])
    | succ n_12 ih_12 =>
      intro h x1 hF H locs ls hP hD hS hl
      rw [f_X6_clear_0_12_s] at hF
      refine lv_iload_n hx hb dX6_clear_12 rfl (lv_at hl 1 rfl) ?_
      refine lv_iconst (v := 4) hx hb dX6_clear_13 (by decide) ?_
      refine lv_icmp_ge (tgt := 37) hx hb dX6_clear_14 (by decide) (fun c_1 => ?_) (fun c_1 => ?_)
      · have hF := ob_pos c_1 hF
        obtain rfl := ob_one hF
        exact gw_vret () hx hb hr hlocks hP hD hS trivial dX6_clear_37
      · have hF := ob_neg c_1 hF
        refine lv_aload_n hx hb dX6_clear_17 rfl (lv_at hl 0 rfl) ?_
        refine va_get (D := G) (ci := 6) (v := .ref (q 35)) (C := RX6) (T := TX6) (N := 6) hx hb hts iX6 hown hK hP 32 wC_at32 rfl 3 (by decide) (hts _ m_461) (fun _ h9 => h9) rfl dX6_clear_18 ?_
        refine lv_iload_n hx hb dX6_clear_21 rfl (lv_at hl 1 rfl) ?_
        refine lv_iconst (v := (-1)) hx hb dX6_clear_22 (by decide) ?_
        obtain ⟨hi_2, hF⟩ := ob_if hF
        refine va_iast (D := G) hx hb hK hP hD hS 35 0 wC_at35 rfl (vp_in_iff.mpr hi_2) dX6_clear_23 (fun H locs hP hD hS => ?_)
        rw [wC_sA35] at hP hD
        have hP : va_P G vwCl (wC q cI cJ cZ cB cT (sA h 9 3 (upd (eA h 9 3) ((x1).toNatClampNeg) (-1)))) H := hP
        have hD : va_D A (wC q cI cJ cZ cB cT (sA h 9 3 (upd (eA h 9 3) ((x1).toNatClampNeg) (-1)))) := hD
        refine lv_aload_n hx hb dX6_clear_24 rfl (lv_at hl 0 rfl) ?_
        refine va_get (D := G) (ci := 6) (v := .ref (q 36)) (C := RX6) (T := TX6) (N := 6) hx hb hts iX6 hown hK hP 32 wC_at32 rfl 4 (by decide) (hts _ m_462) (fun _ h9 => h9) rfl dX6_clear_25 ?_
        refine lv_iload_n hx hb dX6_clear_28 rfl (lv_at hl 1 rfl) ?_
        refine lv_iconst (v := (-1)) hx hb dX6_clear_29 (by decide) ?_
        obtain ⟨hi_3, hF⟩ := ob_if hF
        refine va_iast (D := G) hx hb hK hP hD hS 36 0 wC_at36 rfl (vp_in_iff.mpr hi_3) dX6_clear_30 (fun H locs hP hD hS => ?_)
        rw [wC_sA36] at hP hD
        have hP : va_P G vwCl (wC q cI cJ cZ cB cT (sA (sA h 9 3 (upd (eA h 9 3) ((x1).toNatClampNeg) (-1))) 9 4 (upd (eA h 9 4) ((x1).toNatClampNeg) (-1)))) H := hP
        have hD : va_D A (wC q cI cJ cZ cB cT (sA (sA h 9 3 (upd (eA h 9 3) ((x1).toNatClampNeg) (-1))) 9 4 (upd (eA h 9 4) ((x1).toNatClampNeg) (-1)))) := hD
        refine lv_iinc (v := (x1 + 1)) (lv' := [(1, .int (x1 + 1)), (0, .ref (q 32))]) hx hb dX6_clear_31 hl (k := 1) rfl rfl (by decide) rfl (fun ls hl => ?_)
        refine lv_goto (tgt := 12) hx hb dX6_clear_34 (by decide) ?_
        exact ih_12 (sA (sA h 9 3 (upd (eA h 9 3) ((x1).toNatClampNeg) (-1))) 9 4 (upd (eA h 9 4) ((x1).toNatClampNeg) (-1))) (x1 + 1) hF H _ ls hP hD hS (lv_sub hl [1, 0] rfl)
  unfold f_X6_clear_0 at hF
  refine lv_aload_n hx hb dX6_clear_0 rfl (lv_at hl 0 rfl) ?_
  refine lv_iconst (v := 0) hx hb dX6_clear_1 (by decide) ?_
  refine va_put (D := G) (ci := 6) (v := .int 0) (ty := .int) (C := RX6) (T := TX6) (N := 6) hx hb hts iX6 tyX6 tyX6_ok nmX6 hown hK hP hD hS 32 wC_at32 rfl 1 (by decide) (hts _ m_459) (fun _ h9 => h9) rfl (tyX6_ok 1 (by decide)) rfl rfl (Nat.le_of_ble_eq_true rfl) dX6_clear_2 (fun H locs hP hD hS => ?_)
  rw [wC_sI32_1] at hP hD
  refine lv_aload_n hx hb dX6_clear_5 rfl (lv_at hl 0 rfl) ?_
  refine lv_iconst (v := 0) hx hb dX6_clear_6 (by decide) ?_
  refine va_put (D := G) (ci := 6) (v := .int 0) (ty := .int) (C := RX6) (T := TX6) (N := 6) hx hb hts iX6 tyX6 tyX6_ok nmX6 hown hK hP hD hS 32 wC_at32 rfl 5 (by decide) (hts _ m_460) (fun _ h9 => h9) rfl (tyX6_ok 5 (by decide)) rfl rfl (Nat.le_of_ble_eq_true rfl) dX6_clear_7 (fun H locs hP hD hS => ?_)
  rw [wC_sI32_5] at hP hD
  refine lv_iconst (v := 0) hx hb dX6_clear_10 (by decide) ?_
  refine lv_istore_n (lv' := [(1, .int 0), (0, .ref (q 32))]) hx hb dX6_clear_11 rfl hl (by decide) rfl (fun ls hl => ?_)
  exact hJ_12 8589934592 (sI (sI h 9 1 0) 9 5 0) 0 hF H _ ls hP hD hS (lv_sub hl [1, 0] rfl)
def f_X6_hasLaw_0_24 (h : HS) (y0 : Int32) : Option (Int32 × HS) := (if y0 = 0 ∨ y0 = 1 then (some (y0, h)) else none)
def f_X6_hasLaw_0_23 (h : HS) : Option (Int32 × HS) := (f_X6_hasLaw_0_24 h 0)
def f_X6_hasLaw_0 (h : HS) (p1 : Int32) : Option (Int32 × HS) := (if p1 < 0 then (f_X6_hasLaw_0_23 h) else (if 4 ≤ p1 then (f_X6_hasLaw_0_23 h) else (if 0 ≤ (p1).toInt ∧ (p1).toInt < 4 then (if ((eA h 9 3) ((p1).toNatClampNeg)) = (-1) then (f_X6_hasLaw_0_23 h) else (f_X6_hasLaw_0_24 h 1)) else none)))
set_option maxHeartbeats 4000000 in
set_option maxRecDepth 100000 in
theorem c_X6_hasLaw_0 (l : Launch) (G : va_G) (cI cJ cZ cB cT : ClassId) (q : Nat → Nat) (h : HS) (p1 : Int32) (rr : Int32) (hh : HS) (hF : f_X6_hasLaw_0 h p1 = some (rr, hh)) : gMi l yX6_hasLaw (gws yX6_hasLaw cX6_hasLaw 2 (some .boolean)) 1 G (gT cI cJ cZ cB cT) [.ref (q 32), .int p1] (wC q cI cJ cZ cB cT h) (fun x (_ : Unit) => x = rr) (fun (_ : Unit) => (wC q cI cJ cZ cB cT hh)) := by
  intro sz
  refine gM_start (y := yX6_hasLaw) (av := [.ref (q 32), .int p1]) (ws := (wC q cI cJ cZ cB cT h)) (Qf := fun A => va_Qi (fun x (_ : Unit) => x = rr) (gB G (fun (_ : Unit) => (wC q cI cJ cZ cB cT hh)) A) A) (cc := cX6_hasLaw) (maxL := 2) (ret := (some .boolean)) (by decide) (Nat.le_of_ble_eq_true rfl) ?_
  intro p e s m args below meth c A ls H hx hb hr hts hown hin hlocks hml hP hK hD hA hS hl hE
  have hl : lv_has ls 2 [(0, .ref (q 32)), (1, .int p1)] := hl
  have hJ_24 : ∀ (h : HS) (y0 : Int32), f_X6_hasLaw_0_24 h y0 = some (rr, hh) → ∀ (H : Heap) (locs : List Loc) (ls : Array Slot), va_P G vwCl (wC q cI cJ cZ cB cT h) H → va_D A (wC q cI cJ cZ cB cT h) → va_S A s.heap H locs → lv_has ls 2 [] → W p l e (gRm 1) s m args below meth c H locs 0 0 (MQ below (va_Qi (fun x (_ : Unit) => x = rr) (gB G (fun (_ : Unit) => (wC q cI cJ cZ cB cT hh)) A) A) args s 0 0 A) (F0 m 24 ls [.int y0]) := by
    intro h y0 hF H locs ls hP hD hS hl
    unfold f_X6_hasLaw_0_24 at hF
    obtain ⟨hz_5, hF⟩ := ob_if hF
    obtain ⟨rfl, rfl⟩ := ob_pair hF
    exact gw_zret () hx hb hr hlocks (gz hz_5) hP hD hS rfl dX6_hasLaw_24
  have hJ_23 : ∀ (h : HS), f_X6_hasLaw_0_23 h = some (rr, hh) → ∀ (H : Heap) (locs : List Loc) (ls : Array Slot), va_P G vwCl (wC q cI cJ cZ cB cT h) H → va_D A (wC q cI cJ cZ cB cT h) → va_S A s.heap H locs → lv_has ls 2 [] → W p l e (gRm 1) s m args below meth c H locs 0 0 (MQ below (va_Qi (fun x (_ : Unit) => x = rr) (gB G (fun (_ : Unit) => (wC q cI cJ cZ cB cT hh)) A) A) args s 0 0 A) (F0 m 23 ls []) := by
    intro h hF H locs ls hP hD hS hl
    unfold f_X6_hasLaw_0_23 at hF
    refine lv_iconst (v := 0) hx hb dX6_hasLaw_23 (by decide) ?_
    exact hJ_24 h 0 hF H _ ls hP hD hS (lv_sub hl [] rfl)
  unfold f_X6_hasLaw_0 at hF
  refine lv_iload_n hx hb dX6_hasLaw_0 rfl (lv_at hl 1 rfl) ?_
  refine lv_if_lt (tgt := 23) hx hb dX6_hasLaw_1 (by decide) (fun c_1 => ?_) (fun c_1 => ?_)
  · have hF := ob_pos c_1 hF
    exact hJ_23 h hF H _ ls hP hD hS (lv_sub hl [] rfl)
  · have hF := ob_neg c_1 hF
    refine lv_iload_n hx hb dX6_hasLaw_4 rfl (lv_at hl 1 rfl) ?_
    refine lv_iconst (v := 4) hx hb dX6_hasLaw_5 (by decide) ?_
    refine lv_icmp_ge (tgt := 23) hx hb dX6_hasLaw_6 (by decide) (fun c_2 => ?_) (fun c_2 => ?_)
    · have hF := ob_pos c_2 hF
      exact hJ_23 h hF H _ ls hP hD hS (lv_sub hl [] rfl)
    · have hF := ob_neg c_2 hF
      refine lv_aload_n hx hb dX6_hasLaw_9 rfl (lv_at hl 0 rfl) ?_
      refine va_get (D := G) (ci := 6) (v := .ref (q 35)) (C := RX6) (T := TX6) (N := 6) hx hb hts iX6 hown hK hP 32 wC_at32 rfl 3 (by decide) (hts _ m_461) (fun _ h9 => h9) rfl dX6_hasLaw_10 ?_
      refine lv_iload_n hx hb dX6_hasLaw_13 rfl (lv_at hl 1 rfl) ?_
      obtain ⟨hi_3, hF⟩ := ob_if hF
      refine va_iald (D := G) hx hb hK hP 35 0 wC_at35 rfl (vp_in_iff.mpr hi_3) dX6_hasLaw_14 ?_
      refine gw_topi (y := ((eA h 9 3) ((p1).toNatClampNeg))) rfl ?_
      refine lv_iconst (v := (-1)) hx hb dX6_hasLaw_15 (by decide) ?_
      refine lv_icmp_eq (tgt := 23) hx hb dX6_hasLaw_16 (by decide) (fun c_4 => ?_) (fun c_4 => ?_)
      · have hF := ob_pos c_4 hF
        exact hJ_23 h hF H _ ls hP hD hS (lv_sub hl [] rfl)
      · have hF := ob_neg c_4 hF
        refine lv_iconst (v := 1) hx hb dX6_hasLaw_19 (by decide) ?_
        refine lv_goto (tgt := 24) hx hb dX6_hasLaw_20 (by decide) ?_
        exact hJ_24 h 1 hF H _ ls hP hD hS (lv_sub hl [] rfl)
def f_X6_beginLaw_0_19 (h : HS) : Option HS := (some h)
def f_X6_beginLaw_0 (h : HS) (p1 : Int32) : Option HS := (if p1 < 0 then (f_X6_beginLaw_0_19 h) else (if 4 ≤ p1 then (f_X6_beginLaw_0_19 h) else (if 0 ≤ (p1).toInt ∧ (p1).toInt < 4 then (f_X6_beginLaw_0_19 (sA h 9 3 (upd (eA h 9 3) ((p1).toNatClampNeg) (eI h 9 5)))) else none)))
set_option maxHeartbeats 4000000 in
set_option maxRecDepth 100000 in
theorem c_X6_beginLaw_0 (l : Launch) (G : va_G) (cI cJ cZ cB cT : ClassId) (q : Nat → Nat) (h : HS) (p1 : Int32) (hh : HS) (hF : f_X6_beginLaw_0 h p1 = some hh) : gMv l yX6_beginLaw (gws yX6_beginLaw cX6_beginLaw 2 none) 1 G (gT cI cJ cZ cB cT) [.ref (q 32), .int p1] (wC q cI cJ cZ cB cT h) (fun (_ : Unit) => True) (fun (_ : Unit) => (wC q cI cJ cZ cB cT hh)) := by
  intro sz
  refine gM_start (y := yX6_beginLaw) (av := [.ref (q 32), .int p1]) (ws := (wC q cI cJ cZ cB cT h)) (Qf := fun A => va_Qv (fun (_ : Unit) => True) (gB G (fun (_ : Unit) => (wC q cI cJ cZ cB cT hh)) A) A) (cc := cX6_beginLaw) (maxL := 2) (ret := none) (by decide) (Nat.le_of_ble_eq_true rfl) ?_
  intro p e s m args below meth c A ls H hx hb hr hts hown hin hlocks hml hP hK hD hA hS hl hE
  have hl : lv_has ls 2 [(0, .ref (q 32)), (1, .int p1)] := hl
  have hJ_19 : ∀ (h : HS), f_X6_beginLaw_0_19 h = some hh → ∀ (H : Heap) (locs : List Loc) (ls : Array Slot), va_P G vwCl (wC q cI cJ cZ cB cT h) H → va_D A (wC q cI cJ cZ cB cT h) → va_S A s.heap H locs → lv_has ls 2 [] → W p l e (gRm 1) s m args below meth c H locs 0 0 (MQ below (va_Qv (fun (_ : Unit) => True) (gB G (fun (_ : Unit) => (wC q cI cJ cZ cB cT hh)) A) A) args s 0 0 A) (F0 m 19 ls []) := by
    intro h hF H locs ls hP hD hS hl
    unfold f_X6_beginLaw_0_19 at hF
    obtain rfl := ob_one hF
    exact gw_vret () hx hb hr hlocks hP hD hS trivial dX6_beginLaw_19
  unfold f_X6_beginLaw_0 at hF
  refine lv_iload_n hx hb dX6_beginLaw_0 rfl (lv_at hl 1 rfl) ?_
  refine lv_if_lt (tgt := 19) hx hb dX6_beginLaw_1 (by decide) (fun c_1 => ?_) (fun c_1 => ?_)
  · have hF := ob_pos c_1 hF
    exact hJ_19 h hF H _ ls hP hD hS (lv_sub hl [] rfl)
  · have hF := ob_neg c_1 hF
    refine lv_iload_n hx hb dX6_beginLaw_4 rfl (lv_at hl 1 rfl) ?_
    refine lv_iconst (v := 4) hx hb dX6_beginLaw_5 (by decide) ?_
    refine lv_icmp_ge (tgt := 19) hx hb dX6_beginLaw_6 (by decide) (fun c_2 => ?_) (fun c_2 => ?_)
    · have hF := ob_pos c_2 hF
      exact hJ_19 h hF H _ ls hP hD hS (lv_sub hl [] rfl)
    · have hF := ob_neg c_2 hF
      refine lv_aload_n hx hb dX6_beginLaw_9 rfl (lv_at hl 0 rfl) ?_
      refine va_get (D := G) (ci := 6) (v := .ref (q 35)) (C := RX6) (T := TX6) (N := 6) hx hb hts iX6 hown hK hP 32 wC_at32 rfl 3 (by decide) (hts _ m_461) (fun _ h9 => h9) rfl dX6_beginLaw_10 ?_
      refine lv_iload_n hx hb dX6_beginLaw_13 rfl (lv_at hl 1 rfl) ?_
      refine lv_aload_n hx hb dX6_beginLaw_14 rfl (lv_at hl 0 rfl) ?_
      refine va_get (D := G) (ci := 6) (v := .int (eI h 9 5)) (C := RX6) (T := TX6) (N := 6) hx hb hts iX6 hown hK hP 32 wC_at32 rfl 5 (by decide) (hts _ m_460) (fun _ h9 => h9) rfl dX6_beginLaw_15 ?_
      obtain ⟨hi_3, hF⟩ := ob_if hF
      refine va_iast (D := G) hx hb hK hP hD hS 35 0 wC_at35 rfl (vp_in_iff.mpr hi_3) dX6_beginLaw_18 (fun H locs hP hD hS => ?_)
      rw [wC_sA35] at hP hD
      have hP : va_P G vwCl (wC q cI cJ cZ cB cT (sA h 9 3 (upd (eA h 9 3) ((p1).toNatClampNeg) (eI h 9 5)))) H := hP
      have hD : va_D A (wC q cI cJ cZ cB cT (sA h 9 3 (upd (eA h 9 3) ((p1).toNatClampNeg) (eI h 9 5)))) := hD
      exact hJ_19 (sA h 9 3 (upd (eA h 9 3) ((p1).toNatClampNeg) (eI h 9 5))) hF H _ ls hP hD hS (lv_sub hl [] rfl)
def f_X6_closeLaw_0_19 (h : HS) : Option HS := (some h)
def f_X6_closeLaw_0 (h : HS) (p1 : Int32) : Option HS := (if p1 < 0 then (f_X6_closeLaw_0_19 h) else (if 4 ≤ p1 then (f_X6_closeLaw_0_19 h) else (if 0 ≤ (p1).toInt ∧ (p1).toInt < 4 then (f_X6_closeLaw_0_19 (sA h 9 4 (upd (eA h 9 4) ((p1).toNatClampNeg) (eI h 9 5)))) else none)))
set_option maxHeartbeats 4000000 in
set_option maxRecDepth 100000 in
theorem c_X6_closeLaw_0 (l : Launch) (G : va_G) (cI cJ cZ cB cT : ClassId) (q : Nat → Nat) (h : HS) (p1 : Int32) (hh : HS) (hF : f_X6_closeLaw_0 h p1 = some hh) : gMv l yX6_closeLaw (gws yX6_closeLaw cX6_closeLaw 2 none) 1 G (gT cI cJ cZ cB cT) [.ref (q 32), .int p1] (wC q cI cJ cZ cB cT h) (fun (_ : Unit) => True) (fun (_ : Unit) => (wC q cI cJ cZ cB cT hh)) := by
  intro sz
  refine gM_start (y := yX6_closeLaw) (av := [.ref (q 32), .int p1]) (ws := (wC q cI cJ cZ cB cT h)) (Qf := fun A => va_Qv (fun (_ : Unit) => True) (gB G (fun (_ : Unit) => (wC q cI cJ cZ cB cT hh)) A) A) (cc := cX6_closeLaw) (maxL := 2) (ret := none) (by decide) (Nat.le_of_ble_eq_true rfl) ?_
  intro p e s m args below meth c A ls H hx hb hr hts hown hin hlocks hml hP hK hD hA hS hl hE
  have hl : lv_has ls 2 [(0, .ref (q 32)), (1, .int p1)] := hl
  have hJ_19 : ∀ (h : HS), f_X6_closeLaw_0_19 h = some hh → ∀ (H : Heap) (locs : List Loc) (ls : Array Slot), va_P G vwCl (wC q cI cJ cZ cB cT h) H → va_D A (wC q cI cJ cZ cB cT h) → va_S A s.heap H locs → lv_has ls 2 [] → W p l e (gRm 1) s m args below meth c H locs 0 0 (MQ below (va_Qv (fun (_ : Unit) => True) (gB G (fun (_ : Unit) => (wC q cI cJ cZ cB cT hh)) A) A) args s 0 0 A) (F0 m 19 ls []) := by
    intro h hF H locs ls hP hD hS hl
    unfold f_X6_closeLaw_0_19 at hF
    obtain rfl := ob_one hF
    exact gw_vret () hx hb hr hlocks hP hD hS trivial dX6_closeLaw_19
  unfold f_X6_closeLaw_0 at hF
  refine lv_iload_n hx hb dX6_closeLaw_0 rfl (lv_at hl 1 rfl) ?_
  refine lv_if_lt (tgt := 19) hx hb dX6_closeLaw_1 (by decide) (fun c_1 => ?_) (fun c_1 => ?_)
  · have hF := ob_pos c_1 hF
    exact hJ_19 h hF H _ ls hP hD hS (lv_sub hl [] rfl)
  · have hF := ob_neg c_1 hF
    refine lv_iload_n hx hb dX6_closeLaw_4 rfl (lv_at hl 1 rfl) ?_
    refine lv_iconst (v := 4) hx hb dX6_closeLaw_5 (by decide) ?_
    refine lv_icmp_ge (tgt := 19) hx hb dX6_closeLaw_6 (by decide) (fun c_2 => ?_) (fun c_2 => ?_)
    · have hF := ob_pos c_2 hF
      exact hJ_19 h hF H _ ls hP hD hS (lv_sub hl [] rfl)
    · have hF := ob_neg c_2 hF
      refine lv_aload_n hx hb dX6_closeLaw_9 rfl (lv_at hl 0 rfl) ?_
      refine va_get (D := G) (ci := 6) (v := .ref (q 36)) (C := RX6) (T := TX6) (N := 6) hx hb hts iX6 hown hK hP 32 wC_at32 rfl 4 (by decide) (hts _ m_462) (fun _ h9 => h9) rfl dX6_closeLaw_10 ?_
      refine lv_iload_n hx hb dX6_closeLaw_13 rfl (lv_at hl 1 rfl) ?_
      refine lv_aload_n hx hb dX6_closeLaw_14 rfl (lv_at hl 0 rfl) ?_
      refine va_get (D := G) (ci := 6) (v := .int (eI h 9 5)) (C := RX6) (T := TX6) (N := 6) hx hb hts iX6 hown hK hP 32 wC_at32 rfl 5 (by decide) (hts _ m_460) (fun _ h9 => h9) rfl dX6_closeLaw_15 ?_
      obtain ⟨hi_3, hF⟩ := ob_if hF
      refine va_iast (D := G) hx hb hK hP hD hS 36 0 wC_at36 rfl (vp_in_iff.mpr hi_3) dX6_closeLaw_18 (fun H locs hP hD hS => ?_)
      rw [wC_sA36] at hP hD
      have hP : va_P G vwCl (wC q cI cJ cZ cB cT (sA h 9 4 (upd (eA h 9 4) ((p1).toNatClampNeg) (eI h 9 5)))) H := hP
      have hD : va_D A (wC q cI cJ cZ cB cT (sA h 9 4 (upd (eA h 9 4) ((p1).toNatClampNeg) (eI h 9 5)))) := hD
      exact hJ_19 (sA h 9 4 (upd (eA h 9 4) ((p1).toNatClampNeg) (eI h 9 5))) hF H _ ls hP hD hS (lv_sub hl [] rfl)
def f_X6_firstStep_0_19 (h : HS) (y0 : Int32) : Option (Int32 × HS) := (some (y0, h))
def f_X6_firstStep_0_18 (h : HS) : Option (Int32 × HS) := (f_X6_firstStep_0_19 h 0)
def f_X6_firstStep_0 (h : HS) (p1 : Int32) : Option (Int32 × HS) := (if p1 < 0 then (f_X6_firstStep_0_18 h) else (if 4 ≤ p1 then (f_X6_firstStep_0_18 h) else (if 0 ≤ (p1).toInt ∧ (p1).toInt < 4 then (f_X6_firstStep_0_19 h ((eA h 9 3) ((p1).toNatClampNeg))) else none)))
set_option maxHeartbeats 4000000 in
set_option maxRecDepth 100000 in
theorem c_X6_firstStep_0 (l : Launch) (G : va_G) (cI cJ cZ cB cT : ClassId) (q : Nat → Nat) (h : HS) (p1 : Int32) (rr : Int32) (hh : HS) (hF : f_X6_firstStep_0 h p1 = some (rr, hh)) : gMi l yX6_firstStep (gws yX6_firstStep cX6_firstStep 2 (some .int)) 1 G (gT cI cJ cZ cB cT) [.ref (q 32), .int p1] (wC q cI cJ cZ cB cT h) (fun x (_ : Unit) => x = rr) (fun (_ : Unit) => (wC q cI cJ cZ cB cT hh)) := by
  intro sz
  refine gM_start (y := yX6_firstStep) (av := [.ref (q 32), .int p1]) (ws := (wC q cI cJ cZ cB cT h)) (Qf := fun A => va_Qi (fun x (_ : Unit) => x = rr) (gB G (fun (_ : Unit) => (wC q cI cJ cZ cB cT hh)) A) A) (cc := cX6_firstStep) (maxL := 2) (ret := (some .int)) (by decide) (Nat.le_of_ble_eq_true rfl) ?_
  intro p e s m args below meth c A ls H hx hb hr hts hown hin hlocks hml hP hK hD hA hS hl hE
  have hl : lv_has ls 2 [(0, .ref (q 32)), (1, .int p1)] := hl
  have hJ_19 : ∀ (h : HS) (y0 : Int32), f_X6_firstStep_0_19 h y0 = some (rr, hh) → ∀ (H : Heap) (locs : List Loc) (ls : Array Slot), va_P G vwCl (wC q cI cJ cZ cB cT h) H → va_D A (wC q cI cJ cZ cB cT h) → va_S A s.heap H locs → lv_has ls 2 [] → W p l e (gRm 1) s m args below meth c H locs 0 0 (MQ below (va_Qi (fun x (_ : Unit) => x = rr) (gB G (fun (_ : Unit) => (wC q cI cJ cZ cB cT hh)) A) A) args s 0 0 A) (F0 m 19 ls [.int y0]) := by
    intro h y0 hF H locs ls hP hD hS hl
    unfold f_X6_firstStep_0_19 at hF
    obtain ⟨rfl, rfl⟩ := ob_pair hF
    exact gw_iret () hx hb hr hlocks hP hD hS rfl dX6_firstStep_19
  have hJ_18 : ∀ (h : HS), f_X6_firstStep_0_18 h = some (rr, hh) → ∀ (H : Heap) (locs : List Loc) (ls : Array Slot), va_P G vwCl (wC q cI cJ cZ cB cT h) H → va_D A (wC q cI cJ cZ cB cT h) → va_S A s.heap H locs → lv_has ls 2 [] → W p l e (gRm 1) s m args below meth c H locs 0 0 (MQ below (va_Qi (fun x (_ : Unit) => x = rr) (gB G (fun (_ : Unit) => (wC q cI cJ cZ cB cT hh)) A) A) args s 0 0 A) (F0 m 18 ls []) := by
    intro h hF H locs ls hP hD hS hl
    unfold f_X6_firstStep_0_18 at hF
    refine lv_iconst (v := 0) hx hb dX6_firstStep_18 (by decide) ?_
    exact hJ_19 h 0 hF H _ ls hP hD hS (lv_sub hl [] rfl)
  unfold f_X6_firstStep_0 at hF
  refine lv_iload_n hx hb dX6_firstStep_0 rfl (lv_at hl 1 rfl) ?_
  refine lv_if_lt (tgt := 18) hx hb dX6_firstStep_1 (by decide) (fun c_1 => ?_) (fun c_1 => ?_)
  · have hF := ob_pos c_1 hF
    exact hJ_18 h hF H _ ls hP hD hS (lv_sub hl [] rfl)
  · have hF := ob_neg c_1 hF
    refine lv_iload_n hx hb dX6_firstStep_4 rfl (lv_at hl 1 rfl) ?_
    refine lv_iconst (v := 4) hx hb dX6_firstStep_5 (by decide) ?_
    refine lv_icmp_ge (tgt := 18) hx hb dX6_firstStep_6 (by decide) (fun c_2 => ?_) (fun c_2 => ?_)
    · have hF := ob_pos c_2 hF
      exact hJ_18 h hF H _ ls hP hD hS (lv_sub hl [] rfl)
    · have hF := ob_neg c_2 hF
      refine lv_aload_n hx hb dX6_firstStep_9 rfl (lv_at hl 0 rfl) ?_
      refine va_get (D := G) (ci := 6) (v := .ref (q 35)) (C := RX6) (T := TX6) (N := 6) hx hb hts iX6 hown hK hP 32 wC_at32 rfl 3 (by decide) (hts _ m_461) (fun _ h9 => h9) rfl dX6_firstStep_10 ?_
      refine lv_iload_n hx hb dX6_firstStep_13 rfl (lv_at hl 1 rfl) ?_
      obtain ⟨hi_3, hF⟩ := ob_if hF
      refine va_iald (D := G) hx hb hK hP 35 0 wC_at35 rfl (vp_in_iff.mpr hi_3) dX6_firstStep_14 ?_
      refine gw_topi (y := ((eA h 9 3) ((p1).toNatClampNeg))) rfl ?_
      refine lv_goto (tgt := 19) hx hb dX6_firstStep_15 (by decide) ?_
      exact hJ_19 h ((eA h 9 3) ((p1).toNatClampNeg)) hF H _ ls hP hD hS (lv_sub hl [] rfl)
def f_X6_stepsEnd_0_19 (h : HS) (y0 : Int32) : Option (Int32 × HS) := (some (y0, h))
def f_X6_stepsEnd_0_18 (h : HS) : Option (Int32 × HS) := (f_X6_stepsEnd_0_19 h 0)
def f_X6_stepsEnd_0 (h : HS) (p1 : Int32) : Option (Int32 × HS) := (if p1 < 0 then (f_X6_stepsEnd_0_18 h) else (if 4 ≤ p1 then (f_X6_stepsEnd_0_18 h) else (if 0 ≤ (p1).toInt ∧ (p1).toInt < 4 then (f_X6_stepsEnd_0_19 h ((eA h 9 4) ((p1).toNatClampNeg))) else none)))
set_option maxHeartbeats 4000000 in
set_option maxRecDepth 100000 in
theorem c_X6_stepsEnd_0 (l : Launch) (G : va_G) (cI cJ cZ cB cT : ClassId) (q : Nat → Nat) (h : HS) (p1 : Int32) (rr : Int32) (hh : HS) (hF : f_X6_stepsEnd_0 h p1 = some (rr, hh)) : gMi l yX6_stepsEnd (gws yX6_stepsEnd cX6_stepsEnd 2 (some .int)) 1 G (gT cI cJ cZ cB cT) [.ref (q 32), .int p1] (wC q cI cJ cZ cB cT h) (fun x (_ : Unit) => x = rr) (fun (_ : Unit) => (wC q cI cJ cZ cB cT hh)) := by
  intro sz
  refine gM_start (y := yX6_stepsEnd) (av := [.ref (q 32), .int p1]) (ws := (wC q cI cJ cZ cB cT h)) (Qf := fun A => va_Qi (fun x (_ : Unit) => x = rr) (gB G (fun (_ : Unit) => (wC q cI cJ cZ cB cT hh)) A) A) (cc := cX6_stepsEnd) (maxL := 2) (ret := (some .int)) (by decide) (Nat.le_of_ble_eq_true rfl) ?_
  intro p e s m args below meth c A ls H hx hb hr hts hown hin hlocks hml hP hK hD hA hS hl hE
  have hl : lv_has ls 2 [(0, .ref (q 32)), (1, .int p1)] := hl
  have hJ_19 : ∀ (h : HS) (y0 : Int32), f_X6_stepsEnd_0_19 h y0 = some (rr, hh) → ∀ (H : Heap) (locs : List Loc) (ls : Array Slot), va_P G vwCl (wC q cI cJ cZ cB cT h) H → va_D A (wC q cI cJ cZ cB cT h) → va_S A s.heap H locs → lv_has ls 2 [] → W p l e (gRm 1) s m args below meth c H locs 0 0 (MQ below (va_Qi (fun x (_ : Unit) => x = rr) (gB G (fun (_ : Unit) => (wC q cI cJ cZ cB cT hh)) A) A) args s 0 0 A) (F0 m 19 ls [.int y0]) := by
    intro h y0 hF H locs ls hP hD hS hl
    unfold f_X6_stepsEnd_0_19 at hF
    obtain ⟨rfl, rfl⟩ := ob_pair hF
    exact gw_iret () hx hb hr hlocks hP hD hS rfl dX6_stepsEnd_19
  have hJ_18 : ∀ (h : HS), f_X6_stepsEnd_0_18 h = some (rr, hh) → ∀ (H : Heap) (locs : List Loc) (ls : Array Slot), va_P G vwCl (wC q cI cJ cZ cB cT h) H → va_D A (wC q cI cJ cZ cB cT h) → va_S A s.heap H locs → lv_has ls 2 [] → W p l e (gRm 1) s m args below meth c H locs 0 0 (MQ below (va_Qi (fun x (_ : Unit) => x = rr) (gB G (fun (_ : Unit) => (wC q cI cJ cZ cB cT hh)) A) A) args s 0 0 A) (F0 m 18 ls []) := by
    intro h hF H locs ls hP hD hS hl
    unfold f_X6_stepsEnd_0_18 at hF
    refine lv_iconst (v := 0) hx hb dX6_stepsEnd_18 (by decide) ?_
    exact hJ_19 h 0 hF H _ ls hP hD hS (lv_sub hl [] rfl)
  unfold f_X6_stepsEnd_0 at hF
  refine lv_iload_n hx hb dX6_stepsEnd_0 rfl (lv_at hl 1 rfl) ?_
  refine lv_if_lt (tgt := 18) hx hb dX6_stepsEnd_1 (by decide) (fun c_1 => ?_) (fun c_1 => ?_)
  · have hF := ob_pos c_1 hF
    exact hJ_18 h hF H _ ls hP hD hS (lv_sub hl [] rfl)
  · have hF := ob_neg c_1 hF
    refine lv_iload_n hx hb dX6_stepsEnd_4 rfl (lv_at hl 1 rfl) ?_
    refine lv_iconst (v := 4) hx hb dX6_stepsEnd_5 (by decide) ?_
    refine lv_icmp_ge (tgt := 18) hx hb dX6_stepsEnd_6 (by decide) (fun c_2 => ?_) (fun c_2 => ?_)
    · have hF := ob_pos c_2 hF
      exact hJ_18 h hF H _ ls hP hD hS (lv_sub hl [] rfl)
    · have hF := ob_neg c_2 hF
      refine lv_aload_n hx hb dX6_stepsEnd_9 rfl (lv_at hl 0 rfl) ?_
      refine va_get (D := G) (ci := 6) (v := .ref (q 36)) (C := RX6) (T := TX6) (N := 6) hx hb hts iX6 hown hK hP 32 wC_at32 rfl 4 (by decide) (hts _ m_462) (fun _ h9 => h9) rfl dX6_stepsEnd_10 ?_
      refine lv_iload_n hx hb dX6_stepsEnd_13 rfl (lv_at hl 1 rfl) ?_
      obtain ⟨hi_3, hF⟩ := ob_if hF
      refine va_iald (D := G) hx hb hK hP 36 0 wC_at36 rfl (vp_in_iff.mpr hi_3) dX6_stepsEnd_14 ?_
      refine gw_topi (y := ((eA h 9 4) ((p1).toNatClampNeg))) rfl ?_
      refine lv_goto (tgt := 19) hx hb dX6_stepsEnd_15 (by decide) ?_
      exact hJ_19 h ((eA h 9 4) ((p1).toNatClampNeg)) hF H _ ls hP hD hS (lv_sub hl [] rfl)
def f_X6_addStep_0_32 (h : HS) : Option HS := (some h)
def f_X6_addStep_0 (h : HS) (p1 : Int32) : Option HS := (if 300 ≤ (eI h 9 5) then (f_X6_addStep_0_32 h) else (if 0 ≤ ((eI h 9 5)).toInt ∧ ((eI h 9 5)).toInt < 300 then (f_X6_addStep_0_32 (sI (sA h 9 2 (upd (eA h 9 2) (((eI h 9 5)).toNatClampNeg) p1)) 9 5 ((eI h 9 5) + 1))) else none))
set_option maxHeartbeats 4000000 in
set_option maxRecDepth 100000 in
theorem c_X6_addStep_0 (l : Launch) (G : va_G) (cI cJ cZ cB cT : ClassId) (q : Nat → Nat) (h : HS) (p1 : Int32) (hh : HS) (hF : f_X6_addStep_0 h p1 = some hh) : gMv l yX6_addStep (gws yX6_addStep cX6_addStep 2 none) 1 G (gT cI cJ cZ cB cT) [.ref (q 32), .int p1] (wC q cI cJ cZ cB cT h) (fun (_ : Unit) => True) (fun (_ : Unit) => (wC q cI cJ cZ cB cT hh)) := by
  intro sz
  refine gM_start (y := yX6_addStep) (av := [.ref (q 32), .int p1]) (ws := (wC q cI cJ cZ cB cT h)) (Qf := fun A => va_Qv (fun (_ : Unit) => True) (gB G (fun (_ : Unit) => (wC q cI cJ cZ cB cT hh)) A) A) (cc := cX6_addStep) (maxL := 2) (ret := none) (by decide) (Nat.le_of_ble_eq_true rfl) ?_
  intro p e s m args below meth c A ls H hx hb hr hts hown hin hlocks hml hP hK hD hA hS hl hE
  have hl : lv_has ls 2 [(0, .ref (q 32)), (1, .int p1)] := hl
  have hJ_32 : ∀ (h : HS), f_X6_addStep_0_32 h = some hh → ∀ (H : Heap) (locs : List Loc) (ls : Array Slot), va_P G vwCl (wC q cI cJ cZ cB cT h) H → va_D A (wC q cI cJ cZ cB cT h) → va_S A s.heap H locs → lv_has ls 2 [] → W p l e (gRm 1) s m args below meth c H locs 0 0 (MQ below (va_Qv (fun (_ : Unit) => True) (gB G (fun (_ : Unit) => (wC q cI cJ cZ cB cT hh)) A) A) args s 0 0 A) (F0 m 32 ls []) := by
    intro h hF H locs ls hP hD hS hl
    unfold f_X6_addStep_0_32 at hF
    obtain rfl := ob_one hF
    exact gw_vret () hx hb hr hlocks hP hD hS trivial dX6_addStep_32
  unfold f_X6_addStep_0 at hF
  refine lv_aload_n hx hb dX6_addStep_0 rfl (lv_at hl 0 rfl) ?_
  refine va_get (D := G) (ci := 6) (v := .int (eI h 9 5)) (C := RX6) (T := TX6) (N := 6) hx hb hts iX6 hown hK hP 32 wC_at32 rfl 5 (by decide) (hts _ m_460) (fun _ h9 => h9) rfl dX6_addStep_1 ?_
  refine lv_aload_n hx hb dX6_addStep_4 rfl (lv_at hl 0 rfl) ?_
  refine va_get (D := G) (ci := 6) (v := .ref (q 34)) (C := RX6) (T := TX6) (N := 6) hx hb hts iX6 hown hK hP 32 wC_at32 rfl 2 (by decide) (hts _ m_463) (fun _ h9 => h9) rfl dX6_addStep_5 ?_
  refine va_alen (D := G) hx hb hK hP 34 0 wC_at34 rfl (v := 300) rfl dX6_addStep_8 ?_
  refine lv_icmp_ge (tgt := 32) hx hb dX6_addStep_9 (by decide) (fun c_1 => ?_) (fun c_1 => ?_)
  · have hF := ob_pos c_1 hF
    exact hJ_32 h hF H _ ls hP hD hS (lv_sub hl [] rfl)
  · have hF := ob_neg c_1 hF
    refine lv_aload_n hx hb dX6_addStep_12 rfl (lv_at hl 0 rfl) ?_
    refine va_get (D := G) (ci := 6) (v := .ref (q 34)) (C := RX6) (T := TX6) (N := 6) hx hb hts iX6 hown hK hP 32 wC_at32 rfl 2 (by decide) (hts _ m_463) (fun _ h9 => h9) rfl dX6_addStep_13 ?_
    refine lv_aload_n hx hb dX6_addStep_16 rfl (lv_at hl 0 rfl) ?_
    refine va_get (D := G) (ci := 6) (v := .int (eI h 9 5)) (C := RX6) (T := TX6) (N := 6) hx hb hts iX6 hown hK hP 32 wC_at32 rfl 5 (by decide) (hts _ m_460) (fun _ h9 => h9) rfl dX6_addStep_17 ?_
    refine lv_iload_n hx hb dX6_addStep_20 rfl (lv_at hl 1 rfl) ?_
    obtain ⟨hi_2, hF⟩ := ob_if hF
    refine va_iast (D := G) hx hb hK hP hD hS 34 0 wC_at34 rfl (vp_in_iff.mpr hi_2) dX6_addStep_21 (fun H locs hP hD hS => ?_)
    rw [wC_sA34] at hP hD
    have hP : va_P G vwCl (wC q cI cJ cZ cB cT (sA h 9 2 (upd (eA h 9 2) (((eI h 9 5)).toNatClampNeg) p1))) H := hP
    have hD : va_D A (wC q cI cJ cZ cB cT (sA h 9 2 (upd (eA h 9 2) (((eI h 9 5)).toNatClampNeg) p1))) := hD
    refine lv_aload_n hx hb dX6_addStep_22 rfl (lv_at hl 0 rfl) ?_
    refine lv_dup hx hb dX6_addStep_23 rfl ?_
    refine va_get (D := G) (ci := 6) (v := .int (eI h 9 5)) (C := RX6) (T := TX6) (N := 6) hx hb hts iX6 hown hK hP 32 wC_at32 rfl 5 (by decide) (hts _ m_460) (fun _ h9 => h9) rfl dX6_addStep_24 ?_
    refine lv_iconst (v := 1) hx hb dX6_addStep_27 (by decide) ?_
    refine lv_iadd hx hb dX6_addStep_28 ?_
    refine va_put (D := G) (ci := 6) (v := .int ((eI h 9 5) + 1)) (ty := .int) (C := RX6) (T := TX6) (N := 6) hx hb hts iX6 tyX6 tyX6_ok nmX6 hown hK hP hD hS 32 wC_at32 rfl 5 (by decide) (hts _ m_460) (fun _ h9 => h9) rfl (tyX6_ok 5 (by decide)) rfl rfl (Nat.le_of_ble_eq_true rfl) dX6_addStep_29 (fun H locs hP hD hS => ?_)
    rw [wC_sI32_5] at hP hD
    exact hJ_32 (sI (sA h 9 2 (upd (eA h 9 2) (((eI h 9 5)).toNatClampNeg) p1)) 9 5 ((eI h 9 5) + 1)) hF H _ ls hP hD hS (lv_sub hl [] rfl)
def f_X6_stepAt_0_31 (h : HS) (y0 : Int32) : Option (Int32 × HS) := (some (y0, h))
def f_X6_stepAt_0_30 (h : HS) : Option (Int32 × HS) := (f_X6_stepAt_0_31 h 0)
def f_X6_stepAt_0 (h : HS) (p1 : Int32) : Option (Int32 × HS) := (if p1 < 0 then (f_X6_stepAt_0_30 h) else (if (eI h 9 5) ≤ p1 then (f_X6_stepAt_0_30 h) else (if 300 ≤ p1 then (f_X6_stepAt_0_30 h) else (if 0 ≤ (p1).toInt ∧ (p1).toInt < 300 then (f_X6_stepAt_0_31 h ((eA h 9 2) ((p1).toNatClampNeg))) else none))))
set_option maxHeartbeats 4000000 in
set_option maxRecDepth 100000 in
theorem c_X6_stepAt_0 (l : Launch) (G : va_G) (cI cJ cZ cB cT : ClassId) (q : Nat → Nat) (h : HS) (p1 : Int32) (rr : Int32) (hh : HS) (hF : f_X6_stepAt_0 h p1 = some (rr, hh)) : gMi l yX6_stepAt (gws yX6_stepAt cX6_stepAt 2 (some .int)) 1 G (gT cI cJ cZ cB cT) [.ref (q 32), .int p1] (wC q cI cJ cZ cB cT h) (fun x (_ : Unit) => x = rr) (fun (_ : Unit) => (wC q cI cJ cZ cB cT hh)) := by
  intro sz
  refine gM_start (y := yX6_stepAt) (av := [.ref (q 32), .int p1]) (ws := (wC q cI cJ cZ cB cT h)) (Qf := fun A => va_Qi (fun x (_ : Unit) => x = rr) (gB G (fun (_ : Unit) => (wC q cI cJ cZ cB cT hh)) A) A) (cc := cX6_stepAt) (maxL := 2) (ret := (some .int)) (by decide) (Nat.le_of_ble_eq_true rfl) ?_
  intro p e s m args below meth c A ls H hx hb hr hts hown hin hlocks hml hP hK hD hA hS hl hE
  have hl : lv_has ls 2 [(0, .ref (q 32)), (1, .int p1)] := hl
  have hJ_31 : ∀ (h : HS) (y0 : Int32), f_X6_stepAt_0_31 h y0 = some (rr, hh) → ∀ (H : Heap) (locs : List Loc) (ls : Array Slot), va_P G vwCl (wC q cI cJ cZ cB cT h) H → va_D A (wC q cI cJ cZ cB cT h) → va_S A s.heap H locs → lv_has ls 2 [] → W p l e (gRm 1) s m args below meth c H locs 0 0 (MQ below (va_Qi (fun x (_ : Unit) => x = rr) (gB G (fun (_ : Unit) => (wC q cI cJ cZ cB cT hh)) A) A) args s 0 0 A) (F0 m 31 ls [.int y0]) := by
    intro h y0 hF H locs ls hP hD hS hl
    unfold f_X6_stepAt_0_31 at hF
    obtain ⟨rfl, rfl⟩ := ob_pair hF
    exact gw_iret () hx hb hr hlocks hP hD hS rfl dX6_stepAt_31
  have hJ_30 : ∀ (h : HS), f_X6_stepAt_0_30 h = some (rr, hh) → ∀ (H : Heap) (locs : List Loc) (ls : Array Slot), va_P G vwCl (wC q cI cJ cZ cB cT h) H → va_D A (wC q cI cJ cZ cB cT h) → va_S A s.heap H locs → lv_has ls 2 [] → W p l e (gRm 1) s m args below meth c H locs 0 0 (MQ below (va_Qi (fun x (_ : Unit) => x = rr) (gB G (fun (_ : Unit) => (wC q cI cJ cZ cB cT hh)) A) A) args s 0 0 A) (F0 m 30 ls []) := by
    intro h hF H locs ls hP hD hS hl
    unfold f_X6_stepAt_0_30 at hF
    refine lv_iconst (v := 0) hx hb dX6_stepAt_30 (by decide) ?_
    exact hJ_31 h 0 hF H _ ls hP hD hS (lv_sub hl [] rfl)
  unfold f_X6_stepAt_0 at hF
  refine lv_iload_n hx hb dX6_stepAt_0 rfl (lv_at hl 1 rfl) ?_
  refine lv_if_lt (tgt := 30) hx hb dX6_stepAt_1 (by decide) (fun c_1 => ?_) (fun c_1 => ?_)
  · have hF := ob_pos c_1 hF
    exact hJ_30 h hF H _ ls hP hD hS (lv_sub hl [] rfl)
  · have hF := ob_neg c_1 hF
    refine lv_iload_n hx hb dX6_stepAt_4 rfl (lv_at hl 1 rfl) ?_
    refine lv_aload_n hx hb dX6_stepAt_5 rfl (lv_at hl 0 rfl) ?_
    refine va_get (D := G) (ci := 6) (v := .int (eI h 9 5)) (C := RX6) (T := TX6) (N := 6) hx hb hts iX6 hown hK hP 32 wC_at32 rfl 5 (by decide) (hts _ m_460) (fun _ h9 => h9) rfl dX6_stepAt_6 ?_
    refine lv_icmp_ge (tgt := 30) hx hb dX6_stepAt_9 (by decide) (fun c_2 => ?_) (fun c_2 => ?_)
    · have hF := ob_pos c_2 hF
      exact hJ_30 h hF H _ ls hP hD hS (lv_sub hl [] rfl)
    · have hF := ob_neg c_2 hF
      refine lv_iload_n hx hb dX6_stepAt_12 rfl (lv_at hl 1 rfl) ?_
      refine lv_aload_n hx hb dX6_stepAt_13 rfl (lv_at hl 0 rfl) ?_
      refine va_get (D := G) (ci := 6) (v := .ref (q 34)) (C := RX6) (T := TX6) (N := 6) hx hb hts iX6 hown hK hP 32 wC_at32 rfl 2 (by decide) (hts _ m_463) (fun _ h9 => h9) rfl dX6_stepAt_14 ?_
      refine va_alen (D := G) hx hb hK hP 34 0 wC_at34 rfl (v := 300) rfl dX6_stepAt_17 ?_
      refine lv_icmp_ge (tgt := 30) hx hb dX6_stepAt_18 (by decide) (fun c_3 => ?_) (fun c_3 => ?_)
      · have hF := ob_pos c_3 hF
        exact hJ_30 h hF H _ ls hP hD hS (lv_sub hl [] rfl)
      · have hF := ob_neg c_3 hF
        refine lv_aload_n hx hb dX6_stepAt_21 rfl (lv_at hl 0 rfl) ?_
        refine va_get (D := G) (ci := 6) (v := .ref (q 34)) (C := RX6) (T := TX6) (N := 6) hx hb hts iX6 hown hK hP 32 wC_at32 rfl 2 (by decide) (hts _ m_463) (fun _ h9 => h9) rfl dX6_stepAt_22 ?_
        refine lv_iload_n hx hb dX6_stepAt_25 rfl (lv_at hl 1 rfl) ?_
        obtain ⟨hi_4, hF⟩ := ob_if hF
        refine va_iald (D := G) hx hb hK hP 34 0 wC_at34 rfl (vp_in_iff.mpr hi_4) dX6_stepAt_26 ?_
        refine gw_topi (y := ((eA h 9 2) ((p1).toNatClampNeg))) rfl ?_
        refine lv_goto (tgt := 31) hx hb dX6_stepAt_27 (by decide) ?_
        exact hJ_31 h ((eA h 9 2) ((p1).toNatClampNeg)) hF H _ ls hP hD hS (lv_sub hl [] rfl)
def f_X6_clauseField_0_19 (h : HS) : Option (Int32 × HS) := (some ((-1), h))
def f_X6_clauseField_0 (h : HS) (p1 : Int32) (p2 : Int32) : Option (Int32 × HS) := (if p1 < 0 then (f_X6_clauseField_0_19 h) else (if 24 ≤ p1 then (f_X6_clauseField_0_19 h) else (if p2 < 0 then (f_X6_clauseField_0_19 h) else (if p2 < 4 then (if 0 ≤ (((p1 * 4) + p2)).toInt ∧ (((p1 * 4) + p2)).toInt < 96 then (some (((eA h 9 0) ((((p1 * 4) + p2)).toNatClampNeg)), h)) else none) else (f_X6_clauseField_0_19 h)))))
set_option maxHeartbeats 4000000 in
set_option maxRecDepth 100000 in
theorem c_X6_clauseField_0 (l : Launch) (G : va_G) (cI cJ cZ cB cT : ClassId) (q : Nat → Nat) (h : HS) (p1 : Int32) (p2 : Int32) (rr : Int32) (hh : HS) (hF : f_X6_clauseField_0 h p1 p2 = some (rr, hh)) : gMi l yX6_clauseField (gws yX6_clauseField cX6_clauseField 3 (some .int)) 1 G (gT cI cJ cZ cB cT) [.ref (q 32), .int p1, .int p2] (wC q cI cJ cZ cB cT h) (fun x (_ : Unit) => x = rr) (fun (_ : Unit) => (wC q cI cJ cZ cB cT hh)) := by
  intro sz
  refine gM_start (y := yX6_clauseField) (av := [.ref (q 32), .int p1, .int p2]) (ws := (wC q cI cJ cZ cB cT h)) (Qf := fun A => va_Qi (fun x (_ : Unit) => x = rr) (gB G (fun (_ : Unit) => (wC q cI cJ cZ cB cT hh)) A) A) (cc := cX6_clauseField) (maxL := 3) (ret := (some .int)) (by decide) (Nat.le_of_ble_eq_true rfl) ?_
  intro p e s m args below meth c A ls H hx hb hr hts hown hin hlocks hml hP hK hD hA hS hl hE
  have hl : lv_has ls 3 [(0, .ref (q 32)), (1, .int p1), (2, .int p2)] := hl
  have hJ_19 : ∀ (h : HS), f_X6_clauseField_0_19 h = some (rr, hh) → ∀ (H : Heap) (locs : List Loc) (ls : Array Slot), va_P G vwCl (wC q cI cJ cZ cB cT h) H → va_D A (wC q cI cJ cZ cB cT h) → va_S A s.heap H locs → lv_has ls 3 [] → W p l e (gRm 1) s m args below meth c H locs 0 0 (MQ below (va_Qi (fun x (_ : Unit) => x = rr) (gB G (fun (_ : Unit) => (wC q cI cJ cZ cB cT hh)) A) A) args s 0 0 A) (F0 m 19 ls []) := by
    intro h hF H locs ls hP hD hS hl
    unfold f_X6_clauseField_0_19 at hF
    refine lv_iconst (v := (-1)) hx hb dX6_clauseField_19 (by decide) ?_
    obtain ⟨rfl, rfl⟩ := ob_pair hF
    exact gw_iret () hx hb hr hlocks hP hD hS rfl dX6_clauseField_20
  unfold f_X6_clauseField_0 at hF
  refine lv_iload_n hx hb dX6_clauseField_0 rfl (lv_at hl 1 rfl) ?_
  refine lv_if_lt (tgt := 19) hx hb dX6_clauseField_1 (by decide) (fun c_1 => ?_) (fun c_1 => ?_)
  · have hF := ob_pos c_1 hF
    exact hJ_19 h hF H _ ls hP hD hS (lv_sub hl [] rfl)
  · have hF := ob_neg c_1 hF
    refine lv_iload_n hx hb dX6_clauseField_4 rfl (lv_at hl 1 rfl) ?_
    refine lv_bipush (v := 24) hx hb dX6_clauseField_5 (by decide) ?_
    refine lv_icmp_ge (tgt := 19) hx hb dX6_clauseField_7 (by decide) (fun c_2 => ?_) (fun c_2 => ?_)
    · have hF := ob_pos c_2 hF
      exact hJ_19 h hF H _ ls hP hD hS (lv_sub hl [] rfl)
    · have hF := ob_neg c_2 hF
      refine lv_iload_n hx hb dX6_clauseField_10 rfl (lv_at hl 2 rfl) ?_
      refine lv_if_lt (tgt := 19) hx hb dX6_clauseField_11 (by decide) (fun c_3 => ?_) (fun c_3 => ?_)
      · have hF := ob_pos c_3 hF
        exact hJ_19 h hF H _ ls hP hD hS (lv_sub hl [] rfl)
      · have hF := ob_neg c_3 hF
        refine lv_iload_n hx hb dX6_clauseField_14 rfl (lv_at hl 2 rfl) ?_
        refine lv_iconst (v := 4) hx hb dX6_clauseField_15 (by decide) ?_
        refine lv_icmp_lt (tgt := 21) hx hb dX6_clauseField_16 (by decide) (fun c_4 => ?_) (fun c_4 => ?_)
        · have hF := ob_pos c_4 hF
          refine lv_aload_n hx hb dX6_clauseField_21 rfl (lv_at hl 0 rfl) ?_
          refine va_get (D := G) (ci := 6) (v := .ref (q 33)) (C := RX6) (T := TX6) (N := 6) hx hb hts iX6 hown hK hP 32 wC_at32 rfl 0 (by decide) (hts _ m_464) (fun _ h9 => h9) rfl dX6_clauseField_22 ?_
          refine lv_iload_n hx hb dX6_clauseField_25 rfl (lv_at hl 1 rfl) ?_
          refine lv_iconst (v := 4) hx hb dX6_clauseField_26 (by decide) ?_
          refine lv_imul hx hb dX6_clauseField_27 ?_
          refine lv_iload_n hx hb dX6_clauseField_28 rfl (lv_at hl 2 rfl) ?_
          refine lv_iadd hx hb dX6_clauseField_29 ?_
          obtain ⟨hi_5, hF⟩ := ob_if hF
          refine va_iald (D := G) hx hb hK hP 33 0 wC_at33 rfl (vp_in_iff.mpr hi_5) dX6_clauseField_30 ?_
          refine gw_topi (y := ((eA h 9 0) ((((p1 * 4) + p2)).toNatClampNeg))) rfl ?_
          obtain ⟨rfl, rfl⟩ := ob_pair hF
          exact gw_iret () hx hb hr hlocks hP hD hS rfl dX6_clauseField_31
        · have hF := ob_neg c_4 hF
          exact hJ_19 h hF H _ ls hP hD hS (lv_sub hl [] rfl)
def f_X6_setClause_0_30 (h : HS) : Option HS := (some h)
def f_X6_setClause_0 (h : HS) (p1 : Int32) (p2 : Int32) (p3 : Int32) : Option HS := (if p1 < 0 then (f_X6_setClause_0_30 h) else (if 24 ≤ p1 then (f_X6_setClause_0_30 h) else (if p2 < 0 then (f_X6_setClause_0_30 h) else (if 4 ≤ p2 then (f_X6_setClause_0_30 h) else (if 0 ≤ (((p1 * 4) + p2)).toInt ∧ (((p1 * 4) + p2)).toInt < 96 then (f_X6_setClause_0_30 (sA h 9 0 (upd (eA h 9 0) ((((p1 * 4) + p2)).toNatClampNeg) p3))) else none)))))
set_option maxHeartbeats 4000000 in
set_option maxRecDepth 100000 in
theorem c_X6_setClause_0 (l : Launch) (G : va_G) (cI cJ cZ cB cT : ClassId) (q : Nat → Nat) (h : HS) (p1 : Int32) (p2 : Int32) (p3 : Int32) (hh : HS) (hF : f_X6_setClause_0 h p1 p2 p3 = some hh) : gMv l yX6_setClause (gws yX6_setClause cX6_setClause 4 none) 1 G (gT cI cJ cZ cB cT) [.ref (q 32), .int p1, .int p2, .int p3] (wC q cI cJ cZ cB cT h) (fun (_ : Unit) => True) (fun (_ : Unit) => (wC q cI cJ cZ cB cT hh)) := by
  intro sz
  refine gM_start (y := yX6_setClause) (av := [.ref (q 32), .int p1, .int p2, .int p3]) (ws := (wC q cI cJ cZ cB cT h)) (Qf := fun A => va_Qv (fun (_ : Unit) => True) (gB G (fun (_ : Unit) => (wC q cI cJ cZ cB cT hh)) A) A) (cc := cX6_setClause) (maxL := 4) (ret := none) (by decide) (Nat.le_of_ble_eq_true rfl) ?_
  intro p e s m args below meth c A ls H hx hb hr hts hown hin hlocks hml hP hK hD hA hS hl hE
  have hl : lv_has ls 4 [(0, .ref (q 32)), (1, .int p1), (2, .int p2), (3, .int p3)] := hl
  have hJ_30 : ∀ (h : HS), f_X6_setClause_0_30 h = some hh → ∀ (H : Heap) (locs : List Loc) (ls : Array Slot), va_P G vwCl (wC q cI cJ cZ cB cT h) H → va_D A (wC q cI cJ cZ cB cT h) → va_S A s.heap H locs → lv_has ls 4 [] → W p l e (gRm 1) s m args below meth c H locs 0 0 (MQ below (va_Qv (fun (_ : Unit) => True) (gB G (fun (_ : Unit) => (wC q cI cJ cZ cB cT hh)) A) A) args s 0 0 A) (F0 m 30 ls []) := by
    intro h hF H locs ls hP hD hS hl
    unfold f_X6_setClause_0_30 at hF
    obtain rfl := ob_one hF
    exact gw_vret () hx hb hr hlocks hP hD hS trivial dX6_setClause_30
  unfold f_X6_setClause_0 at hF
  refine lv_iload_n hx hb dX6_setClause_0 rfl (lv_at hl 1 rfl) ?_
  refine lv_if_lt (tgt := 30) hx hb dX6_setClause_1 (by decide) (fun c_1 => ?_) (fun c_1 => ?_)
  · have hF := ob_pos c_1 hF
    exact hJ_30 h hF H _ ls hP hD hS (lv_sub hl [] rfl)
  · have hF := ob_neg c_1 hF
    refine lv_iload_n hx hb dX6_setClause_4 rfl (lv_at hl 1 rfl) ?_
    refine lv_bipush (v := 24) hx hb dX6_setClause_5 (by decide) ?_
    refine lv_icmp_ge (tgt := 30) hx hb dX6_setClause_7 (by decide) (fun c_2 => ?_) (fun c_2 => ?_)
    · have hF := ob_pos c_2 hF
      exact hJ_30 h hF H _ ls hP hD hS (lv_sub hl [] rfl)
    · have hF := ob_neg c_2 hF
      refine lv_iload_n hx hb dX6_setClause_10 rfl (lv_at hl 2 rfl) ?_
      refine lv_if_lt (tgt := 30) hx hb dX6_setClause_11 (by decide) (fun c_3 => ?_) (fun c_3 => ?_)
      · have hF := ob_pos c_3 hF
        exact hJ_30 h hF H _ ls hP hD hS (lv_sub hl [] rfl)
      · have hF := ob_neg c_3 hF
        refine lv_iload_n hx hb dX6_setClause_14 rfl (lv_at hl 2 rfl) ?_
        refine lv_iconst (v := 4) hx hb dX6_setClause_15 (by decide) ?_
        refine lv_icmp_ge (tgt := 30) hx hb dX6_setClause_16 (by decide) (fun c_4 => ?_) (fun c_4 => ?_)
        · have hF := ob_pos c_4 hF
          exact hJ_30 h hF H _ ls hP hD hS (lv_sub hl [] rfl)
        · have hF := ob_neg c_4 hF
          refine lv_aload_n hx hb dX6_setClause_19 rfl (lv_at hl 0 rfl) ?_
          refine va_get (D := G) (ci := 6) (v := .ref (q 33)) (C := RX6) (T := TX6) (N := 6) hx hb hts iX6 hown hK hP 32 wC_at32 rfl 0 (by decide) (hts _ m_464) (fun _ h9 => h9) rfl dX6_setClause_20 ?_
          refine lv_iload_n hx hb dX6_setClause_23 rfl (lv_at hl 1 rfl) ?_
          refine lv_iconst (v := 4) hx hb dX6_setClause_24 (by decide) ?_
          refine lv_imul hx hb dX6_setClause_25 ?_
          refine lv_iload_n hx hb dX6_setClause_26 rfl (lv_at hl 2 rfl) ?_
          refine lv_iadd hx hb dX6_setClause_27 ?_
          refine lv_iload_n hx hb dX6_setClause_28 rfl (lv_at hl 3 rfl) ?_
          obtain ⟨hi_5, hF⟩ := ob_if hF
          refine va_iast (D := G) hx hb hK hP hD hS 33 0 wC_at33 rfl (vp_in_iff.mpr hi_5) dX6_setClause_29 (fun H locs hP hD hS => ?_)
          rw [wC_sA33] at hP hD
          have hP : va_P G vwCl (wC q cI cJ cZ cB cT (sA h 9 0 (upd (eA h 9 0) ((((p1 * 4) + p2)).toNatClampNeg) p3))) H := hP
          have hD : va_D A (wC q cI cJ cZ cB cT (sA h 9 0 (upd (eA h 9 0) ((((p1 * 4) + p2)).toNatClampNeg) p3))) := hD
          exact hJ_30 (sA h 9 0 (upd (eA h 9 0) ((((p1 * 4) + p2)).toNatClampNeg) p3)) hF H _ ls hP hD hS (lv_sub hl [] rfl)
def f_X6_clear_1_12 : Nat → HS → Int32 → Option HS
  | 0, _, _ => none
  | n + 1, h, x1 => (if 4 ≤ x1 then (some h) else (if 0 ≤ (x1).toInt ∧ (x1).toInt < 4 then (if 0 ≤ (x1).toInt ∧ (x1).toInt < 4 then ((f_X6_clear_1_12 n) (sA (sA h 10 3 (upd (eA h 10 3) ((x1).toNatClampNeg) (-1))) 10 4 (upd (eA h 10 4) ((x1).toNatClampNeg) (-1))) (x1 + 1)) else none) else none))
theorem f_X6_clear_1_12_s (n : Nat) (h : HS) (x1 : Int32) : f_X6_clear_1_12 (n + 1) h x1 = (if 4 ≤ x1 then (some h) else (if 0 ≤ (x1).toInt ∧ (x1).toInt < 4 then (if 0 ≤ (x1).toInt ∧ (x1).toInt < 4 then ((f_X6_clear_1_12 n) (sA (sA h 10 3 (upd (eA h 10 3) ((x1).toNatClampNeg) (-1))) 10 4 (upd (eA h 10 4) ((x1).toNatClampNeg) (-1))) (x1 + 1)) else none) else none)) := rfl
def f_X6_clear_1 (h : HS) : Option HS := (f_X6_clear_1_12 8589934592 (sI (sI h 10 1 0) 10 5 0) 0)
set_option maxHeartbeats 4000000 in
set_option maxRecDepth 100000 in
theorem c_X6_clear_1 (l : Launch) (G : va_G) (cI cJ cZ cB cT : ClassId) (q : Nat → Nat) (h : HS)  (hh : HS) (hF : f_X6_clear_1 h = some hh) : gMv l yX6_clear (gws yX6_clear cX6_clear 2 none) 1 G (gT cI cJ cZ cB cT) [.ref (q 37)] (wC q cI cJ cZ cB cT h) (fun (_ : Unit) => True) (fun (_ : Unit) => (wC q cI cJ cZ cB cT hh)) := by
  intro sz
  refine gM_start (y := yX6_clear) (av := [.ref (q 37)]) (ws := (wC q cI cJ cZ cB cT h)) (Qf := fun A => va_Qv (fun (_ : Unit) => True) (gB G (fun (_ : Unit) => (wC q cI cJ cZ cB cT hh)) A) A) (cc := cX6_clear) (maxL := 2) (ret := none) (by decide) (Nat.le_of_ble_eq_true rfl) ?_
  intro p e s m args below meth c A ls H hx hb hr hts hown hin hlocks hml hP hK hD hA hS hl hE
  have hl : lv_has ls 2 [(0, .ref (q 37))] := hl
  have hJ_12 : ∀ (n_12 : Nat) (h : HS) (x1 : Int32), f_X6_clear_1_12 n_12 h x1 = some hh → ∀ (H : Heap) (locs : List Loc) (ls : Array Slot), va_P G vwCl (wC q cI cJ cZ cB cT h) H → va_D A (wC q cI cJ cZ cB cT h) → va_S A s.heap H locs → lv_has ls 2 [(0, .ref (q 37)), (1, .int x1)] → W p l e (gRm 1) s m args below meth c H locs 0 0 (MQ below (va_Qv (fun (_ : Unit) => True) (gB G (fun (_ : Unit) => (wC q cI cJ cZ cB cT hh)) A) A) args s 0 0 A) (F0 m 12 ls []) := by
    intro n_12
    induction n_12 with
    | zero =>
      intro h x1 hF
      exact absurd hF (by simp [f_X6_clear_1_12])
    | succ n_12 ih_12 =>
      intro h x1 hF H locs ls hP hD hS hl
      rw [f_X6_clear_1_12_s] at hF
      refine lv_iload_n hx hb dX6_clear_12 rfl (lv_at hl 1 rfl) ?_
      refine lv_iconst (v := 4) hx hb dX6_clear_13 (by decide) ?_
      refine lv_icmp_ge (tgt := 37) hx hb dX6_clear_14 (by decide) (fun c_1 => ?_) (fun c_1 => ?_)
      · have hF := ob_pos c_1 hF
        obtain rfl := ob_one hF
        exact gw_vret () hx hb hr hlocks hP hD hS trivial dX6_clear_37
      · have hF := ob_neg c_1 hF
        refine lv_aload_n hx hb dX6_clear_17 rfl (lv_at hl 0 rfl) ?_
        refine va_get (D := G) (ci := 6) (v := .ref (q 40)) (C := RX6) (T := TX6) (N := 6) hx hb hts iX6 hown hK hP 37 wC_at37 rfl 3 (by decide) (hts _ m_461) (fun _ h9 => h9) rfl dX6_clear_18 ?_
        refine lv_iload_n hx hb dX6_clear_21 rfl (lv_at hl 1 rfl) ?_
        refine lv_iconst (v := (-1)) hx hb dX6_clear_22 (by decide) ?_
        obtain ⟨hi_2, hF⟩ := ob_if hF
        refine va_iast (D := G) hx hb hK hP hD hS 40 0 wC_at40 rfl (vp_in_iff.mpr hi_2) dX6_clear_23 (fun H locs hP hD hS => ?_)
        rw [wC_sA40] at hP hD
        have hP : va_P G vwCl (wC q cI cJ cZ cB cT (sA h 10 3 (upd (eA h 10 3) ((x1).toNatClampNeg) (-1)))) H := hP
        have hD : va_D A (wC q cI cJ cZ cB cT (sA h 10 3 (upd (eA h 10 3) ((x1).toNatClampNeg) (-1)))) := hD
        refine lv_aload_n hx hb dX6_clear_24 rfl (lv_at hl 0 rfl) ?_
        refine va_get (D := G) (ci := 6) (v := .ref (q 41)) (C := RX6) (T := TX6) (N := 6) hx hb hts iX6 hown hK hP 37 wC_at37 rfl 4 (by decide) (hts _ m_462) (fun _ h9 => h9) rfl dX6_clear_25 ?_
        refine lv_iload_n hx hb dX6_clear_28 rfl (lv_at hl 1 rfl) ?_
        refine lv_iconst (v := (-1)) hx hb dX6_clear_29 (by decide) ?_
        obtain ⟨hi_3, hF⟩ := ob_if hF
        refine va_iast (D := G) hx hb hK hP hD hS 41 0 wC_at41 rfl (vp_in_iff.mpr hi_3) dX6_clear_30 (fun H locs hP hD hS => ?_)
        rw [wC_sA41] at hP hD
        have hP : va_P G vwCl (wC q cI cJ cZ cB cT (sA (sA h 10 3 (upd (eA h 10 3) ((x1).toNatClampNeg) (-1))) 10 4 (upd (eA h 10 4) ((x1).toNatClampNeg) (-1)))) H := hP
        have hD : va_D A (wC q cI cJ cZ cB cT (sA (sA h 10 3 (upd (eA h 10 3) ((x1).toNatClampNeg) (-1))) 10 4 (upd (eA h 10 4) ((x1).toNatClampNeg) (-1)))) := hD
        refine lv_iinc (v := (x1 + 1)) (lv' := [(1, .int (x1 + 1)), (0, .ref (q 37))]) hx hb dX6_clear_31 hl (k := 1) rfl rfl (by decide) rfl (fun ls hl => ?_)
        refine lv_goto (tgt := 12) hx hb dX6_clear_34 (by decide) ?_
        exact ih_12 (sA (sA h 10 3 (upd (eA h 10 3) ((x1).toNatClampNeg) (-1))) 10 4 (upd (eA h 10 4) ((x1).toNatClampNeg) (-1))) (x1 + 1) hF H _ ls hP hD hS (lv_sub hl [1, 0] rfl)
  unfold f_X6_clear_1 at hF
  refine lv_aload_n hx hb dX6_clear_0 rfl (lv_at hl 0 rfl) ?_
  refine lv_iconst (v := 0) hx hb dX6_clear_1 (by decide) ?_
  refine va_put (D := G) (ci := 6) (v := .int 0) (ty := .int) (C := RX6) (T := TX6) (N := 6) hx hb hts iX6 tyX6 tyX6_ok nmX6 hown hK hP hD hS 37 wC_at37 rfl 1 (by decide) (hts _ m_459) (fun _ h9 => h9) rfl (tyX6_ok 1 (by decide)) rfl rfl (Nat.le_of_ble_eq_true rfl) dX6_clear_2 (fun H locs hP hD hS => ?_)
  rw [wC_sI37_1] at hP hD
  refine lv_aload_n hx hb dX6_clear_5 rfl (lv_at hl 0 rfl) ?_
  refine lv_iconst (v := 0) hx hb dX6_clear_6 (by decide) ?_
  refine va_put (D := G) (ci := 6) (v := .int 0) (ty := .int) (C := RX6) (T := TX6) (N := 6) hx hb hts iX6 tyX6 tyX6_ok nmX6 hown hK hP hD hS 37 wC_at37 rfl 5 (by decide) (hts _ m_460) (fun _ h9 => h9) rfl (tyX6_ok 5 (by decide)) rfl rfl (Nat.le_of_ble_eq_true rfl) dX6_clear_7 (fun H locs hP hD hS => ?_)
  rw [wC_sI37_5] at hP hD
  refine lv_iconst (v := 0) hx hb dX6_clear_10 (by decide) ?_
  refine lv_istore_n (lv' := [(1, .int 0), (0, .ref (q 37))]) hx hb dX6_clear_11 rfl hl (by decide) rfl (fun ls hl => ?_)
  exact hJ_12 8589934592 (sI (sI h 10 1 0) 10 5 0) 0 hF H _ ls hP hD hS (lv_sub hl [1, 0] rfl)
def f_X6_hasLaw_1_24 (h : HS) (y0 : Int32) : Option (Int32 × HS) := (if y0 = 0 ∨ y0 = 1 then (some (y0, h)) else none)
def f_X6_hasLaw_1_23 (h : HS) : Option (Int32 × HS) := (f_X6_hasLaw_1_24 h 0)
def f_X6_hasLaw_1 (h : HS) (p1 : Int32) : Option (Int32 × HS) := (if p1 < 0 then (f_X6_hasLaw_1_23 h) else (if 4 ≤ p1 then (f_X6_hasLaw_1_23 h) else (if 0 ≤ (p1).toInt ∧ (p1).toInt < 4 then (if ((eA h 10 3) ((p1).toNatClampNeg)) = (-1) then (f_X6_hasLaw_1_23 h) else (f_X6_hasLaw_1_24 h 1)) else none)))
set_option maxHeartbeats 4000000 in
set_option maxRecDepth 100000 in
theorem c_X6_hasLaw_1 (l : Launch) (G : va_G) (cI cJ cZ cB cT : ClassId) (q : Nat → Nat) (h : HS) (p1 : Int32) (rr : Int32) (hh : HS) (hF : f_X6_hasLaw_1 h p1 = some (rr, hh)) : gMi l yX6_hasLaw (gws yX6_hasLaw cX6_hasLaw 2 (some .boolean)) 1 G (gT cI cJ cZ cB cT) [.ref (q 37), .int p1] (wC q cI cJ cZ cB cT h) (fun x (_ : Unit) => x = rr) (fun (_ : Unit) => (wC q cI cJ cZ cB cT hh)) := by
  intro sz
  refine gM_start (y := yX6_hasLaw) (av := [.ref (q 37), .int p1]) (ws := (wC q cI cJ cZ cB cT h)) (Qf := fun A => va_Qi (fun x (_ : Unit) => x = rr) (gB G (fun (_ : Unit) => (wC q cI cJ cZ cB cT hh)) A) A) (cc := cX6_hasLaw) (maxL := 2) (ret := (some .boolean)) (by decide) (Nat.le_of_ble_eq_true rfl) ?_
  intro p e s m args below meth c A ls H hx hb hr hts hown hin hlocks hml hP hK hD hA hS hl hE
  have hl : lv_has ls 2 [(0, .ref (q 37)), (1, .int p1)] := hl
  have hJ_24 : ∀ (h : HS) (y0 : Int32), f_X6_hasLaw_1_24 h y0 = some (rr, hh) → ∀ (H : Heap) (locs : List Loc) (ls : Array Slot), va_P G vwCl (wC q cI cJ cZ cB cT h) H → va_D A (wC q cI cJ cZ cB cT h) → va_S A s.heap H locs → lv_has ls 2 [] → W p l e (gRm 1) s m args below meth c H locs 0 0 (MQ below (va_Qi (fun x (_ : Unit) => x = rr) (gB G (fun (_ : Unit) => (wC q cI cJ cZ cB cT hh)) A) A) args s 0 0 A) (F0 m 24 ls [.int y0]) := by
    intro h y0 hF H locs ls hP hD hS hl
    unfold f_X6_hasLaw_1_24 at hF
    obtain ⟨hz_5, hF⟩ := ob_if hF
    obtain ⟨rfl, rfl⟩ := ob_pair hF
    exact gw_zret () hx hb hr hlocks (gz hz_5) hP hD hS rfl dX6_hasLaw_24
  have hJ_23 : ∀ (h : HS), f_X6_hasLaw_1_23 h = some (rr, hh) → ∀ (H : Heap) (locs : List Loc) (ls : Array Slot), va_P G vwCl (wC q cI cJ cZ cB cT h) H → va_D A (wC q cI cJ cZ cB cT h) → va_S A s.heap H locs → lv_has ls 2 [] → W p l e (gRm 1) s m args below meth c H locs 0 0 (MQ below (va_Qi (fun x (_ : Unit) => x = rr) (gB G (fun (_ : Unit) => (wC q cI cJ cZ cB cT hh)) A) A) args s 0 0 A) (F0 m 23 ls []) := by
    intro h hF H locs ls hP hD hS hl
    unfold f_X6_hasLaw_1_23 at hF
    refine lv_iconst (v := 0) hx hb dX6_hasLaw_23 (by decide) ?_
    exact hJ_24 h 0 hF H _ ls hP hD hS (lv_sub hl [] rfl)
  unfold f_X6_hasLaw_1 at hF
  refine lv_iload_n hx hb dX6_hasLaw_0 rfl (lv_at hl 1 rfl) ?_
  refine lv_if_lt (tgt := 23) hx hb dX6_hasLaw_1 (by decide) (fun c_1 => ?_) (fun c_1 => ?_)
  · have hF := ob_pos c_1 hF
    exact hJ_23 h hF H _ ls hP hD hS (lv_sub hl [] rfl)
  · have hF := ob_neg c_1 hF
    refine lv_iload_n hx hb dX6_hasLaw_4 rfl (lv_at hl 1 rfl) ?_
    refine lv_iconst (v := 4) hx hb dX6_hasLaw_5 (by decide) ?_
    refine lv_icmp_ge (tgt := 23) hx hb dX6_hasLaw_6 (by decide) (fun c_2 => ?_) (fun c_2 => ?_)
    · have hF := ob_pos c_2 hF
      exact hJ_23 h hF H _ ls hP hD hS (lv_sub hl [] rfl)
    · have hF := ob_neg c_2 hF
      refine lv_aload_n hx hb dX6_hasLaw_9 rfl (lv_at hl 0 rfl) ?_
      refine va_get (D := G) (ci := 6) (v := .ref (q 40)) (C := RX6) (T := TX6) (N := 6) hx hb hts iX6 hown hK hP 37 wC_at37 rfl 3 (by decide) (hts _ m_461) (fun _ h9 => h9) rfl dX6_hasLaw_10 ?_
      refine lv_iload_n hx hb dX6_hasLaw_13 rfl (lv_at hl 1 rfl) ?_
      obtain ⟨hi_3, hF⟩ := ob_if hF
      refine va_iald (D := G) hx hb hK hP 40 0 wC_at40 rfl (vp_in_iff.mpr hi_3) dX6_hasLaw_14 ?_
      refine gw_topi (y := ((eA h 10 3) ((p1).toNatClampNeg))) rfl ?_
      refine lv_iconst (v := (-1)) hx hb dX6_hasLaw_15 (by decide) ?_
      refine lv_icmp_eq (tgt := 23) hx hb dX6_hasLaw_16 (by decide) (fun c_4 => ?_) (fun c_4 => ?_)
      · have hF := ob_pos c_4 hF
        exact hJ_23 h hF H _ ls hP hD hS (lv_sub hl [] rfl)
      · have hF := ob_neg c_4 hF
        refine lv_iconst (v := 1) hx hb dX6_hasLaw_19 (by decide) ?_
        refine lv_goto (tgt := 24) hx hb dX6_hasLaw_20 (by decide) ?_
        exact hJ_24 h 1 hF H _ ls hP hD hS (lv_sub hl [] rfl)
def f_X6_beginLaw_1_19 (h : HS) : Option HS := (some h)
def f_X6_beginLaw_1 (h : HS) (p1 : Int32) : Option HS := (if p1 < 0 then (f_X6_beginLaw_1_19 h) else (if 4 ≤ p1 then (f_X6_beginLaw_1_19 h) else (if 0 ≤ (p1).toInt ∧ (p1).toInt < 4 then (f_X6_beginLaw_1_19 (sA h 10 3 (upd (eA h 10 3) ((p1).toNatClampNeg) (eI h 10 5)))) else none)))
set_option maxHeartbeats 4000000 in
set_option maxRecDepth 100000 in
theorem c_X6_beginLaw_1 (l : Launch) (G : va_G) (cI cJ cZ cB cT : ClassId) (q : Nat → Nat) (h : HS) (p1 : Int32) (hh : HS) (hF : f_X6_beginLaw_1 h p1 = some hh) : gMv l yX6_beginLaw (gws yX6_beginLaw cX6_beginLaw 2 none) 1 G (gT cI cJ cZ cB cT) [.ref (q 37), .int p1] (wC q cI cJ cZ cB cT h) (fun (_ : Unit) => True) (fun (_ : Unit) => (wC q cI cJ cZ cB cT hh)) := by
  intro sz
  refine gM_start (y := yX6_beginLaw) (av := [.ref (q 37), .int p1]) (ws := (wC q cI cJ cZ cB cT h)) (Qf := fun A => va_Qv (fun (_ : Unit) => True) (gB G (fun (_ : Unit) => (wC q cI cJ cZ cB cT hh)) A) A) (cc := cX6_beginLaw) (maxL := 2) (ret := none) (by decide) (Nat.le_of_ble_eq_true rfl) ?_
  intro p e s m args below meth c A ls H hx hb hr hts hown hin hlocks hml hP hK hD hA hS hl hE
  have hl : lv_has ls 2 [(0, .ref (q 37)), (1, .int p1)] := hl
  have hJ_19 : ∀ (h : HS), f_X6_beginLaw_1_19 h = some hh → ∀ (H : Heap) (locs : List Loc) (ls : Array Slot), va_P G vwCl (wC q cI cJ cZ cB cT h) H → va_D A (wC q cI cJ cZ cB cT h) → va_S A s.heap H locs → lv_has ls 2 [] → W p l e (gRm 1) s m args below meth c H locs 0 0 (MQ below (va_Qv (fun (_ : Unit) => True) (gB G (fun (_ : Unit) => (wC q cI cJ cZ cB cT hh)) A) A) args s 0 0 A) (F0 m 19 ls []) := by
    intro h hF H locs ls hP hD hS hl
    unfold f_X6_beginLaw_1_19 at hF
    obtain rfl := ob_one hF
    exact gw_vret () hx hb hr hlocks hP hD hS trivial dX6_beginLaw_19
  unfold f_X6_beginLaw_1 at hF
  refine lv_iload_n hx hb dX6_beginLaw_0 rfl (lv_at hl 1 rfl) ?_
  refine lv_if_lt (tgt := 19) hx hb dX6_beginLaw_1 (by decide) (fun c_1 => ?_) (fun c_1 => ?_)
  · have hF := ob_pos c_1 hF
    exact hJ_19 h hF H _ ls hP hD hS (lv_sub hl [] rfl)
  · have hF := ob_neg c_1 hF
    refine lv_iload_n hx hb dX6_beginLaw_4 rfl (lv_at hl 1 rfl) ?_
    refine lv_iconst (v := 4) hx hb dX6_beginLaw_5 (by decide) ?_
    refine lv_icmp_ge (tgt := 19) hx hb dX6_beginLaw_6 (by decide) (fun c_2 => ?_) (fun c_2 => ?_)
    · have hF := ob_pos c_2 hF
      exact hJ_19 h hF H _ ls hP hD hS (lv_sub hl [] rfl)
    · have hF := ob_neg c_2 hF
      refine lv_aload_n hx hb dX6_beginLaw_9 rfl (lv_at hl 0 rfl) ?_
      refine va_get (D := G) (ci := 6) (v := .ref (q 40)) (C := RX6) (T := TX6) (N := 6) hx hb hts iX6 hown hK hP 37 wC_at37 rfl 3 (by decide) (hts _ m_461) (fun _ h9 => h9) rfl dX6_beginLaw_10 ?_
      refine lv_iload_n hx hb dX6_beginLaw_13 rfl (lv_at hl 1 rfl) ?_
      refine lv_aload_n hx hb dX6_beginLaw_14 rfl (lv_at hl 0 rfl) ?_
      refine va_get (D := G) (ci := 6) (v := .int (eI h 10 5)) (C := RX6) (T := TX6) (N := 6) hx hb hts iX6 hown hK hP 37 wC_at37 rfl 5 (by decide) (hts _ m_460) (fun _ h9 => h9) rfl dX6_beginLaw_15 ?_
      obtain ⟨hi_3, hF⟩ := ob_if hF
      refine va_iast (D := G) hx hb hK hP hD hS 40 0 wC_at40 rfl (vp_in_iff.mpr hi_3) dX6_beginLaw_18 (fun H locs hP hD hS => ?_)
      rw [wC_sA40] at hP hD
      have hP : va_P G vwCl (wC q cI cJ cZ cB cT (sA h 10 3 (upd (eA h 10 3) ((p1).toNatClampNeg) (eI h 10 5)))) H := hP
      have hD : va_D A (wC q cI cJ cZ cB cT (sA h 10 3 (upd (eA h 10 3) ((p1).toNatClampNeg) (eI h 10 5)))) := hD
      exact hJ_19 (sA h 10 3 (upd (eA h 10 3) ((p1).toNatClampNeg) (eI h 10 5))) hF H _ ls hP hD hS (lv_sub hl [] rfl)
def f_X6_closeLaw_1_19 (h : HS) : Option HS := (some h)
def f_X6_closeLaw_1 (h : HS) (p1 : Int32) : Option HS := (if p1 < 0 then (f_X6_closeLaw_1_19 h) else (if 4 ≤ p1 then (f_X6_closeLaw_1_19 h) else (if 0 ≤ (p1).toInt ∧ (p1).toInt < 4 then (f_X6_closeLaw_1_19 (sA h 10 4 (upd (eA h 10 4) ((p1).toNatClampNeg) (eI h 10 5)))) else none)))
set_option maxHeartbeats 4000000 in
set_option maxRecDepth 100000 in
theorem c_X6_closeLaw_1 (l : Launch) (G : va_G) (cI cJ cZ cB cT : ClassId) (q : Nat → Nat) (h : HS) (p1 : Int32) (hh : HS) (hF : f_X6_closeLaw_1 h p1 = some hh) : gMv l yX6_closeLaw (gws yX6_closeLaw cX6_closeLaw 2 none) 1 G (gT cI cJ cZ cB cT) [.ref (q 37), .int p1] (wC q cI cJ cZ cB cT h) (fun (_ : Unit) => True) (fun (_ : Unit) => (wC q cI cJ cZ cB cT hh)) := by
  intro sz
  refine gM_start (y := yX6_closeLaw) (av := [.ref (q 37), .int p1]) (ws := (wC q cI cJ cZ cB cT h)) (Qf := fun A => va_Qv (fun (_ : Unit) => True) (gB G (fun (_ : Unit) => (wC q cI cJ cZ cB cT hh)) A) A) (cc := cX6_closeLaw) (maxL := 2) (ret := none) (by decide) (Nat.le_of_ble_eq_true rfl) ?_
  intro p e s m args below meth c A ls H hx hb hr hts hown hin hlocks hml hP hK hD hA hS hl hE
  have hl : lv_has ls 2 [(0, .ref (q 37)), (1, .int p1)] := hl
  have hJ_19 : ∀ (h : HS), f_X6_closeLaw_1_19 h = some hh → ∀ (H : Heap) (locs : List Loc) (ls : Array Slot), va_P G vwCl (wC q cI cJ cZ cB cT h) H → va_D A (wC q cI cJ cZ cB cT h) → va_S A s.heap H locs → lv_has ls 2 [] → W p l e (gRm 1) s m args below meth c H locs 0 0 (MQ below (va_Qv (fun (_ : Unit) => True) (gB G (fun (_ : Unit) => (wC q cI cJ cZ cB cT hh)) A) A) args s 0 0 A) (F0 m 19 ls []) := by
    intro h hF H locs ls hP hD hS hl
    unfold f_X6_closeLaw_1_19 at hF
    obtain rfl := ob_one hF
    exact gw_vret () hx hb hr hlocks hP hD hS trivial dX6_closeLaw_19
  unfold f_X6_closeLaw_1 at hF
  refine lv_iload_n hx hb dX6_closeLaw_0 rfl (lv_at hl 1 rfl) ?_
  refine lv_if_lt (tgt := 19) hx hb dX6_closeLaw_1 (by decide) (fun c_1 => ?_) (fun c_1 => ?_)
  · have hF := ob_pos c_1 hF
    exact hJ_19 h hF H _ ls hP hD hS (lv_sub hl [] rfl)
  · have hF := ob_neg c_1 hF
    refine lv_iload_n hx hb dX6_closeLaw_4 rfl (lv_at hl 1 rfl) ?_
    refine lv_iconst (v := 4) hx hb dX6_closeLaw_5 (by decide) ?_
    refine lv_icmp_ge (tgt := 19) hx hb dX6_closeLaw_6 (by decide) (fun c_2 => ?_) (fun c_2 => ?_)
    · have hF := ob_pos c_2 hF
      exact hJ_19 h hF H _ ls hP hD hS (lv_sub hl [] rfl)
    · have hF := ob_neg c_2 hF
      refine lv_aload_n hx hb dX6_closeLaw_9 rfl (lv_at hl 0 rfl) ?_
      refine va_get (D := G) (ci := 6) (v := .ref (q 41)) (C := RX6) (T := TX6) (N := 6) hx hb hts iX6 hown hK hP 37 wC_at37 rfl 4 (by decide) (hts _ m_462) (fun _ h9 => h9) rfl dX6_closeLaw_10 ?_
      refine lv_iload_n hx hb dX6_closeLaw_13 rfl (lv_at hl 1 rfl) ?_
      refine lv_aload_n hx hb dX6_closeLaw_14 rfl (lv_at hl 0 rfl) ?_
      refine va_get (D := G) (ci := 6) (v := .int (eI h 10 5)) (C := RX6) (T := TX6) (N := 6) hx hb hts iX6 hown hK hP 37 wC_at37 rfl 5 (by decide) (hts _ m_460) (fun _ h9 => h9) rfl dX6_closeLaw_15 ?_
      obtain ⟨hi_3, hF⟩ := ob_if hF
      refine va_iast (D := G) hx hb hK hP hD hS 41 0 wC_at41 rfl (vp_in_iff.mpr hi_3) dX6_closeLaw_18 (fun H locs hP hD hS => ?_)
      rw [wC_sA41] at hP hD
      have hP : va_P G vwCl (wC q cI cJ cZ cB cT (sA h 10 4 (upd (eA h 10 4) ((p1).toNatClampNeg) (eI h 10 5)))) H := hP
      have hD : va_D A (wC q cI cJ cZ cB cT (sA h 10 4 (upd (eA h 10 4) ((p1).toNatClampNeg) (eI h 10 5)))) := hD
      exact hJ_19 (sA h 10 4 (upd (eA h 10 4) ((p1).toNatClampNeg) (eI h 10 5))) hF H _ ls hP hD hS (lv_sub hl [] rfl)
def f_X6_firstStep_1_19 (h : HS) (y0 : Int32) : Option (Int32 × HS) := (some (y0, h))
def f_X6_firstStep_1_18 (h : HS) : Option (Int32 × HS) := (f_X6_firstStep_1_19 h 0)
def f_X6_firstStep_1 (h : HS) (p1 : Int32) : Option (Int32 × HS) := (if p1 < 0 then (f_X6_firstStep_1_18 h) else (if 4 ≤ p1 then (f_X6_firstStep_1_18 h) else (if 0 ≤ (p1).toInt ∧ (p1).toInt < 4 then (f_X6_firstStep_1_19 h ((eA h 10 3) ((p1).toNatClampNeg))) else none)))
set_option maxHeartbeats 4000000 in
set_option maxRecDepth 100000 in
theorem c_X6_firstStep_1 (l : Launch) (G : va_G) (cI cJ cZ cB cT : ClassId) (q : Nat → Nat) (h : HS) (p1 : Int32) (rr : Int32) (hh : HS) (hF : f_X6_firstStep_1 h p1 = some (rr, hh)) : gMi l yX6_firstStep (gws yX6_firstStep cX6_firstStep 2 (some .int)) 1 G (gT cI cJ cZ cB cT) [.ref (q 37), .int p1] (wC q cI cJ cZ cB cT h) (fun x (_ : Unit) => x = rr) (fun (_ : Unit) => (wC q cI cJ cZ cB cT hh)) := by
  intro sz
  refine gM_start (y := yX6_firstStep) (av := [.ref (q 37), .int p1]) (ws := (wC q cI cJ cZ cB cT h)) (Qf := fun A => va_Qi (fun x (_ : Unit) => x = rr) (gB G (fun (_ : Unit) => (wC q cI cJ cZ cB cT hh)) A) A) (cc := cX6_firstStep) (maxL := 2) (ret := (some .int)) (by decide) (Nat.le_of_ble_eq_true rfl) ?_
  intro p e s m args below meth c A ls H hx hb hr hts hown hin hlocks hml hP hK hD hA hS hl hE
  have hl : lv_has ls 2 [(0, .ref (q 37)), (1, .int p1)] := hl
  have hJ_19 : ∀ (h : HS) (y0 : Int32), f_X6_firstStep_1_19 h y0 = some (rr, hh) → ∀ (H : Heap) (locs : List Loc) (ls : Array Slot), va_P G vwCl (wC q cI cJ cZ cB cT h) H → va_D A (wC q cI cJ cZ cB cT h) → va_S A s.heap H locs → lv_has ls 2 [] → W p l e (gRm 1) s m args below meth c H locs 0 0 (MQ below (va_Qi (fun x (_ : Unit) => x = rr) (gB G (fun (_ : Unit) => (wC q cI cJ cZ cB cT hh)) A) A) args s 0 0 A) (F0 m 19 ls [.int y0]) := by
    intro h y0 hF H locs ls hP hD hS hl
    unfold f_X6_firstStep_1_19 at hF
    obtain ⟨rfl, rfl⟩ := ob_pair hF
    exact gw_iret () hx hb hr hlocks hP hD hS rfl dX6_firstStep_19
  have hJ_18 : ∀ (h : HS), f_X6_firstStep_1_18 h = some (rr, hh) → ∀ (H : Heap) (locs : List Loc) (ls : Array Slot), va_P G vwCl (wC q cI cJ cZ cB cT h) H → va_D A (wC q cI cJ cZ cB cT h) → va_S A s.heap H locs → lv_has ls 2 [] → W p l e (gRm 1) s m args below meth c H locs 0 0 (MQ below (va_Qi (fun x (_ : Unit) => x = rr) (gB G (fun (_ : Unit) => (wC q cI cJ cZ cB cT hh)) A) A) args s 0 0 A) (F0 m 18 ls []) := by
    intro h hF H locs ls hP hD hS hl
    unfold f_X6_firstStep_1_18 at hF
    refine lv_iconst (v := 0) hx hb dX6_firstStep_18 (by decide) ?_
    exact hJ_19 h 0 hF H _ ls hP hD hS (lv_sub hl [] rfl)
  unfold f_X6_firstStep_1 at hF
  refine lv_iload_n hx hb dX6_firstStep_0 rfl (lv_at hl 1 rfl) ?_
  refine lv_if_lt (tgt := 18) hx hb dX6_firstStep_1 (by decide) (fun c_1 => ?_) (fun c_1 => ?_)
  · have hF := ob_pos c_1 hF
    exact hJ_18 h hF H _ ls hP hD hS (lv_sub hl [] rfl)
  · have hF := ob_neg c_1 hF
    refine lv_iload_n hx hb dX6_firstStep_4 rfl (lv_at hl 1 rfl) ?_
    refine lv_iconst (v := 4) hx hb dX6_firstStep_5 (by decide) ?_
    refine lv_icmp_ge (tgt := 18) hx hb dX6_firstStep_6 (by decide) (fun c_2 => ?_) (fun c_2 => ?_)
    · have hF := ob_pos c_2 hF
      exact hJ_18 h hF H _ ls hP hD hS (lv_sub hl [] rfl)
    · have hF := ob_neg c_2 hF
      refine lv_aload_n hx hb dX6_firstStep_9 rfl (lv_at hl 0 rfl) ?_
      refine va_get (D := G) (ci := 6) (v := .ref (q 40)) (C := RX6) (T := TX6) (N := 6) hx hb hts iX6 hown hK hP 37 wC_at37 rfl 3 (by decide) (hts _ m_461) (fun _ h9 => h9) rfl dX6_firstStep_10 ?_
      refine lv_iload_n hx hb dX6_firstStep_13 rfl (lv_at hl 1 rfl) ?_
      obtain ⟨hi_3, hF⟩ := ob_if hF
      refine va_iald (D := G) hx hb hK hP 40 0 wC_at40 rfl (vp_in_iff.mpr hi_3) dX6_firstStep_14 ?_
      refine gw_topi (y := ((eA h 10 3) ((p1).toNatClampNeg))) rfl ?_
      refine lv_goto (tgt := 19) hx hb dX6_firstStep_15 (by decide) ?_
      exact hJ_19 h ((eA h 10 3) ((p1).toNatClampNeg)) hF H _ ls hP hD hS (lv_sub hl [] rfl)
def f_X6_stepsEnd_1_19 (h : HS) (y0 : Int32) : Option (Int32 × HS) := (some (y0, h))
def f_X6_stepsEnd_1_18 (h : HS) : Option (Int32 × HS) := (f_X6_stepsEnd_1_19 h 0)
def f_X6_stepsEnd_1 (h : HS) (p1 : Int32) : Option (Int32 × HS) := (if p1 < 0 then (f_X6_stepsEnd_1_18 h) else (if 4 ≤ p1 then (f_X6_stepsEnd_1_18 h) else (if 0 ≤ (p1).toInt ∧ (p1).toInt < 4 then (f_X6_stepsEnd_1_19 h ((eA h 10 4) ((p1).toNatClampNeg))) else none)))
set_option maxHeartbeats 4000000 in
set_option maxRecDepth 100000 in
theorem c_X6_stepsEnd_1 (l : Launch) (G : va_G) (cI cJ cZ cB cT : ClassId) (q : Nat → Nat) (h : HS) (p1 : Int32) (rr : Int32) (hh : HS) (hF : f_X6_stepsEnd_1 h p1 = some (rr, hh)) : gMi l yX6_stepsEnd (gws yX6_stepsEnd cX6_stepsEnd 2 (some .int)) 1 G (gT cI cJ cZ cB cT) [.ref (q 37), .int p1] (wC q cI cJ cZ cB cT h) (fun x (_ : Unit) => x = rr) (fun (_ : Unit) => (wC q cI cJ cZ cB cT hh)) := by
  intro sz
  refine gM_start (y := yX6_stepsEnd) (av := [.ref (q 37), .int p1]) (ws := (wC q cI cJ cZ cB cT h)) (Qf := fun A => va_Qi (fun x (_ : Unit) => x = rr) (gB G (fun (_ : Unit) => (wC q cI cJ cZ cB cT hh)) A) A) (cc := cX6_stepsEnd) (maxL := 2) (ret := (some .int)) (by decide) (Nat.le_of_ble_eq_true rfl) ?_
  intro p e s m args below meth c A ls H hx hb hr hts hown hin hlocks hml hP hK hD hA hS hl hE
  have hl : lv_has ls 2 [(0, .ref (q 37)), (1, .int p1)] := hl
  have hJ_19 : ∀ (h : HS) (y0 : Int32), f_X6_stepsEnd_1_19 h y0 = some (rr, hh) → ∀ (H : Heap) (locs : List Loc) (ls : Array Slot), va_P G vwCl (wC q cI cJ cZ cB cT h) H → va_D A (wC q cI cJ cZ cB cT h) → va_S A s.heap H locs → lv_has ls 2 [] → W p l e (gRm 1) s m args below meth c H locs 0 0 (MQ below (va_Qi (fun x (_ : Unit) => x = rr) (gB G (fun (_ : Unit) => (wC q cI cJ cZ cB cT hh)) A) A) args s 0 0 A) (F0 m 19 ls [.int y0]) := by
    intro h y0 hF H locs ls hP hD hS hl
    unfold f_X6_stepsEnd_1_19 at hF
    obtain ⟨rfl, rfl⟩ := ob_pair hF
    exact gw_iret () hx hb hr hlocks hP hD hS rfl dX6_stepsEnd_19
  have hJ_18 : ∀ (h : HS), f_X6_stepsEnd_1_18 h = some (rr, hh) → ∀ (H : Heap) (locs : List Loc) (ls : Array Slot), va_P G vwCl (wC q cI cJ cZ cB cT h) H → va_D A (wC q cI cJ cZ cB cT h) → va_S A s.heap H locs → lv_has ls 2 [] → W p l e (gRm 1) s m args below meth c H locs 0 0 (MQ below (va_Qi (fun x (_ : Unit) => x = rr) (gB G (fun (_ : Unit) => (wC q cI cJ cZ cB cT hh)) A) A) args s 0 0 A) (F0 m 18 ls []) := by
    intro h hF H locs ls hP hD hS hl
    unfold f_X6_stepsEnd_1_18 at hF
    refine lv_iconst (v := 0) hx hb dX6_stepsEnd_18 (by decide) ?_
    exact hJ_19 h 0 hF H _ ls hP hD hS (lv_sub hl [] rfl)
  unfold f_X6_stepsEnd_1 at hF
  refine lv_iload_n hx hb dX6_stepsEnd_0 rfl (lv_at hl 1 rfl) ?_
  refine lv_if_lt (tgt := 18) hx hb dX6_stepsEnd_1 (by decide) (fun c_1 => ?_) (fun c_1 => ?_)
  · have hF := ob_pos c_1 hF
    exact hJ_18 h hF H _ ls hP hD hS (lv_sub hl [] rfl)
  · have hF := ob_neg c_1 hF
    refine lv_iload_n hx hb dX6_stepsEnd_4 rfl (lv_at hl 1 rfl) ?_
    refine lv_iconst (v := 4) hx hb dX6_stepsEnd_5 (by decide) ?_
    refine lv_icmp_ge (tgt := 18) hx hb dX6_stepsEnd_6 (by decide) (fun c_2 => ?_) (fun c_2 => ?_)
    · have hF := ob_pos c_2 hF
      exact hJ_18 h hF H _ ls hP hD hS (lv_sub hl [] rfl)
    · have hF := ob_neg c_2 hF
      refine lv_aload_n hx hb dX6_stepsEnd_9 rfl (lv_at hl 0 rfl) ?_
      refine va_get (D := G) (ci := 6) (v := .ref (q 41)) (C := RX6) (T := TX6) (N := 6) hx hb hts iX6 hown hK hP 37 wC_at37 rfl 4 (by decide) (hts _ m_462) (fun _ h9 => h9) rfl dX6_stepsEnd_10 ?_
      refine lv_iload_n hx hb dX6_stepsEnd_13 rfl (lv_at hl 1 rfl) ?_
      obtain ⟨hi_3, hF⟩ := ob_if hF
      refine va_iald (D := G) hx hb hK hP 41 0 wC_at41 rfl (vp_in_iff.mpr hi_3) dX6_stepsEnd_14 ?_
      refine gw_topi (y := ((eA h 10 4) ((p1).toNatClampNeg))) rfl ?_
      refine lv_goto (tgt := 19) hx hb dX6_stepsEnd_15 (by decide) ?_
      exact hJ_19 h ((eA h 10 4) ((p1).toNatClampNeg)) hF H _ ls hP hD hS (lv_sub hl [] rfl)
def f_X6_addStep_1_32 (h : HS) : Option HS := (some h)
def f_X6_addStep_1 (h : HS) (p1 : Int32) : Option HS := (if 300 ≤ (eI h 10 5) then (f_X6_addStep_1_32 h) else (if 0 ≤ ((eI h 10 5)).toInt ∧ ((eI h 10 5)).toInt < 300 then (f_X6_addStep_1_32 (sI (sA h 10 2 (upd (eA h 10 2) (((eI h 10 5)).toNatClampNeg) p1)) 10 5 ((eI h 10 5) + 1))) else none))
set_option maxHeartbeats 4000000 in
set_option maxRecDepth 100000 in
theorem c_X6_addStep_1 (l : Launch) (G : va_G) (cI cJ cZ cB cT : ClassId) (q : Nat → Nat) (h : HS) (p1 : Int32) (hh : HS) (hF : f_X6_addStep_1 h p1 = some hh) : gMv l yX6_addStep (gws yX6_addStep cX6_addStep 2 none) 1 G (gT cI cJ cZ cB cT) [.ref (q 37), .int p1] (wC q cI cJ cZ cB cT h) (fun (_ : Unit) => True) (fun (_ : Unit) => (wC q cI cJ cZ cB cT hh)) := by
  intro sz
  refine gM_start (y := yX6_addStep) (av := [.ref (q 37), .int p1]) (ws := (wC q cI cJ cZ cB cT h)) (Qf := fun A => va_Qv (fun (_ : Unit) => True) (gB G (fun (_ : Unit) => (wC q cI cJ cZ cB cT hh)) A) A) (cc := cX6_addStep) (maxL := 2) (ret := none) (by decide) (Nat.le_of_ble_eq_true rfl) ?_
  intro p e s m args below meth c A ls H hx hb hr hts hown hin hlocks hml hP hK hD hA hS hl hE
  have hl : lv_has ls 2 [(0, .ref (q 37)), (1, .int p1)] := hl
  have hJ_32 : ∀ (h : HS), f_X6_addStep_1_32 h = some hh → ∀ (H : Heap) (locs : List Loc) (ls : Array Slot), va_P G vwCl (wC q cI cJ cZ cB cT h) H → va_D A (wC q cI cJ cZ cB cT h) → va_S A s.heap H locs → lv_has ls 2 [] → W p l e (gRm 1) s m args below meth c H locs 0 0 (MQ below (va_Qv (fun (_ : Unit) => True) (gB G (fun (_ : Unit) => (wC q cI cJ cZ cB cT hh)) A) A) args s 0 0 A) (F0 m 32 ls []) := by
    intro h hF H locs ls hP hD hS hl
    unfold f_X6_addStep_1_32 at hF
    obtain rfl := ob_one hF
    exact gw_vret () hx hb hr hlocks hP hD hS trivial dX6_addStep_32
  unfold f_X6_addStep_1 at hF
  refine lv_aload_n hx hb dX6_addStep_0 rfl (lv_at hl 0 rfl) ?_
  refine va_get (D := G) (ci := 6) (v := .int (eI h 10 5)) (C := RX6) (T := TX6) (N := 6) hx hb hts iX6 hown hK hP 37 wC_at37 rfl 5 (by decide) (hts _ m_460) (fun _ h9 => h9) rfl dX6_addStep_1 ?_
  refine lv_aload_n hx hb dX6_addStep_4 rfl (lv_at hl 0 rfl) ?_
  refine va_get (D := G) (ci := 6) (v := .ref (q 39)) (C := RX6) (T := TX6) (N := 6) hx hb hts iX6 hown hK hP 37 wC_at37 rfl 2 (by decide) (hts _ m_463) (fun _ h9 => h9) rfl dX6_addStep_5 ?_
  refine va_alen (D := G) hx hb hK hP 39 0 wC_at39 rfl (v := 300) rfl dX6_addStep_8 ?_
  refine lv_icmp_ge (tgt := 32) hx hb dX6_addStep_9 (by decide) (fun c_1 => ?_) (fun c_1 => ?_)
  · have hF := ob_pos c_1 hF
    exact hJ_32 h hF H _ ls hP hD hS (lv_sub hl [] rfl)
  · have hF := ob_neg c_1 hF
    refine lv_aload_n hx hb dX6_addStep_12 rfl (lv_at hl 0 rfl) ?_
    refine va_get (D := G) (ci := 6) (v := .ref (q 39)) (C := RX6) (T := TX6) (N := 6) hx hb hts iX6 hown hK hP 37 wC_at37 rfl 2 (by decide) (hts _ m_463) (fun _ h9 => h9) rfl dX6_addStep_13 ?_
    refine lv_aload_n hx hb dX6_addStep_16 rfl (lv_at hl 0 rfl) ?_
    refine va_get (D := G) (ci := 6) (v := .int (eI h 10 5)) (C := RX6) (T := TX6) (N := 6) hx hb hts iX6 hown hK hP 37 wC_at37 rfl 5 (by decide) (hts _ m_460) (fun _ h9 => h9) rfl dX6_addStep_17 ?_
    refine lv_iload_n hx hb dX6_addStep_20 rfl (lv_at hl 1 rfl) ?_
    obtain ⟨hi_2, hF⟩ := ob_if hF
    refine va_iast (D := G) hx hb hK hP hD hS 39 0 wC_at39 rfl (vp_in_iff.mpr hi_2) dX6_addStep_21 (fun H locs hP hD hS => ?_)
    rw [wC_sA39] at hP hD
    have hP : va_P G vwCl (wC q cI cJ cZ cB cT (sA h 10 2 (upd (eA h 10 2) (((eI h 10 5)).toNatClampNeg) p1))) H := hP
    have hD : va_D A (wC q cI cJ cZ cB cT (sA h 10 2 (upd (eA h 10 2) (((eI h 10 5)).toNatClampNeg) p1))) := hD
    refine lv_aload_n hx hb dX6_addStep_22 rfl (lv_at hl 0 rfl) ?_
    refine lv_dup hx hb dX6_addStep_23 rfl ?_
    refine va_get (D := G) (ci := 6) (v := .int (eI h 10 5)) (C := RX6) (T := TX6) (N := 6) hx hb hts iX6 hown hK hP 37 wC_at37 rfl 5 (by decide) (hts _ m_460) (fun _ h9 => h9) rfl dX6_addStep_24 ?_
    refine lv_iconst (v := 1) hx hb dX6_addStep_27 (by decide) ?_
    refine lv_iadd hx hb dX6_addStep_28 ?_
    refine va_put (D := G) (ci := 6) (v := .int ((eI h 10 5) + 1)) (ty := .int) (C := RX6) (T := TX6) (N := 6) hx hb hts iX6 tyX6 tyX6_ok nmX6 hown hK hP hD hS 37 wC_at37 rfl 5 (by decide) (hts _ m_460) (fun _ h9 => h9) rfl (tyX6_ok 5 (by decide)) rfl rfl (Nat.le_of_ble_eq_true rfl) dX6_addStep_29 (fun H locs hP hD hS => ?_)
    rw [wC_sI37_5] at hP hD
    exact hJ_32 (sI (sA h 10 2 (upd (eA h 10 2) (((eI h 10 5)).toNatClampNeg) p1)) 10 5 ((eI h 10 5) + 1)) hF H _ ls hP hD hS (lv_sub hl [] rfl)
def f_X6_stepAt_1_31 (h : HS) (y0 : Int32) : Option (Int32 × HS) := (some (y0, h))
def f_X6_stepAt_1_30 (h : HS) : Option (Int32 × HS) := (f_X6_stepAt_1_31 h 0)
def f_X6_stepAt_1 (h : HS) (p1 : Int32) : Option (Int32 × HS) := (if p1 < 0 then (f_X6_stepAt_1_30 h) else (if (eI h 10 5) ≤ p1 then (f_X6_stepAt_1_30 h) else (if 300 ≤ p1 then (f_X6_stepAt_1_30 h) else (if 0 ≤ (p1).toInt ∧ (p1).toInt < 300 then (f_X6_stepAt_1_31 h ((eA h 10 2) ((p1).toNatClampNeg))) else none))))
set_option maxHeartbeats 4000000 in
set_option maxRecDepth 100000 in
theorem c_X6_stepAt_1 (l : Launch) (G : va_G) (cI cJ cZ cB cT : ClassId) (q : Nat → Nat) (h : HS) (p1 : Int32) (rr : Int32) (hh : HS) (hF : f_X6_stepAt_1 h p1 = some (rr, hh)) : gMi l yX6_stepAt (gws yX6_stepAt cX6_stepAt 2 (some .int)) 1 G (gT cI cJ cZ cB cT) [.ref (q 37), .int p1] (wC q cI cJ cZ cB cT h) (fun x (_ : Unit) => x = rr) (fun (_ : Unit) => (wC q cI cJ cZ cB cT hh)) := by
  intro sz
  refine gM_start (y := yX6_stepAt) (av := [.ref (q 37), .int p1]) (ws := (wC q cI cJ cZ cB cT h)) (Qf := fun A => va_Qi (fun x (_ : Unit) => x = rr) (gB G (fun (_ : Unit) => (wC q cI cJ cZ cB cT hh)) A) A) (cc := cX6_stepAt) (maxL := 2) (ret := (some .int)) (by decide) (Nat.le_of_ble_eq_true rfl) ?_
  intro p e s m args below meth c A ls H hx hb hr hts hown hin hlocks hml hP hK hD hA hS hl hE
  have hl : lv_has ls 2 [(0, .ref (q 37)), (1, .int p1)] := hl
  have hJ_31 : ∀ (h : HS) (y0 : Int32), f_X6_stepAt_1_31 h y0 = some (rr, hh) → ∀ (H : Heap) (locs : List Loc) (ls : Array Slot), va_P G vwCl (wC q cI cJ cZ cB cT h) H → va_D A (wC q cI cJ cZ cB cT h) → va_S A s.heap H locs → lv_has ls 2 [] → W p l e (gRm 1) s m args below meth c H locs 0 0 (MQ below (va_Qi (fun x (_ : Unit) => x = rr) (gB G (fun (_ : Unit) => (wC q cI cJ cZ cB cT hh)) A) A) args s 0 0 A) (F0 m 31 ls [.int y0]) := by
    intro h y0 hF H locs ls hP hD hS hl
    unfold f_X6_stepAt_1_31 at hF
    obtain ⟨rfl, rfl⟩ := ob_pair hF
    exact gw_iret () hx hb hr hlocks hP hD hS rfl dX6_stepAt_31
  have hJ_30 : ∀ (h : HS), f_X6_stepAt_1_30 h = some (rr, hh) → ∀ (H : Heap) (locs : List Loc) (ls : Array Slot), va_P G vwCl (wC q cI cJ cZ cB cT h) H → va_D A (wC q cI cJ cZ cB cT h) → va_S A s.heap H locs → lv_has ls 2 [] → W p l e (gRm 1) s m args below meth c H locs 0 0 (MQ below (va_Qi (fun x (_ : Unit) => x = rr) (gB G (fun (_ : Unit) => (wC q cI cJ cZ cB cT hh)) A) A) args s 0 0 A) (F0 m 30 ls []) := by
    intro h hF H locs ls hP hD hS hl
    unfold f_X6_stepAt_1_30 at hF
    refine lv_iconst (v := 0) hx hb dX6_stepAt_30 (by decide) ?_
    exact hJ_31 h 0 hF H _ ls hP hD hS (lv_sub hl [] rfl)
  unfold f_X6_stepAt_1 at hF
  refine lv_iload_n hx hb dX6_stepAt_0 rfl (lv_at hl 1 rfl) ?_
  refine lv_if_lt (tgt := 30) hx hb dX6_stepAt_1 (by decide) (fun c_1 => ?_) (fun c_1 => ?_)
  · have hF := ob_pos c_1 hF
    exact hJ_30 h hF H _ ls hP hD hS (lv_sub hl [] rfl)
  · have hF := ob_neg c_1 hF
    refine lv_iload_n hx hb dX6_stepAt_4 rfl (lv_at hl 1 rfl) ?_
    refine lv_aload_n hx hb dX6_stepAt_5 rfl (lv_at hl 0 rfl) ?_
    refine va_get (D := G) (ci := 6) (v := .int (eI h 10 5)) (C := RX6) (T := TX6) (N := 6) hx hb hts iX6 hown hK hP 37 wC_at37 rfl 5 (by decide) (hts _ m_460) (fun _ h9 => h9) rfl dX6_stepAt_6 ?_
    refine lv_icmp_ge (tgt := 30) hx hb dX6_stepAt_9 (by decide) (fun c_2 => ?_) (fun c_2 => ?_)
    · have hF := ob_pos c_2 hF
      exact hJ_30 h hF H _ ls hP hD hS (lv_sub hl [] rfl)
    · have hF := ob_neg c_2 hF
      refine lv_iload_n hx hb dX6_stepAt_12 rfl (lv_at hl 1 rfl) ?_
      refine lv_aload_n hx hb dX6_stepAt_13 rfl (lv_at hl 0 rfl) ?_
      refine va_get (D := G) (ci := 6) (v := .ref (q 39)) (C := RX6) (T := TX6) (N := 6) hx hb hts iX6 hown hK hP 37 wC_at37 rfl 2 (by decide) (hts _ m_463) (fun _ h9 => h9) rfl dX6_stepAt_14 ?_
      refine va_alen (D := G) hx hb hK hP 39 0 wC_at39 rfl (v := 300) rfl dX6_stepAt_17 ?_
      refine lv_icmp_ge (tgt := 30) hx hb dX6_stepAt_18 (by decide) (fun c_3 => ?_) (fun c_3 => ?_)
      · have hF := ob_pos c_3 hF
        exact hJ_30 h hF H _ ls hP hD hS (lv_sub hl [] rfl)
      · have hF := ob_neg c_3 hF
        refine lv_aload_n hx hb dX6_stepAt_21 rfl (lv_at hl 0 rfl) ?_
        refine va_get (D := G) (ci := 6) (v := .ref (q 39)) (C := RX6) (T := TX6) (N := 6) hx hb hts iX6 hown hK hP 37 wC_at37 rfl 2 (by decide) (hts _ m_463) (fun _ h9 => h9) rfl dX6_stepAt_22 ?_
        refine lv_iload_n hx hb dX6_stepAt_25 rfl (lv_at hl 1 rfl) ?_
        obtain ⟨hi_4, hF⟩ := ob_if hF
        refine va_iald (D := G) hx hb hK hP 39 0 wC_at39 rfl (vp_in_iff.mpr hi_4) dX6_stepAt_26 ?_
        refine gw_topi (y := ((eA h 10 2) ((p1).toNatClampNeg))) rfl ?_
        refine lv_goto (tgt := 31) hx hb dX6_stepAt_27 (by decide) ?_
        exact hJ_31 h ((eA h 10 2) ((p1).toNatClampNeg)) hF H _ ls hP hD hS (lv_sub hl [] rfl)
def f_X6_clauseField_1_19 (h : HS) : Option (Int32 × HS) := (some ((-1), h))
def f_X6_clauseField_1 (h : HS) (p1 : Int32) (p2 : Int32) : Option (Int32 × HS) := (if p1 < 0 then (f_X6_clauseField_1_19 h) else (if 24 ≤ p1 then (f_X6_clauseField_1_19 h) else (if p2 < 0 then (f_X6_clauseField_1_19 h) else (if p2 < 4 then (if 0 ≤ (((p1 * 4) + p2)).toInt ∧ (((p1 * 4) + p2)).toInt < 96 then (some (((eA h 10 0) ((((p1 * 4) + p2)).toNatClampNeg)), h)) else none) else (f_X6_clauseField_1_19 h)))))
set_option maxHeartbeats 4000000 in
set_option maxRecDepth 100000 in
theorem c_X6_clauseField_1 (l : Launch) (G : va_G) (cI cJ cZ cB cT : ClassId) (q : Nat → Nat) (h : HS) (p1 : Int32) (p2 : Int32) (rr : Int32) (hh : HS) (hF : f_X6_clauseField_1 h p1 p2 = some (rr, hh)) : gMi l yX6_clauseField (gws yX6_clauseField cX6_clauseField 3 (some .int)) 1 G (gT cI cJ cZ cB cT) [.ref (q 37), .int p1, .int p2] (wC q cI cJ cZ cB cT h) (fun x (_ : Unit) => x = rr) (fun (_ : Unit) => (wC q cI cJ cZ cB cT hh)) := by
  intro sz
  refine gM_start (y := yX6_clauseField) (av := [.ref (q 37), .int p1, .int p2]) (ws := (wC q cI cJ cZ cB cT h)) (Qf := fun A => va_Qi (fun x (_ : Unit) => x = rr) (gB G (fun (_ : Unit) => (wC q cI cJ cZ cB cT hh)) A) A) (cc := cX6_clauseField) (maxL := 3) (ret := (some .int)) (by decide) (Nat.le_of_ble_eq_true rfl) ?_
  intro p e s m args below meth c A ls H hx hb hr hts hown hin hlocks hml hP hK hD hA hS hl hE
  have hl : lv_has ls 3 [(0, .ref (q 37)), (1, .int p1), (2, .int p2)] := hl
  have hJ_19 : ∀ (h : HS), f_X6_clauseField_1_19 h = some (rr, hh) → ∀ (H : Heap) (locs : List Loc) (ls : Array Slot), va_P G vwCl (wC q cI cJ cZ cB cT h) H → va_D A (wC q cI cJ cZ cB cT h) → va_S A s.heap H locs → lv_has ls 3 [] → W p l e (gRm 1) s m args below meth c H locs 0 0 (MQ below (va_Qi (fun x (_ : Unit) => x = rr) (gB G (fun (_ : Unit) => (wC q cI cJ cZ cB cT hh)) A) A) args s 0 0 A) (F0 m 19 ls []) := by
    intro h hF H locs ls hP hD hS hl
    unfold f_X6_clauseField_1_19 at hF
    refine lv_iconst (v := (-1)) hx hb dX6_clauseField_19 (by decide) ?_
    obtain ⟨rfl, rfl⟩ := ob_pair hF
    exact gw_iret () hx hb hr hlocks hP hD hS rfl dX6_clauseField_20
  unfold f_X6_clauseField_1 at hF
  refine lv_iload_n hx hb dX6_clauseField_0 rfl (lv_at hl 1 rfl) ?_
  refine lv_if_lt (tgt := 19) hx hb dX6_clauseField_1 (by decide) (fun c_1 => ?_) (fun c_1 => ?_)
  · have hF := ob_pos c_1 hF
    exact hJ_19 h hF H _ ls hP hD hS (lv_sub hl [] rfl)
  · have hF := ob_neg c_1 hF
    refine lv_iload_n hx hb dX6_clauseField_4 rfl (lv_at hl 1 rfl) ?_
    refine lv_bipush (v := 24) hx hb dX6_clauseField_5 (by decide) ?_
    refine lv_icmp_ge (tgt := 19) hx hb dX6_clauseField_7 (by decide) (fun c_2 => ?_) (fun c_2 => ?_)
    · have hF := ob_pos c_2 hF
      exact hJ_19 h hF H _ ls hP hD hS (lv_sub hl [] rfl)
    · have hF := ob_neg c_2 hF
      refine lv_iload_n hx hb dX6_clauseField_10 rfl (lv_at hl 2 rfl) ?_
      refine lv_if_lt (tgt := 19) hx hb dX6_clauseField_11 (by decide) (fun c_3 => ?_) (fun c_3 => ?_)
      · have hF := ob_pos c_3 hF
        exact hJ_19 h hF H _ ls hP hD hS (lv_sub hl [] rfl)
      · have hF := ob_neg c_3 hF
        refine lv_iload_n hx hb dX6_clauseField_14 rfl (lv_at hl 2 rfl) ?_
        refine lv_iconst (v := 4) hx hb dX6_clauseField_15 (by decide) ?_
        refine lv_icmp_lt (tgt := 21) hx hb dX6_clauseField_16 (by decide) (fun c_4 => ?_) (fun c_4 => ?_)
        · have hF := ob_pos c_4 hF
          refine lv_aload_n hx hb dX6_clauseField_21 rfl (lv_at hl 0 rfl) ?_
          refine va_get (D := G) (ci := 6) (v := .ref (q 38)) (C := RX6) (T := TX6) (N := 6) hx hb hts iX6 hown hK hP 37 wC_at37 rfl 0 (by decide) (hts _ m_464) (fun _ h9 => h9) rfl dX6_clauseField_22 ?_
          refine lv_iload_n hx hb dX6_clauseField_25 rfl (lv_at hl 1 rfl) ?_
          refine lv_iconst (v := 4) hx hb dX6_clauseField_26 (by decide) ?_
          refine lv_imul hx hb dX6_clauseField_27 ?_
          refine lv_iload_n hx hb dX6_clauseField_28 rfl (lv_at hl 2 rfl) ?_
          refine lv_iadd hx hb dX6_clauseField_29 ?_
          obtain ⟨hi_5, hF⟩ := ob_if hF
          refine va_iald (D := G) hx hb hK hP 38 0 wC_at38 rfl (vp_in_iff.mpr hi_5) dX6_clauseField_30 ?_
          refine gw_topi (y := ((eA h 10 0) ((((p1 * 4) + p2)).toNatClampNeg))) rfl ?_
          obtain ⟨rfl, rfl⟩ := ob_pair hF
          exact gw_iret () hx hb hr hlocks hP hD hS rfl dX6_clauseField_31
        · have hF := ob_neg c_4 hF
          exact hJ_19 h hF H _ ls hP hD hS (lv_sub hl [] rfl)
def f_X6_setClause_1_30 (h : HS) : Option HS := (some h)
def f_X6_setClause_1 (h : HS) (p1 : Int32) (p2 : Int32) (p3 : Int32) : Option HS := (if p1 < 0 then (f_X6_setClause_1_30 h) else (if 24 ≤ p1 then (f_X6_setClause_1_30 h) else (if p2 < 0 then (f_X6_setClause_1_30 h) else (if 4 ≤ p2 then (f_X6_setClause_1_30 h) else (if 0 ≤ (((p1 * 4) + p2)).toInt ∧ (((p1 * 4) + p2)).toInt < 96 then (f_X6_setClause_1_30 (sA h 10 0 (upd (eA h 10 0) ((((p1 * 4) + p2)).toNatClampNeg) p3))) else none)))))
set_option maxHeartbeats 4000000 in
set_option maxRecDepth 100000 in
theorem c_X6_setClause_1 (l : Launch) (G : va_G) (cI cJ cZ cB cT : ClassId) (q : Nat → Nat) (h : HS) (p1 : Int32) (p2 : Int32) (p3 : Int32) (hh : HS) (hF : f_X6_setClause_1 h p1 p2 p3 = some hh) : gMv l yX6_setClause (gws yX6_setClause cX6_setClause 4 none) 1 G (gT cI cJ cZ cB cT) [.ref (q 37), .int p1, .int p2, .int p3] (wC q cI cJ cZ cB cT h) (fun (_ : Unit) => True) (fun (_ : Unit) => (wC q cI cJ cZ cB cT hh)) := by
  intro sz
  refine gM_start (y := yX6_setClause) (av := [.ref (q 37), .int p1, .int p2, .int p3]) (ws := (wC q cI cJ cZ cB cT h)) (Qf := fun A => va_Qv (fun (_ : Unit) => True) (gB G (fun (_ : Unit) => (wC q cI cJ cZ cB cT hh)) A) A) (cc := cX6_setClause) (maxL := 4) (ret := none) (by decide) (Nat.le_of_ble_eq_true rfl) ?_
  intro p e s m args below meth c A ls H hx hb hr hts hown hin hlocks hml hP hK hD hA hS hl hE
  have hl : lv_has ls 4 [(0, .ref (q 37)), (1, .int p1), (2, .int p2), (3, .int p3)] := hl
  have hJ_30 : ∀ (h : HS), f_X6_setClause_1_30 h = some hh → ∀ (H : Heap) (locs : List Loc) (ls : Array Slot), va_P G vwCl (wC q cI cJ cZ cB cT h) H → va_D A (wC q cI cJ cZ cB cT h) → va_S A s.heap H locs → lv_has ls 4 [] → W p l e (gRm 1) s m args below meth c H locs 0 0 (MQ below (va_Qv (fun (_ : Unit) => True) (gB G (fun (_ : Unit) => (wC q cI cJ cZ cB cT hh)) A) A) args s 0 0 A) (F0 m 30 ls []) := by
    intro h hF H locs ls hP hD hS hl
    unfold f_X6_setClause_1_30 at hF
    obtain rfl := ob_one hF
    exact gw_vret () hx hb hr hlocks hP hD hS trivial dX6_setClause_30
  unfold f_X6_setClause_1 at hF
  refine lv_iload_n hx hb dX6_setClause_0 rfl (lv_at hl 1 rfl) ?_
  refine lv_if_lt (tgt := 30) hx hb dX6_setClause_1 (by decide) (fun c_1 => ?_) (fun c_1 => ?_)
  · have hF := ob_pos c_1 hF
    exact hJ_30 h hF H _ ls hP hD hS (lv_sub hl [] rfl)
  · have hF := ob_neg c_1 hF
    refine lv_iload_n hx hb dX6_setClause_4 rfl (lv_at hl 1 rfl) ?_
    refine lv_bipush (v := 24) hx hb dX6_setClause_5 (by decide) ?_
    refine lv_icmp_ge (tgt := 30) hx hb dX6_setClause_7 (by decide) (fun c_2 => ?_) (fun c_2 => ?_)
    · have hF := ob_pos c_2 hF
      exact hJ_30 h hF H _ ls hP hD hS (lv_sub hl [] rfl)
    · have hF := ob_neg c_2 hF
      refine lv_iload_n hx hb dX6_setClause_10 rfl (lv_at hl 2 rfl) ?_
      refine lv_if_lt (tgt := 30) hx hb dX6_setClause_11 (by decide) (fun c_3 => ?_) (fun c_3 => ?_)
      · have hF := ob_pos c_3 hF
        exact hJ_30 h hF H _ ls hP hD hS (lv_sub hl [] rfl)
      · have hF := ob_neg c_3 hF
        refine lv_iload_n hx hb dX6_setClause_14 rfl (lv_at hl 2 rfl) ?_
        refine lv_iconst (v := 4) hx hb dX6_setClause_15 (by decide) ?_
        refine lv_icmp_ge (tgt := 30) hx hb dX6_setClause_16 (by decide) (fun c_4 => ?_) (fun c_4 => ?_)
        · have hF := ob_pos c_4 hF
          exact hJ_30 h hF H _ ls hP hD hS (lv_sub hl [] rfl)
        · have hF := ob_neg c_4 hF
          refine lv_aload_n hx hb dX6_setClause_19 rfl (lv_at hl 0 rfl) ?_
          refine va_get (D := G) (ci := 6) (v := .ref (q 38)) (C := RX6) (T := TX6) (N := 6) hx hb hts iX6 hown hK hP 37 wC_at37 rfl 0 (by decide) (hts _ m_464) (fun _ h9 => h9) rfl dX6_setClause_20 ?_
          refine lv_iload_n hx hb dX6_setClause_23 rfl (lv_at hl 1 rfl) ?_
          refine lv_iconst (v := 4) hx hb dX6_setClause_24 (by decide) ?_
          refine lv_imul hx hb dX6_setClause_25 ?_
          refine lv_iload_n hx hb dX6_setClause_26 rfl (lv_at hl 2 rfl) ?_
          refine lv_iadd hx hb dX6_setClause_27 ?_
          refine lv_iload_n hx hb dX6_setClause_28 rfl (lv_at hl 3 rfl) ?_
          obtain ⟨hi_5, hF⟩ := ob_if hF
          refine va_iast (D := G) hx hb hK hP hD hS 38 0 wC_at38 rfl (vp_in_iff.mpr hi_5) dX6_setClause_29 (fun H locs hP hD hS => ?_)
          rw [wC_sA38] at hP hD
          have hP : va_P G vwCl (wC q cI cJ cZ cB cT (sA h 10 0 (upd (eA h 10 0) ((((p1 * 4) + p2)).toNatClampNeg) p3))) H := hP
          have hD : va_D A (wC q cI cJ cZ cB cT (sA h 10 0 (upd (eA h 10 0) ((((p1 * 4) + p2)).toNatClampNeg) p3))) := hD
          exact hJ_30 (sA h 10 0 (upd (eA h 10 0) ((((p1 * 4) + p2)).toNatClampNeg) p3)) hF H _ ls hP hD hS (lv_sub hl [] rfl)
def f_X6_clear_2_12 : Nat → HS → Int32 → Option HS
  | 0, _, _ => none
  | n + 1, h, x1 => (if 4 ≤ x1 then (some h) else (if 0 ≤ (x1).toInt ∧ (x1).toInt < 4 then (if 0 ≤ (x1).toInt ∧ (x1).toInt < 4 then ((f_X6_clear_2_12 n) (sA (sA h 11 3 (upd (eA h 11 3) ((x1).toNatClampNeg) (-1))) 11 4 (upd (eA h 11 4) ((x1).toNatClampNeg) (-1))) (x1 + 1)) else none) else none))
theorem f_X6_clear_2_12_s (n : Nat) (h : HS) (x1 : Int32) : f_X6_clear_2_12 (n + 1) h x1 = (if 4 ≤ x1 then (some h) else (if 0 ≤ (x1).toInt ∧ (x1).toInt < 4 then (if 0 ≤ (x1).toInt ∧ (x1).toInt < 4 then ((f_X6_clear_2_12 n) (sA (sA h 11 3 (upd (eA h 11 3) ((x1).toNatClampNeg) (-1))) 11 4 (upd (eA h 11 4) ((x1).toNatClampNeg) (-1))) (x1 + 1)) else none) else none)) := rfl
def f_X6_clear_2 (h : HS) : Option HS := (f_X6_clear_2_12 8589934592 (sI (sI h 11 1 0) 11 5 0) 0)
set_option maxHeartbeats 4000000 in
set_option maxRecDepth 100000 in
theorem c_X6_clear_2 (l : Launch) (G : va_G) (cI cJ cZ cB cT : ClassId) (q : Nat → Nat) (h : HS)  (hh : HS) (hF : f_X6_clear_2 h = some hh) : gMv l yX6_clear (gws yX6_clear cX6_clear 2 none) 1 G (gT cI cJ cZ cB cT) [.ref (q 42)] (wC q cI cJ cZ cB cT h) (fun (_ : Unit) => True) (fun (_ : Unit) => (wC q cI cJ cZ cB cT hh)) := by
  intro sz
  refine gM_start (y := yX6_clear) (av := [.ref (q 42)]) (ws := (wC q cI cJ cZ cB cT h)) (Qf := fun A => va_Qv (fun (_ : Unit) => True) (gB G (fun (_ : Unit) => (wC q cI cJ cZ cB cT hh)) A) A) (cc := cX6_clear) (maxL := 2) (ret := none) (by decide) (Nat.le_of_ble_eq_true rfl) ?_
  intro p e s m args below meth c A ls H hx hb hr hts hown hin hlocks hml hP hK hD hA hS hl hE
  have hl : lv_has ls 2 [(0, .ref (q 42))] := hl
  have hJ_12 : ∀ (n_12 : Nat) (h : HS) (x1 : Int32), f_X6_clear_2_12 n_12 h x1 = some hh → ∀ (H : Heap) (locs : List Loc) (ls : Array Slot), va_P G vwCl (wC q cI cJ cZ cB cT h) H → va_D A (wC q cI cJ cZ cB cT h) → va_S A s.heap H locs → lv_has ls 2 [(0, .ref (q 42)), (1, .int x1)] → W p l e (gRm 1) s m args below meth c H locs 0 0 (MQ below (va_Qv (fun (_ : Unit) => True) (gB G (fun (_ : Unit) => (wC q cI cJ cZ cB cT hh)) A) A) args s 0 0 A) (F0 m 12 ls []) := by
    intro n_12
    induction n_12 with
    | zero =>
      intro h x1 hF
      exact absurd hF (by simp [f_X6_clear_2_12])
    | succ n_12 ih_12 =>
      intro h x1 hF H locs ls hP hD hS hl
      rw [f_X6_clear_2_12_s] at hF
      refine lv_iload_n hx hb dX6_clear_12 rfl (lv_at hl 1 rfl) ?_
      refine lv_iconst (v := 4) hx hb dX6_clear_13 (by decide) ?_
      refine lv_icmp_ge (tgt := 37) hx hb dX6_clear_14 (by decide) (fun c_1 => ?_) (fun c_1 => ?_)
      · have hF := ob_pos c_1 hF
        obtain rfl := ob_one hF
        exact gw_vret () hx hb hr hlocks hP hD hS trivial dX6_clear_37
      · have hF := ob_neg c_1 hF
        refine lv_aload_n hx hb dX6_clear_17 rfl (lv_at hl 0 rfl) ?_
        refine va_get (D := G) (ci := 6) (v := .ref (q 45)) (C := RX6) (T := TX6) (N := 6) hx hb hts iX6 hown hK hP 42 wC_at42 rfl 3 (by decide) (hts _ m_461) (fun _ h9 => h9) rfl dX6_clear_18 ?_
        refine lv_iload_n hx hb dX6_clear_21 rfl (lv_at hl 1 rfl) ?_
        refine lv_iconst (v := (-1)) hx hb dX6_clear_22 (by decide) ?_
        obtain ⟨hi_2, hF⟩ := ob_if hF
        refine va_iast (D := G) hx hb hK hP hD hS 45 0 wC_at45 rfl (vp_in_iff.mpr hi_2) dX6_clear_23 (fun H locs hP hD hS => ?_)
        rw [wC_sA45] at hP hD
        have hP : va_P G vwCl (wC q cI cJ cZ cB cT (sA h 11 3 (upd (eA h 11 3) ((x1).toNatClampNeg) (-1)))) H := hP
        have hD : va_D A (wC q cI cJ cZ cB cT (sA h 11 3 (upd (eA h 11 3) ((x1).toNatClampNeg) (-1)))) := hD
        refine lv_aload_n hx hb dX6_clear_24 rfl (lv_at hl 0 rfl) ?_
        refine va_get (D := G) (ci := 6) (v := .ref (q 46)) (C := RX6) (T := TX6) (N := 6) hx hb hts iX6 hown hK hP 42 wC_at42 rfl 4 (by decide) (hts _ m_462) (fun _ h9 => h9) rfl dX6_clear_25 ?_
        refine lv_iload_n hx hb dX6_clear_28 rfl (lv_at hl 1 rfl) ?_
        refine lv_iconst (v := (-1)) hx hb dX6_clear_29 (by decide) ?_
        obtain ⟨hi_3, hF⟩ := ob_if hF
        refine va_iast (D := G) hx hb hK hP hD hS 46 0 wC_at46 rfl (vp_in_iff.mpr hi_3) dX6_clear_30 (fun H locs hP hD hS => ?_)
        rw [wC_sA46] at hP hD
        have hP : va_P G vwCl (wC q cI cJ cZ cB cT (sA (sA h 11 3 (upd (eA h 11 3) ((x1).toNatClampNeg) (-1))) 11 4 (upd (eA h 11 4) ((x1).toNatClampNeg) (-1)))) H := hP
        have hD : va_D A (wC q cI cJ cZ cB cT (sA (sA h 11 3 (upd (eA h 11 3) ((x1).toNatClampNeg) (-1))) 11 4 (upd (eA h 11 4) ((x1).toNatClampNeg) (-1)))) := hD
        refine lv_iinc (v := (x1 + 1)) (lv' := [(1, .int (x1 + 1)), (0, .ref (q 42))]) hx hb dX6_clear_31 hl (k := 1) rfl rfl (by decide) rfl (fun ls hl => ?_)
        refine lv_goto (tgt := 12) hx hb dX6_clear_34 (by decide) ?_
        exact ih_12 (sA (sA h 11 3 (upd (eA h 11 3) ((x1).toNatClampNeg) (-1))) 11 4 (upd (eA h 11 4) ((x1).toNatClampNeg) (-1))) (x1 + 1) hF H _ ls hP hD hS (lv_sub hl [1, 0] rfl)
  unfold f_X6_clear_2 at hF
  refine lv_aload_n hx hb dX6_clear_0 rfl (lv_at hl 0 rfl) ?_
  refine lv_iconst (v := 0) hx hb dX6_clear_1 (by decide) ?_
  refine va_put (D := G) (ci := 6) (v := .int 0) (ty := .int) (C := RX6) (T := TX6) (N := 6) hx hb hts iX6 tyX6 tyX6_ok nmX6 hown hK hP hD hS 42 wC_at42 rfl 1 (by decide) (hts _ m_459) (fun _ h9 => h9) rfl (tyX6_ok 1 (by decide)) rfl rfl (Nat.le_of_ble_eq_true rfl) dX6_clear_2 (fun H locs hP hD hS => ?_)
  rw [wC_sI42_1] at hP hD
  refine lv_aload_n hx hb dX6_clear_5 rfl (lv_at hl 0 rfl) ?_
  refine lv_iconst (v := 0) hx hb dX6_clear_6 (by decide) ?_
  refine va_put (D := G) (ci := 6) (v := .int 0) (ty := .int) (C := RX6) (T := TX6) (N := 6) hx hb hts iX6 tyX6 tyX6_ok nmX6 hown hK hP hD hS 42 wC_at42 rfl 5 (by decide) (hts _ m_460) (fun _ h9 => h9) rfl (tyX6_ok 5 (by decide)) rfl rfl (Nat.le_of_ble_eq_true rfl) dX6_clear_7 (fun H locs hP hD hS => ?_)
  rw [wC_sI42_5] at hP hD
  refine lv_iconst (v := 0) hx hb dX6_clear_10 (by decide) ?_
  refine lv_istore_n (lv' := [(1, .int 0), (0, .ref (q 42))]) hx hb dX6_clear_11 rfl hl (by decide) rfl (fun ls hl => ?_)
  exact hJ_12 8589934592 (sI (sI h 11 1 0) 11 5 0) 0 hF H _ ls hP hD hS (lv_sub hl [1, 0] rfl)
def f_X6_hasLaw_2_24 (h : HS) (y0 : Int32) : Option (Int32 × HS) := (if y0 = 0 ∨ y0 = 1 then (some (y0, h)) else none)
def f_X6_hasLaw_2_23 (h : HS) : Option (Int32 × HS) := (f_X6_hasLaw_2_24 h 0)
def f_X6_hasLaw_2 (h : HS) (p1 : Int32) : Option (Int32 × HS) := (if p1 < 0 then (f_X6_hasLaw_2_23 h) else (if 4 ≤ p1 then (f_X6_hasLaw_2_23 h) else (if 0 ≤ (p1).toInt ∧ (p1).toInt < 4 then (if ((eA h 11 3) ((p1).toNatClampNeg)) = (-1) then (f_X6_hasLaw_2_23 h) else (f_X6_hasLaw_2_24 h 1)) else none)))
set_option maxHeartbeats 4000000 in
set_option maxRecDepth 100000 in
theorem c_X6_hasLaw_2 (l : Launch) (G : va_G) (cI cJ cZ cB cT : ClassId) (q : Nat → Nat) (h : HS) (p1 : Int32) (rr : Int32) (hh : HS) (hF : f_X6_hasLaw_2 h p1 = some (rr, hh)) : gMi l yX6_hasLaw (gws yX6_hasLaw cX6_hasLaw 2 (some .boolean)) 1 G (gT cI cJ cZ cB cT) [.ref (q 42), .int p1] (wC q cI cJ cZ cB cT h) (fun x (_ : Unit) => x = rr) (fun (_ : Unit) => (wC q cI cJ cZ cB cT hh)) := by
  intro sz
  refine gM_start (y := yX6_hasLaw) (av := [.ref (q 42), .int p1]) (ws := (wC q cI cJ cZ cB cT h)) (Qf := fun A => va_Qi (fun x (_ : Unit) => x = rr) (gB G (fun (_ : Unit) => (wC q cI cJ cZ cB cT hh)) A) A) (cc := cX6_hasLaw) (maxL := 2) (ret := (some .boolean)) (by decide) (Nat.le_of_ble_eq_true rfl) ?_
  intro p e s m args below meth c A ls H hx hb hr hts hown hin hlocks hml hP hK hD hA hS hl hE
  have hl : lv_has ls 2 [(0, .ref (q 42)), (1, .int p1)] := hl
  have hJ_24 : ∀ (h : HS) (y0 : Int32), f_X6_hasLaw_2_24 h y0 = some (rr, hh) → ∀ (H : Heap) (locs : List Loc) (ls : Array Slot), va_P G vwCl (wC q cI cJ cZ cB cT h) H → va_D A (wC q cI cJ cZ cB cT h) → va_S A s.heap H locs → lv_has ls 2 [] → W p l e (gRm 1) s m args below meth c H locs 0 0 (MQ below (va_Qi (fun x (_ : Unit) => x = rr) (gB G (fun (_ : Unit) => (wC q cI cJ cZ cB cT hh)) A) A) args s 0 0 A) (F0 m 24 ls [.int y0]) := by
    intro h y0 hF H locs ls hP hD hS hl
    unfold f_X6_hasLaw_2_24 at hF
    obtain ⟨hz_5, hF⟩ := ob_if hF
    obtain ⟨rfl, rfl⟩ := ob_pair hF
    exact gw_zret () hx hb hr hlocks (gz hz_5) hP hD hS rfl dX6_hasLaw_24
  have hJ_23 : ∀ (h : HS), f_X6_hasLaw_2_23 h = some (rr, hh) → ∀ (H : Heap) (locs : List Loc) (ls : Array Slot), va_P G vwCl (wC q cI cJ cZ cB cT h) H → va_D A (wC q cI cJ cZ cB cT h) → va_S A s.heap H locs → lv_has ls 2 [] → W p l e (gRm 1) s m args below meth c H locs 0 0 (MQ below (va_Qi (fun x (_ : Unit) => x = rr) (gB G (fun (_ : Unit) => (wC q cI cJ cZ cB cT hh)) A) A) args s 0 0 A) (F0 m 23 ls []) := by
    intro h hF H locs ls hP hD hS hl
    unfold f_X6_hasLaw_2_23 at hF
    refine lv_iconst (v := 0) hx hb dX6_hasLaw_23 (by decide) ?_
    exact hJ_24 h 0 hF H _ ls hP hD hS (lv_sub hl [] rfl)
  unfold f_X6_hasLaw_2 at hF
  refine lv_iload_n hx hb dX6_hasLaw_0 rfl (lv_at hl 1 rfl) ?_
  refine lv_if_lt (tgt := 23) hx hb dX6_hasLaw_1 (by decide) (fun c_1 => ?_) (fun c_1 => ?_)
  · have hF := ob_pos c_1 hF
    exact hJ_23 h hF H _ ls hP hD hS (lv_sub hl [] rfl)
  · have hF := ob_neg c_1 hF
    refine lv_iload_n hx hb dX6_hasLaw_4 rfl (lv_at hl 1 rfl) ?_
    refine lv_iconst (v := 4) hx hb dX6_hasLaw_5 (by decide) ?_
    refine lv_icmp_ge (tgt := 23) hx hb dX6_hasLaw_6 (by decide) (fun c_2 => ?_) (fun c_2 => ?_)
    · have hF := ob_pos c_2 hF
      exact hJ_23 h hF H _ ls hP hD hS (lv_sub hl [] rfl)
    · have hF := ob_neg c_2 hF
      refine lv_aload_n hx hb dX6_hasLaw_9 rfl (lv_at hl 0 rfl) ?_
      refine va_get (D := G) (ci := 6) (v := .ref (q 45)) (C := RX6) (T := TX6) (N := 6) hx hb hts iX6 hown hK hP 42 wC_at42 rfl 3 (by decide) (hts _ m_461) (fun _ h9 => h9) rfl dX6_hasLaw_10 ?_
      refine lv_iload_n hx hb dX6_hasLaw_13 rfl (lv_at hl 1 rfl) ?_
      obtain ⟨hi_3, hF⟩ := ob_if hF
      refine va_iald (D := G) hx hb hK hP 45 0 wC_at45 rfl (vp_in_iff.mpr hi_3) dX6_hasLaw_14 ?_
      refine gw_topi (y := ((eA h 11 3) ((p1).toNatClampNeg))) rfl ?_
      refine lv_iconst (v := (-1)) hx hb dX6_hasLaw_15 (by decide) ?_
      refine lv_icmp_eq (tgt := 23) hx hb dX6_hasLaw_16 (by decide) (fun c_4 => ?_) (fun c_4 => ?_)
      · have hF := ob_pos c_4 hF
        exact hJ_23 h hF H _ ls hP hD hS (lv_sub hl [] rfl)
      · have hF := ob_neg c_4 hF
        refine lv_iconst (v := 1) hx hb dX6_hasLaw_19 (by decide) ?_
        refine lv_goto (tgt := 24) hx hb dX6_hasLaw_20 (by decide) ?_
        exact hJ_24 h 1 hF H _ ls hP hD hS (lv_sub hl [] rfl)
def f_X6_beginLaw_2_19 (h : HS) : Option HS := (some h)
def f_X6_beginLaw_2 (h : HS) (p1 : Int32) : Option HS := (if p1 < 0 then (f_X6_beginLaw_2_19 h) else (if 4 ≤ p1 then (f_X6_beginLaw_2_19 h) else (if 0 ≤ (p1).toInt ∧ (p1).toInt < 4 then (f_X6_beginLaw_2_19 (sA h 11 3 (upd (eA h 11 3) ((p1).toNatClampNeg) (eI h 11 5)))) else none)))
set_option maxHeartbeats 4000000 in
set_option maxRecDepth 100000 in
theorem c_X6_beginLaw_2 (l : Launch) (G : va_G) (cI cJ cZ cB cT : ClassId) (q : Nat → Nat) (h : HS) (p1 : Int32) (hh : HS) (hF : f_X6_beginLaw_2 h p1 = some hh) : gMv l yX6_beginLaw (gws yX6_beginLaw cX6_beginLaw 2 none) 1 G (gT cI cJ cZ cB cT) [.ref (q 42), .int p1] (wC q cI cJ cZ cB cT h) (fun (_ : Unit) => True) (fun (_ : Unit) => (wC q cI cJ cZ cB cT hh)) := by
  intro sz
  refine gM_start (y := yX6_beginLaw) (av := [.ref (q 42), .int p1]) (ws := (wC q cI cJ cZ cB cT h)) (Qf := fun A => va_Qv (fun (_ : Unit) => True) (gB G (fun (_ : Unit) => (wC q cI cJ cZ cB cT hh)) A) A) (cc := cX6_beginLaw) (maxL := 2) (ret := none) (by decide) (Nat.le_of_ble_eq_true rfl) ?_
  intro p e s m args below meth c A ls H hx hb hr hts hown hin hlocks hml hP hK hD hA hS hl hE
  have hl : lv_has ls 2 [(0, .ref (q 42)), (1, .int p1)] := hl
  have hJ_19 : ∀ (h : HS), f_X6_beginLaw_2_19 h = some hh → ∀ (H : Heap) (locs : List Loc) (ls : Array Slot), va_P G vwCl (wC q cI cJ cZ cB cT h) H → va_D A (wC q cI cJ cZ cB cT h) → va_S A s.heap H locs → lv_has ls 2 [] → W p l e (gRm 1) s m args below meth c H locs 0 0 (MQ below (va_Qv (fun (_ : Unit) => True) (gB G (fun (_ : Unit) => (wC q cI cJ cZ cB cT hh)) A) A) args s 0 0 A) (F0 m 19 ls []) := by
    intro h hF H locs ls hP hD hS hl
    unfold f_X6_beginLaw_2_19 at hF
    obtain rfl := ob_one hF
    exact gw_vret () hx hb hr hlocks hP hD hS trivial dX6_beginLaw_19
  unfold f_X6_beginLaw_2 at hF
  refine lv_iload_n hx hb dX6_beginLaw_0 rfl (lv_at hl 1 rfl) ?_
  refine lv_if_lt (tgt := 19) hx hb dX6_beginLaw_1 (by decide) (fun c_1 => ?_) (fun c_1 => ?_)
  · have hF := ob_pos c_1 hF
    exact hJ_19 h hF H _ ls hP hD hS (lv_sub hl [] rfl)
  · have hF := ob_neg c_1 hF
    refine lv_iload_n hx hb dX6_beginLaw_4 rfl (lv_at hl 1 rfl) ?_
    refine lv_iconst (v := 4) hx hb dX6_beginLaw_5 (by decide) ?_
    refine lv_icmp_ge (tgt := 19) hx hb dX6_beginLaw_6 (by decide) (fun c_2 => ?_) (fun c_2 => ?_)
    · have hF := ob_pos c_2 hF
      exact hJ_19 h hF H _ ls hP hD hS (lv_sub hl [] rfl)
    · have hF := ob_neg c_2 hF
      refine lv_aload_n hx hb dX6_beginLaw_9 rfl (lv_at hl 0 rfl) ?_
      refine va_get (D := G) (ci := 6) (v := .ref (q 45)) (C := RX6) (T := TX6) (N := 6) hx hb hts iX6 hown hK hP 42 wC_at42 rfl 3 (by decide) (hts _ m_461) (fun _ h9 => h9) rfl dX6_beginLaw_10 ?_
      refine lv_iload_n hx hb dX6_beginLaw_13 rfl (lv_at hl 1 rfl) ?_
      refine lv_aload_n hx hb dX6_beginLaw_14 rfl (lv_at hl 0 rfl) ?_
      refine va_get (D := G) (ci := 6) (v := .int (eI h 11 5)) (C := RX6) (T := TX6) (N := 6) hx hb hts iX6 hown hK hP 42 wC_at42 rfl 5 (by decide) (hts _ m_460) (fun _ h9 => h9) rfl dX6_beginLaw_15 ?_
      obtain ⟨hi_3, hF⟩ := ob_if hF
      refine va_iast (D := G) hx hb hK hP hD hS 45 0 wC_at45 rfl (vp_in_iff.mpr hi_3) dX6_beginLaw_18 (fun H locs hP hD hS => ?_)
      rw [wC_sA45] at hP hD
      have hP : va_P G vwCl (wC q cI cJ cZ cB cT (sA h 11 3 (upd (eA h 11 3) ((p1).toNatClampNeg) (eI h 11 5)))) H := hP
      have hD : va_D A (wC q cI cJ cZ cB cT (sA h 11 3 (upd (eA h 11 3) ((p1).toNatClampNeg) (eI h 11 5)))) := hD
      exact hJ_19 (sA h 11 3 (upd (eA h 11 3) ((p1).toNatClampNeg) (eI h 11 5))) hF H _ ls hP hD hS (lv_sub hl [] rfl)
def f_X6_closeLaw_2_19 (h : HS) : Option HS := (some h)
def f_X6_closeLaw_2 (h : HS) (p1 : Int32) : Option HS := (if p1 < 0 then (f_X6_closeLaw_2_19 h) else (if 4 ≤ p1 then (f_X6_closeLaw_2_19 h) else (if 0 ≤ (p1).toInt ∧ (p1).toInt < 4 then (f_X6_closeLaw_2_19 (sA h 11 4 (upd (eA h 11 4) ((p1).toNatClampNeg) (eI h 11 5)))) else none)))
set_option maxHeartbeats 4000000 in
set_option maxRecDepth 100000 in
theorem c_X6_closeLaw_2 (l : Launch) (G : va_G) (cI cJ cZ cB cT : ClassId) (q : Nat → Nat) (h : HS) (p1 : Int32) (hh : HS) (hF : f_X6_closeLaw_2 h p1 = some hh) : gMv l yX6_closeLaw (gws yX6_closeLaw cX6_closeLaw 2 none) 1 G (gT cI cJ cZ cB cT) [.ref (q 42), .int p1] (wC q cI cJ cZ cB cT h) (fun (_ : Unit) => True) (fun (_ : Unit) => (wC q cI cJ cZ cB cT hh)) := by
  intro sz
  refine gM_start (y := yX6_closeLaw) (av := [.ref (q 42), .int p1]) (ws := (wC q cI cJ cZ cB cT h)) (Qf := fun A => va_Qv (fun (_ : Unit) => True) (gB G (fun (_ : Unit) => (wC q cI cJ cZ cB cT hh)) A) A) (cc := cX6_closeLaw) (maxL := 2) (ret := none) (by decide) (Nat.le_of_ble_eq_true rfl) ?_
  intro p e s m args below meth c A ls H hx hb hr hts hown hin hlocks hml hP hK hD hA hS hl hE
  have hl : lv_has ls 2 [(0, .ref (q 42)), (1, .int p1)] := hl
  have hJ_19 : ∀ (h : HS), f_X6_closeLaw_2_19 h = some hh → ∀ (H : Heap) (locs : List Loc) (ls : Array Slot), va_P G vwCl (wC q cI cJ cZ cB cT h) H → va_D A (wC q cI cJ cZ cB cT h) → va_S A s.heap H locs → lv_has ls 2 [] → W p l e (gRm 1) s m args below meth c H locs 0 0 (MQ below (va_Qv (fun (_ : Unit) => True) (gB G (fun (_ : Unit) => (wC q cI cJ cZ cB cT hh)) A) A) args s 0 0 A) (F0 m 19 ls []) := by
    intro h hF H locs ls hP hD hS hl
    unfold f_X6_closeLaw_2_19 at hF
    obtain rfl := ob_one hF
    exact gw_vret () hx hb hr hlocks hP hD hS trivial dX6_closeLaw_19
  unfold f_X6_closeLaw_2 at hF
  refine lv_iload_n hx hb dX6_closeLaw_0 rfl (lv_at hl 1 rfl) ?_
  refine lv_if_lt (tgt := 19) hx hb dX6_closeLaw_1 (by decide) (fun c_1 => ?_) (fun c_1 => ?_)
  · have hF := ob_pos c_1 hF
    exact hJ_19 h hF H _ ls hP hD hS (lv_sub hl [] rfl)
  · have hF := ob_neg c_1 hF
    refine lv_iload_n hx hb dX6_closeLaw_4 rfl (lv_at hl 1 rfl) ?_
    refine lv_iconst (v := 4) hx hb dX6_closeLaw_5 (by decide) ?_
    refine lv_icmp_ge (tgt := 19) hx hb dX6_closeLaw_6 (by decide) (fun c_2 => ?_) (fun c_2 => ?_)
    · have hF := ob_pos c_2 hF
      exact hJ_19 h hF H _ ls hP hD hS (lv_sub hl [] rfl)
    · have hF := ob_neg c_2 hF
      refine lv_aload_n hx hb dX6_closeLaw_9 rfl (lv_at hl 0 rfl) ?_
      refine va_get (D := G) (ci := 6) (v := .ref (q 46)) (C := RX6) (T := TX6) (N := 6) hx hb hts iX6 hown hK hP 42 wC_at42 rfl 4 (by decide) (hts _ m_462) (fun _ h9 => h9) rfl dX6_closeLaw_10 ?_
      refine lv_iload_n hx hb dX6_closeLaw_13 rfl (lv_at hl 1 rfl) ?_
      refine lv_aload_n hx hb dX6_closeLaw_14 rfl (lv_at hl 0 rfl) ?_
      refine va_get (D := G) (ci := 6) (v := .int (eI h 11 5)) (C := RX6) (T := TX6) (N := 6) hx hb hts iX6 hown hK hP 42 wC_at42 rfl 5 (by decide) (hts _ m_460) (fun _ h9 => h9) rfl dX6_closeLaw_15 ?_
      obtain ⟨hi_3, hF⟩ := ob_if hF
      refine va_iast (D := G) hx hb hK hP hD hS 46 0 wC_at46 rfl (vp_in_iff.mpr hi_3) dX6_closeLaw_18 (fun H locs hP hD hS => ?_)
      rw [wC_sA46] at hP hD
      have hP : va_P G vwCl (wC q cI cJ cZ cB cT (sA h 11 4 (upd (eA h 11 4) ((p1).toNatClampNeg) (eI h 11 5)))) H := hP
      have hD : va_D A (wC q cI cJ cZ cB cT (sA h 11 4 (upd (eA h 11 4) ((p1).toNatClampNeg) (eI h 11 5)))) := hD
      exact hJ_19 (sA h 11 4 (upd (eA h 11 4) ((p1).toNatClampNeg) (eI h 11 5))) hF H _ ls hP hD hS (lv_sub hl [] rfl)
def f_X6_firstStep_2_19 (h : HS) (y0 : Int32) : Option (Int32 × HS) := (some (y0, h))
def f_X6_firstStep_2_18 (h : HS) : Option (Int32 × HS) := (f_X6_firstStep_2_19 h 0)
def f_X6_firstStep_2 (h : HS) (p1 : Int32) : Option (Int32 × HS) := (if p1 < 0 then (f_X6_firstStep_2_18 h) else (if 4 ≤ p1 then (f_X6_firstStep_2_18 h) else (if 0 ≤ (p1).toInt ∧ (p1).toInt < 4 then (f_X6_firstStep_2_19 h ((eA h 11 3) ((p1).toNatClampNeg))) else none)))
set_option maxHeartbeats 4000000 in
set_option maxRecDepth 100000 in
theorem c_X6_firstStep_2 (l : Launch) (G : va_G) (cI cJ cZ cB cT : ClassId) (q : Nat → Nat) (h : HS) (p1 : Int32) (rr : Int32) (hh : HS) (hF : f_X6_firstStep_2 h p1 = some (rr, hh)) : gMi l yX6_firstStep (gws yX6_firstStep cX6_firstStep 2 (some .int)) 1 G (gT cI cJ cZ cB cT) [.ref (q 42), .int p1] (wC q cI cJ cZ cB cT h) (fun x (_ : Unit) => x = rr) (fun (_ : Unit) => (wC q cI cJ cZ cB cT hh)) := by
  intro sz
  refine gM_start (y := yX6_firstStep) (av := [.ref (q 42), .int p1]) (ws := (wC q cI cJ cZ cB cT h)) (Qf := fun A => va_Qi (fun x (_ : Unit) => x = rr) (gB G (fun (_ : Unit) => (wC q cI cJ cZ cB cT hh)) A) A) (cc := cX6_firstStep) (maxL := 2) (ret := (some .int)) (by decide) (Nat.le_of_ble_eq_true rfl) ?_
  intro p e s m args below meth c A ls H hx hb hr hts hown hin hlocks hml hP hK hD hA hS hl hE
  have hl : lv_has ls 2 [(0, .ref (q 42)), (1, .int p1)] := hl
  have hJ_19 : ∀ (h : HS) (y0 : Int32), f_X6_firstStep_2_19 h y0 = some (rr, hh) → ∀ (H : Heap) (locs : List Loc) (ls : Array Slot), va_P G vwCl (wC q cI cJ cZ cB cT h) H → va_D A (wC q cI cJ cZ cB cT h) → va_S A s.heap H locs → lv_has ls 2 [] → W p l e (gRm 1) s m args below meth c H locs 0 0 (MQ below (va_Qi (fun x (_ : Unit) => x = rr) (gB G (fun (_ : Unit) => (wC q cI cJ cZ cB cT hh)) A) A) args s 0 0 A) (F0 m 19 ls [.int y0]) := by
    intro h y0 hF H locs ls hP hD hS hl
    unfold f_X6_firstStep_2_19 at hF
    obtain ⟨rfl, rfl⟩ := ob_pair hF
    exact gw_iret () hx hb hr hlocks hP hD hS rfl dX6_firstStep_19
  have hJ_18 : ∀ (h : HS), f_X6_firstStep_2_18 h = some (rr, hh) → ∀ (H : Heap) (locs : List Loc) (ls : Array Slot), va_P G vwCl (wC q cI cJ cZ cB cT h) H → va_D A (wC q cI cJ cZ cB cT h) → va_S A s.heap H locs → lv_has ls 2 [] → W p l e (gRm 1) s m args below meth c H locs 0 0 (MQ below (va_Qi (fun x (_ : Unit) => x = rr) (gB G (fun (_ : Unit) => (wC q cI cJ cZ cB cT hh)) A) A) args s 0 0 A) (F0 m 18 ls []) := by
    intro h hF H locs ls hP hD hS hl
    unfold f_X6_firstStep_2_18 at hF
    refine lv_iconst (v := 0) hx hb dX6_firstStep_18 (by decide) ?_
    exact hJ_19 h 0 hF H _ ls hP hD hS (lv_sub hl [] rfl)
  unfold f_X6_firstStep_2 at hF
  refine lv_iload_n hx hb dX6_firstStep_0 rfl (lv_at hl 1 rfl) ?_
  refine lv_if_lt (tgt := 18) hx hb dX6_firstStep_1 (by decide) (fun c_1 => ?_) (fun c_1 => ?_)
  · have hF := ob_pos c_1 hF
    exact hJ_18 h hF H _ ls hP hD hS (lv_sub hl [] rfl)
  · have hF := ob_neg c_1 hF
    refine lv_iload_n hx hb dX6_firstStep_4 rfl (lv_at hl 1 rfl) ?_
    refine lv_iconst (v := 4) hx hb dX6_firstStep_5 (by decide) ?_
    refine lv_icmp_ge (tgt := 18) hx hb dX6_firstStep_6 (by decide) (fun c_2 => ?_) (fun c_2 => ?_)
    · have hF := ob_pos c_2 hF
      exact hJ_18 h hF H _ ls hP hD hS (lv_sub hl [] rfl)
    · have hF := ob_neg c_2 hF
      refine lv_aload_n hx hb dX6_firstStep_9 rfl (lv_at hl 0 rfl) ?_
      refine va_get (D := G) (ci := 6) (v := .ref (q 45)) (C := RX6) (T := TX6) (N := 6) hx hb hts iX6 hown hK hP 42 wC_at42 rfl 3 (by decide) (hts _ m_461) (fun _ h9 => h9) rfl dX6_firstStep_10 ?_
      refine lv_iload_n hx hb dX6_firstStep_13 rfl (lv_at hl 1 rfl) ?_
      obtain ⟨hi_3, hF⟩ := ob_if hF
      refine va_iald (D := G) hx hb hK hP 45 0 wC_at45 rfl (vp_in_iff.mpr hi_3) dX6_firstStep_14 ?_
      refine gw_topi (y := ((eA h 11 3) ((p1).toNatClampNeg))) rfl ?_
      refine lv_goto (tgt := 19) hx hb dX6_firstStep_15 (by decide) ?_
      exact hJ_19 h ((eA h 11 3) ((p1).toNatClampNeg)) hF H _ ls hP hD hS (lv_sub hl [] rfl)
def f_X6_stepsEnd_2_19 (h : HS) (y0 : Int32) : Option (Int32 × HS) := (some (y0, h))
def f_X6_stepsEnd_2_18 (h : HS) : Option (Int32 × HS) := (f_X6_stepsEnd_2_19 h 0)
def f_X6_stepsEnd_2 (h : HS) (p1 : Int32) : Option (Int32 × HS) := (if p1 < 0 then (f_X6_stepsEnd_2_18 h) else (if 4 ≤ p1 then (f_X6_stepsEnd_2_18 h) else (if 0 ≤ (p1).toInt ∧ (p1).toInt < 4 then (f_X6_stepsEnd_2_19 h ((eA h 11 4) ((p1).toNatClampNeg))) else none)))
set_option maxHeartbeats 4000000 in
set_option maxRecDepth 100000 in
theorem c_X6_stepsEnd_2 (l : Launch) (G : va_G) (cI cJ cZ cB cT : ClassId) (q : Nat → Nat) (h : HS) (p1 : Int32) (rr : Int32) (hh : HS) (hF : f_X6_stepsEnd_2 h p1 = some (rr, hh)) : gMi l yX6_stepsEnd (gws yX6_stepsEnd cX6_stepsEnd 2 (some .int)) 1 G (gT cI cJ cZ cB cT) [.ref (q 42), .int p1] (wC q cI cJ cZ cB cT h) (fun x (_ : Unit) => x = rr) (fun (_ : Unit) => (wC q cI cJ cZ cB cT hh)) := by
  intro sz
  refine gM_start (y := yX6_stepsEnd) (av := [.ref (q 42), .int p1]) (ws := (wC q cI cJ cZ cB cT h)) (Qf := fun A => va_Qi (fun x (_ : Unit) => x = rr) (gB G (fun (_ : Unit) => (wC q cI cJ cZ cB cT hh)) A) A) (cc := cX6_stepsEnd) (maxL := 2) (ret := (some .int)) (by decide) (Nat.le_of_ble_eq_true rfl) ?_
  intro p e s m args below meth c A ls H hx hb hr hts hown hin hlocks hml hP hK hD hA hS hl hE
  have hl : lv_has ls 2 [(0, .ref (q 42)), (1, .int p1)] := hl
  have hJ_19 : ∀ (h : HS) (y0 : Int32), f_X6_stepsEnd_2_19 h y0 = some (rr, hh) → ∀ (H : Heap) (locs : List Loc) (ls : Array Slot), va_P G vwCl (wC q cI cJ cZ cB cT h) H → va_D A (wC q cI cJ cZ cB cT h) → va_S A s.heap H locs → lv_has ls 2 [] → W p l e (gRm 1) s m args below meth c H locs 0 0 (MQ below (va_Qi (fun x (_ : Unit) => x = rr) (gB G (fun (_ : Unit) => (wC q cI cJ cZ cB cT hh)) A) A) args s 0 0 A) (F0 m 19 ls [.int y0]) := by
    intro h y0 hF H locs ls hP hD hS hl
    unfold f_X6_stepsEnd_2_19 at hF
    obtain ⟨rfl, rfl⟩ := ob_pair hF
    exact gw_iret () hx hb hr hlocks hP hD hS rfl dX6_stepsEnd_19
  have hJ_18 : ∀ (h : HS), f_X6_stepsEnd_2_18 h = some (rr, hh) → ∀ (H : Heap) (locs : List Loc) (ls : Array Slot), va_P G vwCl (wC q cI cJ cZ cB cT h) H → va_D A (wC q cI cJ cZ cB cT h) → va_S A s.heap H locs → lv_has ls 2 [] → W p l e (gRm 1) s m args below meth c H locs 0 0 (MQ below (va_Qi (fun x (_ : Unit) => x = rr) (gB G (fun (_ : Unit) => (wC q cI cJ cZ cB cT hh)) A) A) args s 0 0 A) (F0 m 18 ls []) := by
    intro h hF H locs ls hP hD hS hl
    unfold f_X6_stepsEnd_2_18 at hF
    refine lv_iconst (v := 0) hx hb dX6_stepsEnd_18 (by decide) ?_
    exact hJ_19 h 0 hF H _ ls hP hD hS (lv_sub hl [] rfl)
  unfold f_X6_stepsEnd_2 at hF
  refine lv_iload_n hx hb dX6_stepsEnd_0 rfl (lv_at hl 1 rfl) ?_
  refine lv_if_lt (tgt := 18) hx hb dX6_stepsEnd_1 (by decide) (fun c_1 => ?_) (fun c_1 => ?_)
  · have hF := ob_pos c_1 hF
    exact hJ_18 h hF H _ ls hP hD hS (lv_sub hl [] rfl)
  · have hF := ob_neg c_1 hF
    refine lv_iload_n hx hb dX6_stepsEnd_4 rfl (lv_at hl 1 rfl) ?_
    refine lv_iconst (v := 4) hx hb dX6_stepsEnd_5 (by decide) ?_
    refine lv_icmp_ge (tgt := 18) hx hb dX6_stepsEnd_6 (by decide) (fun c_2 => ?_) (fun c_2 => ?_)
    · have hF := ob_pos c_2 hF
      exact hJ_18 h hF H _ ls hP hD hS (lv_sub hl [] rfl)
    · have hF := ob_neg c_2 hF
      refine lv_aload_n hx hb dX6_stepsEnd_9 rfl (lv_at hl 0 rfl) ?_
      refine va_get (D := G) (ci := 6) (v := .ref (q 46)) (C := RX6) (T := TX6) (N := 6) hx hb hts iX6 hown hK hP 42 wC_at42 rfl 4 (by decide) (hts _ m_462) (fun _ h9 => h9) rfl dX6_stepsEnd_10 ?_
      refine lv_iload_n hx hb dX6_stepsEnd_13 rfl (lv_at hl 1 rfl) ?_
      obtain ⟨hi_3, hF⟩ := ob_if hF
      refine va_iald (D := G) hx hb hK hP 46 0 wC_at46 rfl (vp_in_iff.mpr hi_3) dX6_stepsEnd_14 ?_
      refine gw_topi (y := ((eA h 11 4) ((p1).toNatClampNeg))) rfl ?_
      refine lv_goto (tgt := 19) hx hb dX6_stepsEnd_15 (by decide) ?_
      exact hJ_19 h ((eA h 11 4) ((p1).toNatClampNeg)) hF H _ ls hP hD hS (lv_sub hl [] rfl)
def f_X6_addStep_2_32 (h : HS) : Option HS := (some h)
def f_X6_addStep_2 (h : HS) (p1 : Int32) : Option HS := (if 300 ≤ (eI h 11 5) then (f_X6_addStep_2_32 h) else (if 0 ≤ ((eI h 11 5)).toInt ∧ ((eI h 11 5)).toInt < 300 then (f_X6_addStep_2_32 (sI (sA h 11 2 (upd (eA h 11 2) (((eI h 11 5)).toNatClampNeg) p1)) 11 5 ((eI h 11 5) + 1))) else none))
set_option maxHeartbeats 4000000 in
set_option maxRecDepth 100000 in
theorem c_X6_addStep_2 (l : Launch) (G : va_G) (cI cJ cZ cB cT : ClassId) (q : Nat → Nat) (h : HS) (p1 : Int32) (hh : HS) (hF : f_X6_addStep_2 h p1 = some hh) : gMv l yX6_addStep (gws yX6_addStep cX6_addStep 2 none) 1 G (gT cI cJ cZ cB cT) [.ref (q 42), .int p1] (wC q cI cJ cZ cB cT h) (fun (_ : Unit) => True) (fun (_ : Unit) => (wC q cI cJ cZ cB cT hh)) := by
  intro sz
  refine gM_start (y := yX6_addStep) (av := [.ref (q 42), .int p1]) (ws := (wC q cI cJ cZ cB cT h)) (Qf := fun A => va_Qv (fun (_ : Unit) => True) (gB G (fun (_ : Unit) => (wC q cI cJ cZ cB cT hh)) A) A) (cc := cX6_addStep) (maxL := 2) (ret := none) (by decide) (Nat.le_of_ble_eq_true rfl) ?_
  intro p e s m args below meth c A ls H hx hb hr hts hown hin hlocks hml hP hK hD hA hS hl hE
  have hl : lv_has ls 2 [(0, .ref (q 42)), (1, .int p1)] := hl
  have hJ_32 : ∀ (h : HS), f_X6_addStep_2_32 h = some hh → ∀ (H : Heap) (locs : List Loc) (ls : Array Slot), va_P G vwCl (wC q cI cJ cZ cB cT h) H → va_D A (wC q cI cJ cZ cB cT h) → va_S A s.heap H locs → lv_has ls 2 [] → W p l e (gRm 1) s m args below meth c H locs 0 0 (MQ below (va_Qv (fun (_ : Unit) => True) (gB G (fun (_ : Unit) => (wC q cI cJ cZ cB cT hh)) A) A) args s 0 0 A) (F0 m 32 ls []) := by
    intro h hF H locs ls hP hD hS hl
    unfold f_X6_addStep_2_32 at hF
    obtain rfl := ob_one hF
    exact gw_vret () hx hb hr hlocks hP hD hS trivial dX6_addStep_32
  unfold f_X6_addStep_2 at hF
  refine lv_aload_n hx hb dX6_addStep_0 rfl (lv_at hl 0 rfl) ?_
  refine va_get (D := G) (ci := 6) (v := .int (eI h 11 5)) (C := RX6) (T := TX6) (N := 6) hx hb hts iX6 hown hK hP 42 wC_at42 rfl 5 (by decide) (hts _ m_460) (fun _ h9 => h9) rfl dX6_addStep_1 ?_
  refine lv_aload_n hx hb dX6_addStep_4 rfl (lv_at hl 0 rfl) ?_
  refine va_get (D := G) (ci := 6) (v := .ref (q 44)) (C := RX6) (T := TX6) (N := 6) hx hb hts iX6 hown hK hP 42 wC_at42 rfl 2 (by decide) (hts _ m_463) (fun _ h9 => h9) rfl dX6_addStep_5 ?_
  refine va_alen (D := G) hx hb hK hP 44 0 wC_at44 rfl (v := 300) rfl dX6_addStep_8 ?_
  refine lv_icmp_ge (tgt := 32) hx hb dX6_addStep_9 (by decide) (fun c_1 => ?_) (fun c_1 => ?_)
  · have hF := ob_pos c_1 hF
    exact hJ_32 h hF H _ ls hP hD hS (lv_sub hl [] rfl)
  · have hF := ob_neg c_1 hF
    refine lv_aload_n hx hb dX6_addStep_12 rfl (lv_at hl 0 rfl) ?_
    refine va_get (D := G) (ci := 6) (v := .ref (q 44)) (C := RX6) (T := TX6) (N := 6) hx hb hts iX6 hown hK hP 42 wC_at42 rfl 2 (by decide) (hts _ m_463) (fun _ h9 => h9) rfl dX6_addStep_13 ?_
    refine lv_aload_n hx hb dX6_addStep_16 rfl (lv_at hl 0 rfl) ?_
    refine va_get (D := G) (ci := 6) (v := .int (eI h 11 5)) (C := RX6) (T := TX6) (N := 6) hx hb hts iX6 hown hK hP 42 wC_at42 rfl 5 (by decide) (hts _ m_460) (fun _ h9 => h9) rfl dX6_addStep_17 ?_
    refine lv_iload_n hx hb dX6_addStep_20 rfl (lv_at hl 1 rfl) ?_
    obtain ⟨hi_2, hF⟩ := ob_if hF
    refine va_iast (D := G) hx hb hK hP hD hS 44 0 wC_at44 rfl (vp_in_iff.mpr hi_2) dX6_addStep_21 (fun H locs hP hD hS => ?_)
    rw [wC_sA44] at hP hD
    have hP : va_P G vwCl (wC q cI cJ cZ cB cT (sA h 11 2 (upd (eA h 11 2) (((eI h 11 5)).toNatClampNeg) p1))) H := hP
    have hD : va_D A (wC q cI cJ cZ cB cT (sA h 11 2 (upd (eA h 11 2) (((eI h 11 5)).toNatClampNeg) p1))) := hD
    refine lv_aload_n hx hb dX6_addStep_22 rfl (lv_at hl 0 rfl) ?_
    refine lv_dup hx hb dX6_addStep_23 rfl ?_
    refine va_get (D := G) (ci := 6) (v := .int (eI h 11 5)) (C := RX6) (T := TX6) (N := 6) hx hb hts iX6 hown hK hP 42 wC_at42 rfl 5 (by decide) (hts _ m_460) (fun _ h9 => h9) rfl dX6_addStep_24 ?_
    refine lv_iconst (v := 1) hx hb dX6_addStep_27 (by decide) ?_
    refine lv_iadd hx hb dX6_addStep_28 ?_
    refine va_put (D := G) (ci := 6) (v := .int ((eI h 11 5) + 1)) (ty := .int) (C := RX6) (T := TX6) (N := 6) hx hb hts iX6 tyX6 tyX6_ok nmX6 hown hK hP hD hS 42 wC_at42 rfl 5 (by decide) (hts _ m_460) (fun _ h9 => h9) rfl (tyX6_ok 5 (by decide)) rfl rfl (Nat.le_of_ble_eq_true rfl) dX6_addStep_29 (fun H locs hP hD hS => ?_)
    rw [wC_sI42_5] at hP hD
    exact hJ_32 (sI (sA h 11 2 (upd (eA h 11 2) (((eI h 11 5)).toNatClampNeg) p1)) 11 5 ((eI h 11 5) + 1)) hF H _ ls hP hD hS (lv_sub hl [] rfl)
def f_X6_stepAt_2_31 (h : HS) (y0 : Int32) : Option (Int32 × HS) := (some (y0, h))
def f_X6_stepAt_2_30 (h : HS) : Option (Int32 × HS) := (f_X6_stepAt_2_31 h 0)
def f_X6_stepAt_2 (h : HS) (p1 : Int32) : Option (Int32 × HS) := (if p1 < 0 then (f_X6_stepAt_2_30 h) else (if (eI h 11 5) ≤ p1 then (f_X6_stepAt_2_30 h) else (if 300 ≤ p1 then (f_X6_stepAt_2_30 h) else (if 0 ≤ (p1).toInt ∧ (p1).toInt < 300 then (f_X6_stepAt_2_31 h ((eA h 11 2) ((p1).toNatClampNeg))) else none))))
set_option maxHeartbeats 4000000 in
set_option maxRecDepth 100000 in
theorem c_X6_stepAt_2 (l : Launch) (G : va_G) (cI cJ cZ cB cT : ClassId) (q : Nat → Nat) (h : HS) (p1 : Int32) (rr : Int32) (hh : HS) (hF : f_X6_stepAt_2 h p1 = some (rr, hh)) : gMi l yX6_stepAt (gws yX6_stepAt cX6_stepAt 2 (some .int)) 1 G (gT cI cJ cZ cB cT) [.ref (q 42), .int p1] (wC q cI cJ cZ cB cT h) (fun x (_ : Unit) => x = rr) (fun (_ : Unit) => (wC q cI cJ cZ cB cT hh)) := by
  intro sz
  refine gM_start (y := yX6_stepAt) (av := [.ref (q 42), .int p1]) (ws := (wC q cI cJ cZ cB cT h)) (Qf := fun A => va_Qi (fun x (_ : Unit) => x = rr) (gB G (fun (_ : Unit) => (wC q cI cJ cZ cB cT hh)) A) A) (cc := cX6_stepAt) (maxL := 2) (ret := (some .int)) (by decide) (Nat.le_of_ble_eq_true rfl) ?_
  intro p e s m args below meth c A ls H hx hb hr hts hown hin hlocks hml hP hK hD hA hS hl hE
  have hl : lv_has ls 2 [(0, .ref (q 42)), (1, .int p1)] := hl
  have hJ_31 : ∀ (h : HS) (y0 : Int32), f_X6_stepAt_2_31 h y0 = some (rr, hh) → ∀ (H : Heap) (locs : List Loc) (ls : Array Slot), va_P G vwCl (wC q cI cJ cZ cB cT h) H → va_D A (wC q cI cJ cZ cB cT h) → va_S A s.heap H locs → lv_has ls 2 [] → W p l e (gRm 1) s m args below meth c H locs 0 0 (MQ below (va_Qi (fun x (_ : Unit) => x = rr) (gB G (fun (_ : Unit) => (wC q cI cJ cZ cB cT hh)) A) A) args s 0 0 A) (F0 m 31 ls [.int y0]) := by
    intro h y0 hF H locs ls hP hD hS hl
    unfold f_X6_stepAt_2_31 at hF
    obtain ⟨rfl, rfl⟩ := ob_pair hF
    exact gw_iret () hx hb hr hlocks hP hD hS rfl dX6_stepAt_31
  have hJ_30 : ∀ (h : HS), f_X6_stepAt_2_30 h = some (rr, hh) → ∀ (H : Heap) (locs : List Loc) (ls : Array Slot), va_P G vwCl (wC q cI cJ cZ cB cT h) H → va_D A (wC q cI cJ cZ cB cT h) → va_S A s.heap H locs → lv_has ls 2 [] → W p l e (gRm 1) s m args below meth c H locs 0 0 (MQ below (va_Qi (fun x (_ : Unit) => x = rr) (gB G (fun (_ : Unit) => (wC q cI cJ cZ cB cT hh)) A) A) args s 0 0 A) (F0 m 30 ls []) := by
    intro h hF H locs ls hP hD hS hl
    unfold f_X6_stepAt_2_30 at hF
    refine lv_iconst (v := 0) hx hb dX6_stepAt_30 (by decide) ?_
    exact hJ_31 h 0 hF H _ ls hP hD hS (lv_sub hl [] rfl)
  unfold f_X6_stepAt_2 at hF
  refine lv_iload_n hx hb dX6_stepAt_0 rfl (lv_at hl 1 rfl) ?_
  refine lv_if_lt (tgt := 30) hx hb dX6_stepAt_1 (by decide) (fun c_1 => ?_) (fun c_1 => ?_)
  · have hF := ob_pos c_1 hF
    exact hJ_30 h hF H _ ls hP hD hS (lv_sub hl [] rfl)
  · have hF := ob_neg c_1 hF
    refine lv_iload_n hx hb dX6_stepAt_4 rfl (lv_at hl 1 rfl) ?_
    refine lv_aload_n hx hb dX6_stepAt_5 rfl (lv_at hl 0 rfl) ?_
    refine va_get (D := G) (ci := 6) (v := .int (eI h 11 5)) (C := RX6) (T := TX6) (N := 6) hx hb hts iX6 hown hK hP 42 wC_at42 rfl 5 (by decide) (hts _ m_460) (fun _ h9 => h9) rfl dX6_stepAt_6 ?_
    refine lv_icmp_ge (tgt := 30) hx hb dX6_stepAt_9 (by decide) (fun c_2 => ?_) (fun c_2 => ?_)
    · have hF := ob_pos c_2 hF
      exact hJ_30 h hF H _ ls hP hD hS (lv_sub hl [] rfl)
    · have hF := ob_neg c_2 hF
      refine lv_iload_n hx hb dX6_stepAt_12 rfl (lv_at hl 1 rfl) ?_
      refine lv_aload_n hx hb dX6_stepAt_13 rfl (lv_at hl 0 rfl) ?_
      refine va_get (D := G) (ci := 6) (v := .ref (q 44)) (C := RX6) (T := TX6) (N := 6) hx hb hts iX6 hown hK hP 42 wC_at42 rfl 2 (by decide) (hts _ m_463) (fun _ h9 => h9) rfl dX6_stepAt_14 ?_
      refine va_alen (D := G) hx hb hK hP 44 0 wC_at44 rfl (v := 300) rfl dX6_stepAt_17 ?_
      refine lv_icmp_ge (tgt := 30) hx hb dX6_stepAt_18 (by decide) (fun c_3 => ?_) (fun c_3 => ?_)
      · have hF := ob_pos c_3 hF
        exact hJ_30 h hF H _ ls hP hD hS (lv_sub hl [] rfl)
      · have hF := ob_neg c_3 hF
        refine lv_aload_n hx hb dX6_stepAt_21 rfl (lv_at hl 0 rfl) ?_
        refine va_get (D := G) (ci := 6) (v := .ref (q 44)) (C := RX6) (T := TX6) (N := 6) hx hb hts iX6 hown hK hP 42 wC_at42 rfl 2 (by decide) (hts _ m_463) (fun _ h9 => h9) rfl dX6_stepAt_22 ?_
        refine lv_iload_n hx hb dX6_stepAt_25 rfl (lv_at hl 1 rfl) ?_
        obtain ⟨hi_4, hF⟩ := ob_if hF
        refine va_iald (D := G) hx hb hK hP 44 0 wC_at44 rfl (vp_in_iff.mpr hi_4) dX6_stepAt_26 ?_
        refine gw_topi (y := ((eA h 11 2) ((p1).toNatClampNeg))) rfl ?_
        refine lv_goto (tgt := 31) hx hb dX6_stepAt_27 (by decide) ?_
        exact hJ_31 h ((eA h 11 2) ((p1).toNatClampNeg)) hF H _ ls hP hD hS (lv_sub hl [] rfl)
def f_X6_clauseField_2_19 (h : HS) : Option (Int32 × HS) := (some ((-1), h))
def f_X6_clauseField_2 (h : HS) (p1 : Int32) (p2 : Int32) : Option (Int32 × HS) := (if p1 < 0 then (f_X6_clauseField_2_19 h) else (if 24 ≤ p1 then (f_X6_clauseField_2_19 h) else (if p2 < 0 then (f_X6_clauseField_2_19 h) else (if p2 < 4 then (if 0 ≤ (((p1 * 4) + p2)).toInt ∧ (((p1 * 4) + p2)).toInt < 96 then (some (((eA h 11 0) ((((p1 * 4) + p2)).toNatClampNeg)), h)) else none) else (f_X6_clauseField_2_19 h)))))
set_option maxHeartbeats 4000000 in
set_option maxRecDepth 100000 in
theorem c_X6_clauseField_2 (l : Launch) (G : va_G) (cI cJ cZ cB cT : ClassId) (q : Nat → Nat) (h : HS) (p1 : Int32) (p2 : Int32) (rr : Int32) (hh : HS) (hF : f_X6_clauseField_2 h p1 p2 = some (rr, hh)) : gMi l yX6_clauseField (gws yX6_clauseField cX6_clauseField 3 (some .int)) 1 G (gT cI cJ cZ cB cT) [.ref (q 42), .int p1, .int p2] (wC q cI cJ cZ cB cT h) (fun x (_ : Unit) => x = rr) (fun (_ : Unit) => (wC q cI cJ cZ cB cT hh)) := by
  intro sz
  refine gM_start (y := yX6_clauseField) (av := [.ref (q 42), .int p1, .int p2]) (ws := (wC q cI cJ cZ cB cT h)) (Qf := fun A => va_Qi (fun x (_ : Unit) => x = rr) (gB G (fun (_ : Unit) => (wC q cI cJ cZ cB cT hh)) A) A) (cc := cX6_clauseField) (maxL := 3) (ret := (some .int)) (by decide) (Nat.le_of_ble_eq_true rfl) ?_
  intro p e s m args below meth c A ls H hx hb hr hts hown hin hlocks hml hP hK hD hA hS hl hE
  have hl : lv_has ls 3 [(0, .ref (q 42)), (1, .int p1), (2, .int p2)] := hl
  have hJ_19 : ∀ (h : HS), f_X6_clauseField_2_19 h = some (rr, hh) → ∀ (H : Heap) (locs : List Loc) (ls : Array Slot), va_P G vwCl (wC q cI cJ cZ cB cT h) H → va_D A (wC q cI cJ cZ cB cT h) → va_S A s.heap H locs → lv_has ls 3 [] → W p l e (gRm 1) s m args below meth c H locs 0 0 (MQ below (va_Qi (fun x (_ : Unit) => x = rr) (gB G (fun (_ : Unit) => (wC q cI cJ cZ cB cT hh)) A) A) args s 0 0 A) (F0 m 19 ls []) := by
    intro h hF H locs ls hP hD hS hl
    unfold f_X6_clauseField_2_19 at hF
    refine lv_iconst (v := (-1)) hx hb dX6_clauseField_19 (by decide) ?_
    obtain ⟨rfl, rfl⟩ := ob_pair hF
    exact gw_iret () hx hb hr hlocks hP hD hS rfl dX6_clauseField_20
  unfold f_X6_clauseField_2 at hF
  refine lv_iload_n hx hb dX6_clauseField_0 rfl (lv_at hl 1 rfl) ?_
  refine lv_if_lt (tgt := 19) hx hb dX6_clauseField_1 (by decide) (fun c_1 => ?_) (fun c_1 => ?_)
  · have hF := ob_pos c_1 hF
    exact hJ_19 h hF H _ ls hP hD hS (lv_sub hl [] rfl)
  · have hF := ob_neg c_1 hF
    refine lv_iload_n hx hb dX6_clauseField_4 rfl (lv_at hl 1 rfl) ?_
    refine lv_bipush (v := 24) hx hb dX6_clauseField_5 (by decide) ?_
    refine lv_icmp_ge (tgt := 19) hx hb dX6_clauseField_7 (by decide) (fun c_2 => ?_) (fun c_2 => ?_)
    · have hF := ob_pos c_2 hF
      exact hJ_19 h hF H _ ls hP hD hS (lv_sub hl [] rfl)
    · have hF := ob_neg c_2 hF
      refine lv_iload_n hx hb dX6_clauseField_10 rfl (lv_at hl 2 rfl) ?_
      refine lv_if_lt (tgt := 19) hx hb dX6_clauseField_11 (by decide) (fun c_3 => ?_) (fun c_3 => ?_)
      · have hF := ob_pos c_3 hF
        exact hJ_19 h hF H _ ls hP hD hS (lv_sub hl [] rfl)
      · have hF := ob_neg c_3 hF
        refine lv_iload_n hx hb dX6_clauseField_14 rfl (lv_at hl 2 rfl) ?_
        refine lv_iconst (v := 4) hx hb dX6_clauseField_15 (by decide) ?_
        refine lv_icmp_lt (tgt := 21) hx hb dX6_clauseField_16 (by decide) (fun c_4 => ?_) (fun c_4 => ?_)
        · have hF := ob_pos c_4 hF
          refine lv_aload_n hx hb dX6_clauseField_21 rfl (lv_at hl 0 rfl) ?_
          refine va_get (D := G) (ci := 6) (v := .ref (q 43)) (C := RX6) (T := TX6) (N := 6) hx hb hts iX6 hown hK hP 42 wC_at42 rfl 0 (by decide) (hts _ m_464) (fun _ h9 => h9) rfl dX6_clauseField_22 ?_
          refine lv_iload_n hx hb dX6_clauseField_25 rfl (lv_at hl 1 rfl) ?_
          refine lv_iconst (v := 4) hx hb dX6_clauseField_26 (by decide) ?_
          refine lv_imul hx hb dX6_clauseField_27 ?_
          refine lv_iload_n hx hb dX6_clauseField_28 rfl (lv_at hl 2 rfl) ?_
          refine lv_iadd hx hb dX6_clauseField_29 ?_
          obtain ⟨hi_5, hF⟩ := ob_if hF
          refine va_iald (D := G) hx hb hK hP 43 0 wC_at43 rfl (vp_in_iff.mpr hi_5) dX6_clauseField_30 ?_
          refine gw_topi (y := ((eA h 11 0) ((((p1 * 4) + p2)).toNatClampNeg))) rfl ?_
          obtain ⟨rfl, rfl⟩ := ob_pair hF
          exact gw_iret () hx hb hr hlocks hP hD hS rfl dX6_clauseField_31
        · have hF := ob_neg c_4 hF
          exact hJ_19 h hF H _ ls hP hD hS (lv_sub hl [] rfl)
def f_X6_setClause_2_30 (h : HS) : Option HS := (some h)
def f_X6_setClause_2 (h : HS) (p1 : Int32) (p2 : Int32) (p3 : Int32) : Option HS := (if p1 < 0 then (f_X6_setClause_2_30 h) else (if 24 ≤ p1 then (f_X6_setClause_2_30 h) else (if p2 < 0 then (f_X6_setClause_2_30 h) else (if 4 ≤ p2 then (f_X6_setClause_2_30 h) else (if 0 ≤ (((p1 * 4) + p2)).toInt ∧ (((p1 * 4) + p2)).toInt < 96 then (f_X6_setClause_2_30 (sA h 11 0 (upd (eA h 11 0) ((((p1 * 4) + p2)).toNatClampNeg) p3))) else none)))))
set_option maxHeartbeats 4000000 in
set_option maxRecDepth 100000 in
theorem c_X6_setClause_2 (l : Launch) (G : va_G) (cI cJ cZ cB cT : ClassId) (q : Nat → Nat) (h : HS) (p1 : Int32) (p2 : Int32) (p3 : Int32) (hh : HS) (hF : f_X6_setClause_2 h p1 p2 p3 = some hh) : gMv l yX6_setClause (gws yX6_setClause cX6_setClause 4 none) 1 G (gT cI cJ cZ cB cT) [.ref (q 42), .int p1, .int p2, .int p3] (wC q cI cJ cZ cB cT h) (fun (_ : Unit) => True) (fun (_ : Unit) => (wC q cI cJ cZ cB cT hh)) := by
  intro sz
  refine gM_start (y := yX6_setClause) (av := [.ref (q 42), .int p1, .int p2, .int p3]) (ws := (wC q cI cJ cZ cB cT h)) (Qf := fun A => va_Qv (fun (_ : Unit) => True) (gB G (fun (_ : Unit) => (wC q cI cJ cZ cB cT hh)) A) A) (cc := cX6_setClause) (maxL := 4) (ret := none) (by decide) (Nat.le_of_ble_eq_true rfl) ?_
  intro p e s m args below meth c A ls H hx hb hr hts hown hin hlocks hml hP hK hD hA hS hl hE
  have hl : lv_has ls 4 [(0, .ref (q 42)), (1, .int p1), (2, .int p2), (3, .int p3)] := hl
  have hJ_30 : ∀ (h : HS), f_X6_setClause_2_30 h = some hh → ∀ (H : Heap) (locs : List Loc) (ls : Array Slot), va_P G vwCl (wC q cI cJ cZ cB cT h) H → va_D A (wC q cI cJ cZ cB cT h) → va_S A s.heap H locs → lv_has ls 4 [] → W p l e (gRm 1) s m args below meth c H locs 0 0 (MQ below (va_Qv (fun (_ : Unit) => True) (gB G (fun (_ : Unit) => (wC q cI cJ cZ cB cT hh)) A) A) args s 0 0 A) (F0 m 30 ls []) := by
    intro h hF H locs ls hP hD hS hl
    unfold f_X6_setClause_2_30 at hF
    obtain rfl := ob_one hF
    exact gw_vret () hx hb hr hlocks hP hD hS trivial dX6_setClause_30
  unfold f_X6_setClause_2 at hF
  refine lv_iload_n hx hb dX6_setClause_0 rfl (lv_at hl 1 rfl) ?_
  refine lv_if_lt (tgt := 30) hx hb dX6_setClause_1 (by decide) (fun c_1 => ?_) (fun c_1 => ?_)
  · have hF := ob_pos c_1 hF
    exact hJ_30 h hF H _ ls hP hD hS (lv_sub hl [] rfl)
  · have hF := ob_neg c_1 hF
    refine lv_iload_n hx hb dX6_setClause_4 rfl (lv_at hl 1 rfl) ?_
    refine lv_bipush (v := 24) hx hb dX6_setClause_5 (by decide) ?_
    refine lv_icmp_ge (tgt := 30) hx hb dX6_setClause_7 (by decide) (fun c_2 => ?_) (fun c_2 => ?_)
    · have hF := ob_pos c_2 hF
      exact hJ_30 h hF H _ ls hP hD hS (lv_sub hl [] rfl)
    · have hF := ob_neg c_2 hF
      refine lv_iload_n hx hb dX6_setClause_10 rfl (lv_at hl 2 rfl) ?_
      refine lv_if_lt (tgt := 30) hx hb dX6_setClause_11 (by decide) (fun c_3 => ?_) (fun c_3 => ?_)
      · have hF := ob_pos c_3 hF
        exact hJ_30 h hF H _ ls hP hD hS (lv_sub hl [] rfl)
      · have hF := ob_neg c_3 hF
        refine lv_iload_n hx hb dX6_setClause_14 rfl (lv_at hl 2 rfl) ?_
        refine lv_iconst (v := 4) hx hb dX6_setClause_15 (by decide) ?_
        refine lv_icmp_ge (tgt := 30) hx hb dX6_setClause_16 (by decide) (fun c_4 => ?_) (fun c_4 => ?_)
        · have hF := ob_pos c_4 hF
          exact hJ_30 h hF H _ ls hP hD hS (lv_sub hl [] rfl)
        · have hF := ob_neg c_4 hF
          refine lv_aload_n hx hb dX6_setClause_19 rfl (lv_at hl 0 rfl) ?_
          refine va_get (D := G) (ci := 6) (v := .ref (q 43)) (C := RX6) (T := TX6) (N := 6) hx hb hts iX6 hown hK hP 42 wC_at42 rfl 0 (by decide) (hts _ m_464) (fun _ h9 => h9) rfl dX6_setClause_20 ?_
          refine lv_iload_n hx hb dX6_setClause_23 rfl (lv_at hl 1 rfl) ?_
          refine lv_iconst (v := 4) hx hb dX6_setClause_24 (by decide) ?_
          refine lv_imul hx hb dX6_setClause_25 ?_
          refine lv_iload_n hx hb dX6_setClause_26 rfl (lv_at hl 2 rfl) ?_
          refine lv_iadd hx hb dX6_setClause_27 ?_
          refine lv_iload_n hx hb dX6_setClause_28 rfl (lv_at hl 3 rfl) ?_
          obtain ⟨hi_5, hF⟩ := ob_if hF
          refine va_iast (D := G) hx hb hK hP hD hS 43 0 wC_at43 rfl (vp_in_iff.mpr hi_5) dX6_setClause_29 (fun H locs hP hD hS => ?_)
          rw [wC_sA43] at hP hD
          have hP : va_P G vwCl (wC q cI cJ cZ cB cT (sA h 11 0 (upd (eA h 11 0) ((((p1 * 4) + p2)).toNatClampNeg) p3))) H := hP
          have hD : va_D A (wC q cI cJ cZ cB cT (sA h 11 0 (upd (eA h 11 0) ((((p1 * 4) + p2)).toNatClampNeg) p3))) := hD
          exact hJ_30 (sA h 11 0 (upd (eA h 11 0) ((((p1 * 4) + p2)).toNatClampNeg) p3)) hF H _ ls hP hD hS (lv_sub hl [] rfl)
def f_X6_clear_3_12 : Nat → HS → Int32 → Option HS
  | 0, _, _ => none
  | n + 1, h, x1 => (if 4 ≤ x1 then (some h) else (if 0 ≤ (x1).toInt ∧ (x1).toInt < 4 then (if 0 ≤ (x1).toInt ∧ (x1).toInt < 4 then ((f_X6_clear_3_12 n) (sA (sA h 12 3 (upd (eA h 12 3) ((x1).toNatClampNeg) (-1))) 12 4 (upd (eA h 12 4) ((x1).toNatClampNeg) (-1))) (x1 + 1)) else none) else none))
theorem f_X6_clear_3_12_s (n : Nat) (h : HS) (x1 : Int32) : f_X6_clear_3_12 (n + 1) h x1 = (if 4 ≤ x1 then (some h) else (if 0 ≤ (x1).toInt ∧ (x1).toInt < 4 then (if 0 ≤ (x1).toInt ∧ (x1).toInt < 4 then ((f_X6_clear_3_12 n) (sA (sA h 12 3 (upd (eA h 12 3) ((x1).toNatClampNeg) (-1))) 12 4 (upd (eA h 12 4) ((x1).toNatClampNeg) (-1))) (x1 + 1)) else none) else none)) := rfl
def f_X6_clear_3 (h : HS) : Option HS := (f_X6_clear_3_12 8589934592 (sI (sI h 12 1 0) 12 5 0) 0)
set_option maxHeartbeats 4000000 in
set_option maxRecDepth 100000 in
theorem c_X6_clear_3 (l : Launch) (G : va_G) (cI cJ cZ cB cT : ClassId) (q : Nat → Nat) (h : HS)  (hh : HS) (hF : f_X6_clear_3 h = some hh) : gMv l yX6_clear (gws yX6_clear cX6_clear 2 none) 1 G (gT cI cJ cZ cB cT) [.ref (q 47)] (wC q cI cJ cZ cB cT h) (fun (_ : Unit) => True) (fun (_ : Unit) => (wC q cI cJ cZ cB cT hh)) := by
  intro sz
  refine gM_start (y := yX6_clear) (av := [.ref (q 47)]) (ws := (wC q cI cJ cZ cB cT h)) (Qf := fun A => va_Qv (fun (_ : Unit) => True) (gB G (fun (_ : Unit) => (wC q cI cJ cZ cB cT hh)) A) A) (cc := cX6_clear) (maxL := 2) (ret := none) (by decide) (Nat.le_of_ble_eq_true rfl) ?_
  intro p e s m args below meth c A ls H hx hb hr hts hown hin hlocks hml hP hK hD hA hS hl hE
  have hl : lv_has ls 2 [(0, .ref (q 47))] := hl
  have hJ_12 : ∀ (n_12 : Nat) (h : HS) (x1 : Int32), f_X6_clear_3_12 n_12 h x1 = some hh → ∀ (H : Heap) (locs : List Loc) (ls : Array Slot), va_P G vwCl (wC q cI cJ cZ cB cT h) H → va_D A (wC q cI cJ cZ cB cT h) → va_S A s.heap H locs → lv_has ls 2 [(0, .ref (q 47)), (1, .int x1)] → W p l e (gRm 1) s m args below meth c H locs 0 0 (MQ below (va_Qv (fun (_ : Unit) => True) (gB G (fun (_ : Unit) => (wC q cI cJ cZ cB cT hh)) A) A) args s 0 0 A) (F0 m 12 ls []) := by
    intro n_12
    induction n_12 with
    | zero =>
      intro h x1 hF
      exact absurd hF (by simp [f_X6_clear_3_12])
    | succ n_12 ih_12 =>
      intro h x1 hF H locs ls hP hD hS hl
      rw [f_X6_clear_3_12_s] at hF
      refine lv_iload_n hx hb dX6_clear_12 rfl (lv_at hl 1 rfl) ?_
      refine lv_iconst (v := 4) hx hb dX6_clear_13 (by decide) ?_
      refine lv_icmp_ge (tgt := 37) hx hb dX6_clear_14 (by decide) (fun c_1 => ?_) (fun c_1 => ?_)
      · have hF := ob_pos c_1 hF
        obtain rfl := ob_one hF
        exact gw_vret () hx hb hr hlocks hP hD hS trivial dX6_clear_37
      · have hF := ob_neg c_1 hF
        refine lv_aload_n hx hb dX6_clear_17 rfl (lv_at hl 0 rfl) ?_
        refine va_get (D := G) (ci := 6) (v := .ref (q 50)) (C := RX6) (T := TX6) (N := 6) hx hb hts iX6 hown hK hP 47 wC_at47 rfl 3 (by decide) (hts _ m_461) (fun _ h9 => h9) rfl dX6_clear_18 ?_
        refine lv_iload_n hx hb dX6_clear_21 rfl (lv_at hl 1 rfl) ?_
        refine lv_iconst (v := (-1)) hx hb dX6_clear_22 (by decide) ?_
        obtain ⟨hi_2, hF⟩ := ob_if hF
        refine va_iast (D := G) hx hb hK hP hD hS 50 0 wC_at50 rfl (vp_in_iff.mpr hi_2) dX6_clear_23 (fun H locs hP hD hS => ?_)
        rw [wC_sA50] at hP hD
        have hP : va_P G vwCl (wC q cI cJ cZ cB cT (sA h 12 3 (upd (eA h 12 3) ((x1).toNatClampNeg) (-1)))) H := hP
        have hD : va_D A (wC q cI cJ cZ cB cT (sA h 12 3 (upd (eA h 12 3) ((x1).toNatClampNeg) (-1)))) := hD
        refine lv_aload_n hx hb dX6_clear_24 rfl (lv_at hl 0 rfl) ?_
        refine va_get (D := G) (ci := 6) (v := .ref (q 51)) (C := RX6) (T := TX6) (N := 6) hx hb hts iX6 hown hK hP 47 wC_at47 rfl 4 (by decide) (hts _ m_462) (fun _ h9 => h9) rfl dX6_clear_25 ?_
        refine lv_iload_n hx hb dX6_clear_28 rfl (lv_at hl 1 rfl) ?_
        refine lv_iconst (v := (-1)) hx hb dX6_clear_29 (by decide) ?_
        obtain ⟨hi_3, hF⟩ := ob_if hF
        refine va_iast (D := G) hx hb hK hP hD hS 51 0 wC_at51 rfl (vp_in_iff.mpr hi_3) dX6_clear_30 (fun H locs hP hD hS => ?_)
        rw [wC_sA51] at hP hD
        have hP : va_P G vwCl (wC q cI cJ cZ cB cT (sA (sA h 12 3 (upd (eA h 12 3) ((x1).toNatClampNeg) (-1))) 12 4 (upd (eA h 12 4) ((x1).toNatClampNeg) (-1)))) H := hP
        have hD : va_D A (wC q cI cJ cZ cB cT (sA (sA h 12 3 (upd (eA h 12 3) ((x1).toNatClampNeg) (-1))) 12 4 (upd (eA h 12 4) ((x1).toNatClampNeg) (-1)))) := hD
        refine lv_iinc (v := (x1 + 1)) (lv' := [(1, .int (x1 + 1)), (0, .ref (q 47))]) hx hb dX6_clear_31 hl (k := 1) rfl rfl (by decide) rfl (fun ls hl => ?_)
        refine lv_goto (tgt := 12) hx hb dX6_clear_34 (by decide) ?_
        exact ih_12 (sA (sA h 12 3 (upd (eA h 12 3) ((x1).toNatClampNeg) (-1))) 12 4 (upd (eA h 12 4) ((x1).toNatClampNeg) (-1))) (x1 + 1) hF H _ ls hP hD hS (lv_sub hl [1, 0] rfl)
  unfold f_X6_clear_3 at hF
  refine lv_aload_n hx hb dX6_clear_0 rfl (lv_at hl 0 rfl) ?_
  refine lv_iconst (v := 0) hx hb dX6_clear_1 (by decide) ?_
  refine va_put (D := G) (ci := 6) (v := .int 0) (ty := .int) (C := RX6) (T := TX6) (N := 6) hx hb hts iX6 tyX6 tyX6_ok nmX6 hown hK hP hD hS 47 wC_at47 rfl 1 (by decide) (hts _ m_459) (fun _ h9 => h9) rfl (tyX6_ok 1 (by decide)) rfl rfl (Nat.le_of_ble_eq_true rfl) dX6_clear_2 (fun H locs hP hD hS => ?_)
  rw [wC_sI47_1] at hP hD
  refine lv_aload_n hx hb dX6_clear_5 rfl (lv_at hl 0 rfl) ?_
  refine lv_iconst (v := 0) hx hb dX6_clear_6 (by decide) ?_
  refine va_put (D := G) (ci := 6) (v := .int 0) (ty := .int) (C := RX6) (T := TX6) (N := 6) hx hb hts iX6 tyX6 tyX6_ok nmX6 hown hK hP hD hS 47 wC_at47 rfl 5 (by decide) (hts _ m_460) (fun _ h9 => h9) rfl (tyX6_ok 5 (by decide)) rfl rfl (Nat.le_of_ble_eq_true rfl) dX6_clear_7 (fun H locs hP hD hS => ?_)
  rw [wC_sI47_5] at hP hD
  refine lv_iconst (v := 0) hx hb dX6_clear_10 (by decide) ?_
  refine lv_istore_n (lv' := [(1, .int 0), (0, .ref (q 47))]) hx hb dX6_clear_11 rfl hl (by decide) rfl (fun ls hl => ?_)
  exact hJ_12 8589934592 (sI (sI h 12 1 0) 12 5 0) 0 hF H _ ls hP hD hS (lv_sub hl [1, 0] rfl)
def f_X6_hasLaw_3_24 (h : HS) (y0 : Int32) : Option (Int32 × HS) := (if y0 = 0 ∨ y0 = 1 then (some (y0, h)) else none)
def f_X6_hasLaw_3_23 (h : HS) : Option (Int32 × HS) := (f_X6_hasLaw_3_24 h 0)
def f_X6_hasLaw_3 (h : HS) (p1 : Int32) : Option (Int32 × HS) := (if p1 < 0 then (f_X6_hasLaw_3_23 h) else (if 4 ≤ p1 then (f_X6_hasLaw_3_23 h) else (if 0 ≤ (p1).toInt ∧ (p1).toInt < 4 then (if ((eA h 12 3) ((p1).toNatClampNeg)) = (-1) then (f_X6_hasLaw_3_23 h) else (f_X6_hasLaw_3_24 h 1)) else none)))
set_option maxHeartbeats 4000000 in
set_option maxRecDepth 100000 in
theorem c_X6_hasLaw_3 (l : Launch) (G : va_G) (cI cJ cZ cB cT : ClassId) (q : Nat → Nat) (h : HS) (p1 : Int32) (rr : Int32) (hh : HS) (hF : f_X6_hasLaw_3 h p1 = some (rr, hh)) : gMi l yX6_hasLaw (gws yX6_hasLaw cX6_hasLaw 2 (some .boolean)) 1 G (gT cI cJ cZ cB cT) [.ref (q 47), .int p1] (wC q cI cJ cZ cB cT h) (fun x (_ : Unit) => x = rr) (fun (_ : Unit) => (wC q cI cJ cZ cB cT hh)) := by
  intro sz
  refine gM_start (y := yX6_hasLaw) (av := [.ref (q 47), .int p1]) (ws := (wC q cI cJ cZ cB cT h)) (Qf := fun A => va_Qi (fun x (_ : Unit) => x = rr) (gB G (fun (_ : Unit) => (wC q cI cJ cZ cB cT hh)) A) A) (cc := cX6_hasLaw) (maxL := 2) (ret := (some .boolean)) (by decide) (Nat.le_of_ble_eq_true rfl) ?_
  intro p e s m args below meth c A ls H hx hb hr hts hown hin hlocks hml hP hK hD hA hS hl hE
  have hl : lv_has ls 2 [(0, .ref (q 47)), (1, .int p1)] := hl
  have hJ_24 : ∀ (h : HS) (y0 : Int32), f_X6_hasLaw_3_24 h y0 = some (rr, hh) → ∀ (H : Heap) (locs : List Loc) (ls : Array Slot), va_P G vwCl (wC q cI cJ cZ cB cT h) H → va_D A (wC q cI cJ cZ cB cT h) → va_S A s.heap H locs → lv_has ls 2 [] → W p l e (gRm 1) s m args below meth c H locs 0 0 (MQ below (va_Qi (fun x (_ : Unit) => x = rr) (gB G (fun (_ : Unit) => (wC q cI cJ cZ cB cT hh)) A) A) args s 0 0 A) (F0 m 24 ls [.int y0]) := by
    intro h y0 hF H locs ls hP hD hS hl
    unfold f_X6_hasLaw_3_24 at hF
    obtain ⟨hz_5, hF⟩ := ob_if hF
    obtain ⟨rfl, rfl⟩ := ob_pair hF
    exact gw_zret () hx hb hr hlocks (gz hz_5) hP hD hS rfl dX6_hasLaw_24
  have hJ_23 : ∀ (h : HS), f_X6_hasLaw_3_23 h = some (rr, hh) → ∀ (H : Heap) (locs : List Loc) (ls : Array Slot), va_P G vwCl (wC q cI cJ cZ cB cT h) H → va_D A (wC q cI cJ cZ cB cT h) → va_S A s.heap H locs → lv_has ls 2 [] → W p l e (gRm 1) s m args below meth c H locs 0 0 (MQ below (va_Qi (fun x (_ : Unit) => x = rr) (gB G (fun (_ : Unit) => (wC q cI cJ cZ cB cT hh)) A) A) args s 0 0 A) (F0 m 23 ls []) := by
    intro h hF H locs ls hP hD hS hl
    unfold f_X6_hasLaw_3_23 at hF
    refine lv_iconst (v := 0) hx hb dX6_hasLaw_23 (by decide) ?_
    exact hJ_24 h 0 hF H _ ls hP hD hS (lv_sub hl [] rfl)
  unfold f_X6_hasLaw_3 at hF
  refine lv_iload_n hx hb dX6_hasLaw_0 rfl (lv_at hl 1 rfl) ?_
  refine lv_if_lt (tgt := 23) hx hb dX6_hasLaw_1 (by decide) (fun c_1 => ?_) (fun c_1 => ?_)
  · have hF := ob_pos c_1 hF
    exact hJ_23 h hF H _ ls hP hD hS (lv_sub hl [] rfl)
  · have hF := ob_neg c_1 hF
    refine lv_iload_n hx hb dX6_hasLaw_4 rfl (lv_at hl 1 rfl) ?_
    refine lv_iconst (v := 4) hx hb dX6_hasLaw_5 (by decide) ?_
    refine lv_icmp_ge (tgt := 23) hx hb dX6_hasLaw_6 (by decide) (fun c_2 => ?_) (fun c_2 => ?_)
    · have hF := ob_pos c_2 hF
      exact hJ_23 h hF H _ ls hP hD hS (lv_sub hl [] rfl)
    · have hF := ob_neg c_2 hF
      refine lv_aload_n hx hb dX6_hasLaw_9 rfl (lv_at hl 0 rfl) ?_
      refine va_get (D := G) (ci := 6) (v := .ref (q 50)) (C := RX6) (T := TX6) (N := 6) hx hb hts iX6 hown hK hP 47 wC_at47 rfl 3 (by decide) (hts _ m_461) (fun _ h9 => h9) rfl dX6_hasLaw_10 ?_
      refine lv_iload_n hx hb dX6_hasLaw_13 rfl (lv_at hl 1 rfl) ?_
      obtain ⟨hi_3, hF⟩ := ob_if hF
      refine va_iald (D := G) hx hb hK hP 50 0 wC_at50 rfl (vp_in_iff.mpr hi_3) dX6_hasLaw_14 ?_
      refine gw_topi (y := ((eA h 12 3) ((p1).toNatClampNeg))) rfl ?_
      refine lv_iconst (v := (-1)) hx hb dX6_hasLaw_15 (by decide) ?_
      refine lv_icmp_eq (tgt := 23) hx hb dX6_hasLaw_16 (by decide) (fun c_4 => ?_) (fun c_4 => ?_)
      · have hF := ob_pos c_4 hF
        exact hJ_23 h hF H _ ls hP hD hS (lv_sub hl [] rfl)
      · have hF := ob_neg c_4 hF
        refine lv_iconst (v := 1) hx hb dX6_hasLaw_19 (by decide) ?_
        refine lv_goto (tgt := 24) hx hb dX6_hasLaw_20 (by decide) ?_
        exact hJ_24 h 1 hF H _ ls hP hD hS (lv_sub hl [] rfl)
def f_X6_beginLaw_3_19 (h : HS) : Option HS := (some h)
def f_X6_beginLaw_3 (h : HS) (p1 : Int32) : Option HS := (if p1 < 0 then (f_X6_beginLaw_3_19 h) else (if 4 ≤ p1 then (f_X6_beginLaw_3_19 h) else (if 0 ≤ (p1).toInt ∧ (p1).toInt < 4 then (f_X6_beginLaw_3_19 (sA h 12 3 (upd (eA h 12 3) ((p1).toNatClampNeg) (eI h 12 5)))) else none)))
set_option maxHeartbeats 4000000 in
set_option maxRecDepth 100000 in
theorem c_X6_beginLaw_3 (l : Launch) (G : va_G) (cI cJ cZ cB cT : ClassId) (q : Nat → Nat) (h : HS) (p1 : Int32) (hh : HS) (hF : f_X6_beginLaw_3 h p1 = some hh) : gMv l yX6_beginLaw (gws yX6_beginLaw cX6_beginLaw 2 none) 1 G (gT cI cJ cZ cB cT) [.ref (q 47), .int p1] (wC q cI cJ cZ cB cT h) (fun (_ : Unit) => True) (fun (_ : Unit) => (wC q cI cJ cZ cB cT hh)) := by
  intro sz
  refine gM_start (y := yX6_beginLaw) (av := [.ref (q 47), .int p1]) (ws := (wC q cI cJ cZ cB cT h)) (Qf := fun A => va_Qv (fun (_ : Unit) => True) (gB G (fun (_ : Unit) => (wC q cI cJ cZ cB cT hh)) A) A) (cc := cX6_beginLaw) (maxL := 2) (ret := none) (by decide) (Nat.le_of_ble_eq_true rfl) ?_
  intro p e s m args below meth c A ls H hx hb hr hts hown hin hlocks hml hP hK hD hA hS hl hE
  have hl : lv_has ls 2 [(0, .ref (q 47)), (1, .int p1)] := hl
  have hJ_19 : ∀ (h : HS), f_X6_beginLaw_3_19 h = some hh → ∀ (H : Heap) (locs : List Loc) (ls : Array Slot), va_P G vwCl (wC q cI cJ cZ cB cT h) H → va_D A (wC q cI cJ cZ cB cT h) → va_S A s.heap H locs → lv_has ls 2 [] → W p l e (gRm 1) s m args below meth c H locs 0 0 (MQ below (va_Qv (fun (_ : Unit) => True) (gB G (fun (_ : Unit) => (wC q cI cJ cZ cB cT hh)) A) A) args s 0 0 A) (F0 m 19 ls []) := by
    intro h hF H locs ls hP hD hS hl
    unfold f_X6_beginLaw_3_19 at hF
    obtain rfl := ob_one hF
    exact gw_vret () hx hb hr hlocks hP hD hS trivial dX6_beginLaw_19
  unfold f_X6_beginLaw_3 at hF
  refine lv_iload_n hx hb dX6_beginLaw_0 rfl (lv_at hl 1 rfl) ?_
  refine lv_if_lt (tgt := 19) hx hb dX6_beginLaw_1 (by decide) (fun c_1 => ?_) (fun c_1 => ?_)
  · have hF := ob_pos c_1 hF
    exact hJ_19 h hF H _ ls hP hD hS (lv_sub hl [] rfl)
  · have hF := ob_neg c_1 hF
    refine lv_iload_n hx hb dX6_beginLaw_4 rfl (lv_at hl 1 rfl) ?_
    refine lv_iconst (v := 4) hx hb dX6_beginLaw_5 (by decide) ?_
    refine lv_icmp_ge (tgt := 19) hx hb dX6_beginLaw_6 (by decide) (fun c_2 => ?_) (fun c_2 => ?_)
    · have hF := ob_pos c_2 hF
      exact hJ_19 h hF H _ ls hP hD hS (lv_sub hl [] rfl)
    · have hF := ob_neg c_2 hF
      refine lv_aload_n hx hb dX6_beginLaw_9 rfl (lv_at hl 0 rfl) ?_
      refine va_get (D := G) (ci := 6) (v := .ref (q 50)) (C := RX6) (T := TX6) (N := 6) hx hb hts iX6 hown hK hP 47 wC_at47 rfl 3 (by decide) (hts _ m_461) (fun _ h9 => h9) rfl dX6_beginLaw_10 ?_
      refine lv_iload_n hx hb dX6_beginLaw_13 rfl (lv_at hl 1 rfl) ?_
      refine lv_aload_n hx hb dX6_beginLaw_14 rfl (lv_at hl 0 rfl) ?_
      refine va_get (D := G) (ci := 6) (v := .int (eI h 12 5)) (C := RX6) (T := TX6) (N := 6) hx hb hts iX6 hown hK hP 47 wC_at47 rfl 5 (by decide) (hts _ m_460) (fun _ h9 => h9) rfl dX6_beginLaw_15 ?_
      obtain ⟨hi_3, hF⟩ := ob_if hF
      refine va_iast (D := G) hx hb hK hP hD hS 50 0 wC_at50 rfl (vp_in_iff.mpr hi_3) dX6_beginLaw_18 (fun H locs hP hD hS => ?_)
      rw [wC_sA50] at hP hD
      have hP : va_P G vwCl (wC q cI cJ cZ cB cT (sA h 12 3 (upd (eA h 12 3) ((p1).toNatClampNeg) (eI h 12 5)))) H := hP
      have hD : va_D A (wC q cI cJ cZ cB cT (sA h 12 3 (upd (eA h 12 3) ((p1).toNatClampNeg) (eI h 12 5)))) := hD
      exact hJ_19 (sA h 12 3 (upd (eA h 12 3) ((p1).toNatClampNeg) (eI h 12 5))) hF H _ ls hP hD hS (lv_sub hl [] rfl)
def f_X6_closeLaw_3_19 (h : HS) : Option HS := (some h)
def f_X6_closeLaw_3 (h : HS) (p1 : Int32) : Option HS := (if p1 < 0 then (f_X6_closeLaw_3_19 h) else (if 4 ≤ p1 then (f_X6_closeLaw_3_19 h) else (if 0 ≤ (p1).toInt ∧ (p1).toInt < 4 then (f_X6_closeLaw_3_19 (sA h 12 4 (upd (eA h 12 4) ((p1).toNatClampNeg) (eI h 12 5)))) else none)))
set_option maxHeartbeats 4000000 in
set_option maxRecDepth 100000 in
theorem c_X6_closeLaw_3 (l : Launch) (G : va_G) (cI cJ cZ cB cT : ClassId) (q : Nat → Nat) (h : HS) (p1 : Int32) (hh : HS) (hF : f_X6_closeLaw_3 h p1 = some hh) : gMv l yX6_closeLaw (gws yX6_closeLaw cX6_closeLaw 2 none) 1 G (gT cI cJ cZ cB cT) [.ref (q 47), .int p1] (wC q cI cJ cZ cB cT h) (fun (_ : Unit) => True) (fun (_ : Unit) => (wC q cI cJ cZ cB cT hh)) := by
  intro sz
  refine gM_start (y := yX6_closeLaw) (av := [.ref (q 47), .int p1]) (ws := (wC q cI cJ cZ cB cT h)) (Qf := fun A => va_Qv (fun (_ : Unit) => True) (gB G (fun (_ : Unit) => (wC q cI cJ cZ cB cT hh)) A) A) (cc := cX6_closeLaw) (maxL := 2) (ret := none) (by decide) (Nat.le_of_ble_eq_true rfl) ?_
  intro p e s m args below meth c A ls H hx hb hr hts hown hin hlocks hml hP hK hD hA hS hl hE
  have hl : lv_has ls 2 [(0, .ref (q 47)), (1, .int p1)] := hl
  have hJ_19 : ∀ (h : HS), f_X6_closeLaw_3_19 h = some hh → ∀ (H : Heap) (locs : List Loc) (ls : Array Slot), va_P G vwCl (wC q cI cJ cZ cB cT h) H → va_D A (wC q cI cJ cZ cB cT h) → va_S A s.heap H locs → lv_has ls 2 [] → W p l e (gRm 1) s m args below meth c H locs 0 0 (MQ below (va_Qv (fun (_ : Unit) => True) (gB G (fun (_ : Unit) => (wC q cI cJ cZ cB cT hh)) A) A) args s 0 0 A) (F0 m 19 ls []) := by
    intro h hF H locs ls hP hD hS hl
    unfold f_X6_closeLaw_3_19 at hF
    obtain rfl := ob_one hF
    exact gw_vret () hx hb hr hlocks hP hD hS trivial dX6_closeLaw_19
  unfold f_X6_closeLaw_3 at hF
  refine lv_iload_n hx hb dX6_closeLaw_0 rfl (lv_at hl 1 rfl) ?_
  refine lv_if_lt (tgt := 19) hx hb dX6_closeLaw_1 (by decide) (fun c_1 => ?_) (fun c_1 => ?_)
  · have hF := ob_pos c_1 hF
    exact hJ_19 h hF H _ ls hP hD hS (lv_sub hl [] rfl)
  · have hF := ob_neg c_1 hF
    refine lv_iload_n hx hb dX6_closeLaw_4 rfl (lv_at hl 1 rfl) ?_
    refine lv_iconst (v := 4) hx hb dX6_closeLaw_5 (by decide) ?_
    refine lv_icmp_ge (tgt := 19) hx hb dX6_closeLaw_6 (by decide) (fun c_2 => ?_) (fun c_2 => ?_)
    · have hF := ob_pos c_2 hF
      exact hJ_19 h hF H _ ls hP hD hS (lv_sub hl [] rfl)
    · have hF := ob_neg c_2 hF
      refine lv_aload_n hx hb dX6_closeLaw_9 rfl (lv_at hl 0 rfl) ?_
      refine va_get (D := G) (ci := 6) (v := .ref (q 51)) (C := RX6) (T := TX6) (N := 6) hx hb hts iX6 hown hK hP 47 wC_at47 rfl 4 (by decide) (hts _ m_462) (fun _ h9 => h9) rfl dX6_closeLaw_10 ?_
      refine lv_iload_n hx hb dX6_closeLaw_13 rfl (lv_at hl 1 rfl) ?_
      refine lv_aload_n hx hb dX6_closeLaw_14 rfl (lv_at hl 0 rfl) ?_
      refine va_get (D := G) (ci := 6) (v := .int (eI h 12 5)) (C := RX6) (T := TX6) (N := 6) hx hb hts iX6 hown hK hP 47 wC_at47 rfl 5 (by decide) (hts _ m_460) (fun _ h9 => h9) rfl dX6_closeLaw_15 ?_
      obtain ⟨hi_3, hF⟩ := ob_if hF
      refine va_iast (D := G) hx hb hK hP hD hS 51 0 wC_at51 rfl (vp_in_iff.mpr hi_3) dX6_closeLaw_18 (fun H locs hP hD hS => ?_)
      rw [wC_sA51] at hP hD
      have hP : va_P G vwCl (wC q cI cJ cZ cB cT (sA h 12 4 (upd (eA h 12 4) ((p1).toNatClampNeg) (eI h 12 5)))) H := hP
      have hD : va_D A (wC q cI cJ cZ cB cT (sA h 12 4 (upd (eA h 12 4) ((p1).toNatClampNeg) (eI h 12 5)))) := hD
      exact hJ_19 (sA h 12 4 (upd (eA h 12 4) ((p1).toNatClampNeg) (eI h 12 5))) hF H _ ls hP hD hS (lv_sub hl [] rfl)
def f_X6_firstStep_3_19 (h : HS) (y0 : Int32) : Option (Int32 × HS) := (some (y0, h))
def f_X6_firstStep_3_18 (h : HS) : Option (Int32 × HS) := (f_X6_firstStep_3_19 h 0)
def f_X6_firstStep_3 (h : HS) (p1 : Int32) : Option (Int32 × HS) := (if p1 < 0 then (f_X6_firstStep_3_18 h) else (if 4 ≤ p1 then (f_X6_firstStep_3_18 h) else (if 0 ≤ (p1).toInt ∧ (p1).toInt < 4 then (f_X6_firstStep_3_19 h ((eA h 12 3) ((p1).toNatClampNeg))) else none)))
set_option maxHeartbeats 4000000 in
set_option maxRecDepth 100000 in
theorem c_X6_firstStep_3 (l : Launch) (G : va_G) (cI cJ cZ cB cT : ClassId) (q : Nat → Nat) (h : HS) (p1 : Int32) (rr : Int32) (hh : HS) (hF : f_X6_firstStep_3 h p1 = some (rr, hh)) : gMi l yX6_firstStep (gws yX6_firstStep cX6_firstStep 2 (some .int)) 1 G (gT cI cJ cZ cB cT) [.ref (q 47), .int p1] (wC q cI cJ cZ cB cT h) (fun x (_ : Unit) => x = rr) (fun (_ : Unit) => (wC q cI cJ cZ cB cT hh)) := by
  intro sz
  refine gM_start (y := yX6_firstStep) (av := [.ref (q 47), .int p1]) (ws := (wC q cI cJ cZ cB cT h)) (Qf := fun A => va_Qi (fun x (_ : Unit) => x = rr) (gB G (fun (_ : Unit) => (wC q cI cJ cZ cB cT hh)) A) A) (cc := cX6_firstStep) (maxL := 2) (ret := (some .int)) (by decide) (Nat.le_of_ble_eq_true rfl) ?_
  intro p e s m args below meth c A ls H hx hb hr hts hown hin hlocks hml hP hK hD hA hS hl hE
  have hl : lv_has ls 2 [(0, .ref (q 47)), (1, .int p1)] := hl
  have hJ_19 : ∀ (h : HS) (y0 : Int32), f_X6_firstStep_3_19 h y0 = some (rr, hh) → ∀ (H : Heap) (locs : List Loc) (ls : Array Slot), va_P G vwCl (wC q cI cJ cZ cB cT h) H → va_D A (wC q cI cJ cZ cB cT h) → va_S A s.heap H locs → lv_has ls 2 [] → W p l e (gRm 1) s m args below meth c H locs 0 0 (MQ below (va_Qi (fun x (_ : Unit) => x = rr) (gB G (fun (_ : Unit) => (wC q cI cJ cZ cB cT hh)) A) A) args s 0 0 A) (F0 m 19 ls [.int y0]) := by
    intro h y0 hF H locs ls hP hD hS hl
    unfold f_X6_firstStep_3_19 at hF
    obtain ⟨rfl, rfl⟩ := ob_pair hF
    exact gw_iret () hx hb hr hlocks hP hD hS rfl dX6_firstStep_19
  have hJ_18 : ∀ (h : HS), f_X6_firstStep_3_18 h = some (rr, hh) → ∀ (H : Heap) (locs : List Loc) (ls : Array Slot), va_P G vwCl (wC q cI cJ cZ cB cT h) H → va_D A (wC q cI cJ cZ cB cT h) → va_S A s.heap H locs → lv_has ls 2 [] → W p l e (gRm 1) s m args below meth c H locs 0 0 (MQ below (va_Qi (fun x (_ : Unit) => x = rr) (gB G (fun (_ : Unit) => (wC q cI cJ cZ cB cT hh)) A) A) args s 0 0 A) (F0 m 18 ls []) := by
    intro h hF H locs ls hP hD hS hl
    unfold f_X6_firstStep_3_18 at hF
    refine lv_iconst (v := 0) hx hb dX6_firstStep_18 (by decide) ?_
    exact hJ_19 h 0 hF H _ ls hP hD hS (lv_sub hl [] rfl)
  unfold f_X6_firstStep_3 at hF
  refine lv_iload_n hx hb dX6_firstStep_0 rfl (lv_at hl 1 rfl) ?_
  refine lv_if_lt (tgt := 18) hx hb dX6_firstStep_1 (by decide) (fun c_1 => ?_) (fun c_1 => ?_)
  · have hF := ob_pos c_1 hF
    exact hJ_18 h hF H _ ls hP hD hS (lv_sub hl [] rfl)
  · have hF := ob_neg c_1 hF
    refine lv_iload_n hx hb dX6_firstStep_4 rfl (lv_at hl 1 rfl) ?_
    refine lv_iconst (v := 4) hx hb dX6_firstStep_5 (by decide) ?_
    refine lv_icmp_ge (tgt := 18) hx hb dX6_firstStep_6 (by decide) (fun c_2 => ?_) (fun c_2 => ?_)
    · have hF := ob_pos c_2 hF
      exact hJ_18 h hF H _ ls hP hD hS (lv_sub hl [] rfl)
    · have hF := ob_neg c_2 hF
      refine lv_aload_n hx hb dX6_firstStep_9 rfl (lv_at hl 0 rfl) ?_
      refine va_get (D := G) (ci := 6) (v := .ref (q 50)) (C := RX6) (T := TX6) (N := 6) hx hb hts iX6 hown hK hP 47 wC_at47 rfl 3 (by decide) (hts _ m_461) (fun _ h9 => h9) rfl dX6_firstStep_10 ?_
      refine lv_iload_n hx hb dX6_firstStep_13 rfl (lv_at hl 1 rfl) ?_
      obtain ⟨hi_3, hF⟩ := ob_if hF
      refine va_iald (D := G) hx hb hK hP 50 0 wC_at50 rfl (vp_in_iff.mpr hi_3) dX6_firstStep_14 ?_
      refine gw_topi (y := ((eA h 12 3) ((p1).toNatClampNeg))) rfl ?_
      refine lv_goto (tgt := 19) hx hb dX6_firstStep_15 (by decide) ?_
      exact hJ_19 h ((eA h 12 3) ((p1).toNatClampNeg)) hF H _ ls hP hD hS (lv_sub hl [] rfl)
def f_X6_stepsEnd_3_19 (h : HS) (y0 : Int32) : Option (Int32 × HS) := (some (y0, h))
def f_X6_stepsEnd_3_18 (h : HS) : Option (Int32 × HS) := (f_X6_stepsEnd_3_19 h 0)
def f_X6_stepsEnd_3 (h : HS) (p1 : Int32) : Option (Int32 × HS) := (if p1 < 0 then (f_X6_stepsEnd_3_18 h) else (if 4 ≤ p1 then (f_X6_stepsEnd_3_18 h) else (if 0 ≤ (p1).toInt ∧ (p1).toInt < 4 then (f_X6_stepsEnd_3_19 h ((eA h 12 4) ((p1).toNatClampNeg))) else none)))
set_option maxHeartbeats 4000000 in
set_option maxRecDepth 100000 in
theorem c_X6_stepsEnd_3 (l : Launch) (G : va_G) (cI cJ cZ cB cT : ClassId) (q : Nat → Nat) (h : HS) (p1 : Int32) (rr : Int32) (hh : HS) (hF : f_X6_stepsEnd_3 h p1 = some (rr, hh)) : gMi l yX6_stepsEnd (gws yX6_stepsEnd cX6_stepsEnd 2 (some .int)) 1 G (gT cI cJ cZ cB cT) [.ref (q 47), .int p1] (wC q cI cJ cZ cB cT h) (fun x (_ : Unit) => x = rr) (fun (_ : Unit) => (wC q cI cJ cZ cB cT hh)) := by
  intro sz
  refine gM_start (y := yX6_stepsEnd) (av := [.ref (q 47), .int p1]) (ws := (wC q cI cJ cZ cB cT h)) (Qf := fun A => va_Qi (fun x (_ : Unit) => x = rr) (gB G (fun (_ : Unit) => (wC q cI cJ cZ cB cT hh)) A) A) (cc := cX6_stepsEnd) (maxL := 2) (ret := (some .int)) (by decide) (Nat.le_of_ble_eq_true rfl) ?_
  intro p e s m args below meth c A ls H hx hb hr hts hown hin hlocks hml hP hK hD hA hS hl hE
  have hl : lv_has ls 2 [(0, .ref (q 47)), (1, .int p1)] := hl
  have hJ_19 : ∀ (h : HS) (y0 : Int32), f_X6_stepsEnd_3_19 h y0 = some (rr, hh) → ∀ (H : Heap) (locs : List Loc) (ls : Array Slot), va_P G vwCl (wC q cI cJ cZ cB cT h) H → va_D A (wC q cI cJ cZ cB cT h) → va_S A s.heap H locs → lv_has ls 2 [] → W p l e (gRm 1) s m args below meth c H locs 0 0 (MQ below (va_Qi (fun x (_ : Unit) => x = rr) (gB G (fun (_ : Unit) => (wC q cI cJ cZ cB cT hh)) A) A) args s 0 0 A) (F0 m 19 ls [.int y0]) := by
    intro h y0 hF H locs ls hP hD hS hl
    unfold f_X6_stepsEnd_3_19 at hF
    obtain ⟨rfl, rfl⟩ := ob_pair hF
    exact gw_iret () hx hb hr hlocks hP hD hS rfl dX6_stepsEnd_19
  have hJ_18 : ∀ (h : HS), f_X6_stepsEnd_3_18 h = some (rr, hh) → ∀ (H : Heap) (locs : List Loc) (ls : Array Slot), va_P G vwCl (wC q cI cJ cZ cB cT h) H → va_D A (wC q cI cJ cZ cB cT h) → va_S A s.heap H locs → lv_has ls 2 [] → W p l e (gRm 1) s m args below meth c H locs 0 0 (MQ below (va_Qi (fun x (_ : Unit) => x = rr) (gB G (fun (_ : Unit) => (wC q cI cJ cZ cB cT hh)) A) A) args s 0 0 A) (F0 m 18 ls []) := by
    intro h hF H locs ls hP hD hS hl
    unfold f_X6_stepsEnd_3_18 at hF
    refine lv_iconst (v := 0) hx hb dX6_stepsEnd_18 (by decide) ?_
    exact hJ_19 h 0 hF H _ ls hP hD hS (lv_sub hl [] rfl)
  unfold f_X6_stepsEnd_3 at hF
  refine lv_iload_n hx hb dX6_stepsEnd_0 rfl (lv_at hl 1 rfl) ?_
  refine lv_if_lt (tgt := 18) hx hb dX6_stepsEnd_1 (by decide) (fun c_1 => ?_) (fun c_1 => ?_)
  · have hF := ob_pos c_1 hF
    exact hJ_18 h hF H _ ls hP hD hS (lv_sub hl [] rfl)
  · have hF := ob_neg c_1 hF
    refine lv_iload_n hx hb dX6_stepsEnd_4 rfl (lv_at hl 1 rfl) ?_
    refine lv_iconst (v := 4) hx hb dX6_stepsEnd_5 (by decide) ?_
    refine lv_icmp_ge (tgt := 18) hx hb dX6_stepsEnd_6 (by decide) (fun c_2 => ?_) (fun c_2 => ?_)
    · have hF := ob_pos c_2 hF
      exact hJ_18 h hF H _ ls hP hD hS (lv_sub hl [] rfl)
    · have hF := ob_neg c_2 hF
      refine lv_aload_n hx hb dX6_stepsEnd_9 rfl (lv_at hl 0 rfl) ?_
      refine va_get (D := G) (ci := 6) (v := .ref (q 51)) (C := RX6) (T := TX6) (N := 6) hx hb hts iX6 hown hK hP 47 wC_at47 rfl 4 (by decide) (hts _ m_462) (fun _ h9 => h9) rfl dX6_stepsEnd_10 ?_
      refine lv_iload_n hx hb dX6_stepsEnd_13 rfl (lv_at hl 1 rfl) ?_
      obtain ⟨hi_3, hF⟩ := ob_if hF
      refine va_iald (D := G) hx hb hK hP 51 0 wC_at51 rfl (vp_in_iff.mpr hi_3) dX6_stepsEnd_14 ?_
      refine gw_topi (y := ((eA h 12 4) ((p1).toNatClampNeg))) rfl ?_
      refine lv_goto (tgt := 19) hx hb dX6_stepsEnd_15 (by decide) ?_
      exact hJ_19 h ((eA h 12 4) ((p1).toNatClampNeg)) hF H _ ls hP hD hS (lv_sub hl [] rfl)
def f_X6_addStep_3_32 (h : HS) : Option HS := (some h)
def f_X6_addStep_3 (h : HS) (p1 : Int32) : Option HS := (if 300 ≤ (eI h 12 5) then (f_X6_addStep_3_32 h) else (if 0 ≤ ((eI h 12 5)).toInt ∧ ((eI h 12 5)).toInt < 300 then (f_X6_addStep_3_32 (sI (sA h 12 2 (upd (eA h 12 2) (((eI h 12 5)).toNatClampNeg) p1)) 12 5 ((eI h 12 5) + 1))) else none))
set_option maxHeartbeats 4000000 in
set_option maxRecDepth 100000 in
theorem c_X6_addStep_3 (l : Launch) (G : va_G) (cI cJ cZ cB cT : ClassId) (q : Nat → Nat) (h : HS) (p1 : Int32) (hh : HS) (hF : f_X6_addStep_3 h p1 = some hh) : gMv l yX6_addStep (gws yX6_addStep cX6_addStep 2 none) 1 G (gT cI cJ cZ cB cT) [.ref (q 47), .int p1] (wC q cI cJ cZ cB cT h) (fun (_ : Unit) => True) (fun (_ : Unit) => (wC q cI cJ cZ cB cT hh)) := by
  intro sz
  refine gM_start (y := yX6_addStep) (av := [.ref (q 47), .int p1]) (ws := (wC q cI cJ cZ cB cT h)) (Qf := fun A => va_Qv (fun (_ : Unit) => True) (gB G (fun (_ : Unit) => (wC q cI cJ cZ cB cT hh)) A) A) (cc := cX6_addStep) (maxL := 2) (ret := none) (by decide) (Nat.le_of_ble_eq_true rfl) ?_
  intro p e s m args below meth c A ls H hx hb hr hts hown hin hlocks hml hP hK hD hA hS hl hE
  have hl : lv_has ls 2 [(0, .ref (q 47)), (1, .int p1)] := hl
  have hJ_32 : ∀ (h : HS), f_X6_addStep_3_32 h = some hh → ∀ (H : Heap) (locs : List Loc) (ls : Array Slot), va_P G vwCl (wC q cI cJ cZ cB cT h) H → va_D A (wC q cI cJ cZ cB cT h) → va_S A s.heap H locs → lv_has ls 2 [] → W p l e (gRm 1) s m args below meth c H locs 0 0 (MQ below (va_Qv (fun (_ : Unit) => True) (gB G (fun (_ : Unit) => (wC q cI cJ cZ cB cT hh)) A) A) args s 0 0 A) (F0 m 32 ls []) := by
    intro h hF H locs ls hP hD hS hl
    unfold f_X6_addStep_3_32 at hF
    obtain rfl := ob_one hF
    exact gw_vret () hx hb hr hlocks hP hD hS trivial dX6_addStep_32
  unfold f_X6_addStep_3 at hF
  refine lv_aload_n hx hb dX6_addStep_0 rfl (lv_at hl 0 rfl) ?_
  refine va_get (D := G) (ci := 6) (v := .int (eI h 12 5)) (C := RX6) (T := TX6) (N := 6) hx hb hts iX6 hown hK hP 47 wC_at47 rfl 5 (by decide) (hts _ m_460) (fun _ h9 => h9) rfl dX6_addStep_1 ?_
  refine lv_aload_n hx hb dX6_addStep_4 rfl (lv_at hl 0 rfl) ?_
  refine va_get (D := G) (ci := 6) (v := .ref (q 49)) (C := RX6) (T := TX6) (N := 6) hx hb hts iX6 hown hK hP 47 wC_at47 rfl 2 (by decide) (hts _ m_463) (fun _ h9 => h9) rfl dX6_addStep_5 ?_
  refine va_alen (D := G) hx hb hK hP 49 0 wC_at49 rfl (v := 300) rfl dX6_addStep_8 ?_
  refine lv_icmp_ge (tgt := 32) hx hb dX6_addStep_9 (by decide) (fun c_1 => ?_) (fun c_1 => ?_)
  · have hF := ob_pos c_1 hF
    exact hJ_32 h hF H _ ls hP hD hS (lv_sub hl [] rfl)
  · have hF := ob_neg c_1 hF
    refine lv_aload_n hx hb dX6_addStep_12 rfl (lv_at hl 0 rfl) ?_
    refine va_get (D := G) (ci := 6) (v := .ref (q 49)) (C := RX6) (T := TX6) (N := 6) hx hb hts iX6 hown hK hP 47 wC_at47 rfl 2 (by decide) (hts _ m_463) (fun _ h9 => h9) rfl dX6_addStep_13 ?_
    refine lv_aload_n hx hb dX6_addStep_16 rfl (lv_at hl 0 rfl) ?_
    refine va_get (D := G) (ci := 6) (v := .int (eI h 12 5)) (C := RX6) (T := TX6) (N := 6) hx hb hts iX6 hown hK hP 47 wC_at47 rfl 5 (by decide) (hts _ m_460) (fun _ h9 => h9) rfl dX6_addStep_17 ?_
    refine lv_iload_n hx hb dX6_addStep_20 rfl (lv_at hl 1 rfl) ?_
    obtain ⟨hi_2, hF⟩ := ob_if hF
    refine va_iast (D := G) hx hb hK hP hD hS 49 0 wC_at49 rfl (vp_in_iff.mpr hi_2) dX6_addStep_21 (fun H locs hP hD hS => ?_)
    rw [wC_sA49] at hP hD
    have hP : va_P G vwCl (wC q cI cJ cZ cB cT (sA h 12 2 (upd (eA h 12 2) (((eI h 12 5)).toNatClampNeg) p1))) H := hP
    have hD : va_D A (wC q cI cJ cZ cB cT (sA h 12 2 (upd (eA h 12 2) (((eI h 12 5)).toNatClampNeg) p1))) := hD
    refine lv_aload_n hx hb dX6_addStep_22 rfl (lv_at hl 0 rfl) ?_
    refine lv_dup hx hb dX6_addStep_23 rfl ?_
    refine va_get (D := G) (ci := 6) (v := .int (eI h 12 5)) (C := RX6) (T := TX6) (N := 6) hx hb hts iX6 hown hK hP 47 wC_at47 rfl 5 (by decide) (hts _ m_460) (fun _ h9 => h9) rfl dX6_addStep_24 ?_
    refine lv_iconst (v := 1) hx hb dX6_addStep_27 (by decide) ?_
    refine lv_iadd hx hb dX6_addStep_28 ?_
    refine va_put (D := G) (ci := 6) (v := .int ((eI h 12 5) + 1)) (ty := .int) (C := RX6) (T := TX6) (N := 6) hx hb hts iX6 tyX6 tyX6_ok nmX6 hown hK hP hD hS 47 wC_at47 rfl 5 (by decide) (hts _ m_460) (fun _ h9 => h9) rfl (tyX6_ok 5 (by decide)) rfl rfl (Nat.le_of_ble_eq_true rfl) dX6_addStep_29 (fun H locs hP hD hS => ?_)
    rw [wC_sI47_5] at hP hD
    exact hJ_32 (sI (sA h 12 2 (upd (eA h 12 2) (((eI h 12 5)).toNatClampNeg) p1)) 12 5 ((eI h 12 5) + 1)) hF H _ ls hP hD hS (lv_sub hl [] rfl)
def f_X6_stepAt_3_31 (h : HS) (y0 : Int32) : Option (Int32 × HS) := (some (y0, h))
def f_X6_stepAt_3_30 (h : HS) : Option (Int32 × HS) := (f_X6_stepAt_3_31 h 0)
def f_X6_stepAt_3 (h : HS) (p1 : Int32) : Option (Int32 × HS) := (if p1 < 0 then (f_X6_stepAt_3_30 h) else (if (eI h 12 5) ≤ p1 then (f_X6_stepAt_3_30 h) else (if 300 ≤ p1 then (f_X6_stepAt_3_30 h) else (if 0 ≤ (p1).toInt ∧ (p1).toInt < 300 then (f_X6_stepAt_3_31 h ((eA h 12 2) ((p1).toNatClampNeg))) else none))))
set_option maxHeartbeats 4000000 in
set_option maxRecDepth 100000 in
theorem c_X6_stepAt_3 (l : Launch) (G : va_G) (cI cJ cZ cB cT : ClassId) (q : Nat → Nat) (h : HS) (p1 : Int32) (rr : Int32) (hh : HS) (hF : f_X6_stepAt_3 h p1 = some (rr, hh)) : gMi l yX6_stepAt (gws yX6_stepAt cX6_stepAt 2 (some .int)) 1 G (gT cI cJ cZ cB cT) [.ref (q 47), .int p1] (wC q cI cJ cZ cB cT h) (fun x (_ : Unit) => x = rr) (fun (_ : Unit) => (wC q cI cJ cZ cB cT hh)) := by
  intro sz
  refine gM_start (y := yX6_stepAt) (av := [.ref (q 47), .int p1]) (ws := (wC q cI cJ cZ cB cT h)) (Qf := fun A => va_Qi (fun x (_ : Unit) => x = rr) (gB G (fun (_ : Unit) => (wC q cI cJ cZ cB cT hh)) A) A) (cc := cX6_stepAt) (maxL := 2) (ret := (some .int)) (by decide) (Nat.le_of_ble_eq_true rfl) ?_
  intro p e s m args below meth c A ls H hx hb hr hts hown hin hlocks hml hP hK hD hA hS hl hE
  have hl : lv_has ls 2 [(0, .ref (q 47)), (1, .int p1)] := hl
  have hJ_31 : ∀ (h : HS) (y0 : Int32), f_X6_stepAt_3_31 h y0 = some (rr, hh) → ∀ (H : Heap) (locs : List Loc) (ls : Array Slot), va_P G vwCl (wC q cI cJ cZ cB cT h) H → va_D A (wC q cI cJ cZ cB cT h) → va_S A s.heap H locs → lv_has ls 2 [] → W p l e (gRm 1) s m args below meth c H locs 0 0 (MQ below (va_Qi (fun x (_ : Unit) => x = rr) (gB G (fun (_ : Unit) => (wC q cI cJ cZ cB cT hh)) A) A) args s 0 0 A) (F0 m 31 ls [.int y0]) := by
    intro h y0 hF H locs ls hP hD hS hl
    unfold f_X6_stepAt_3_31 at hF
    obtain ⟨rfl, rfl⟩ := ob_pair hF
    exact gw_iret () hx hb hr hlocks hP hD hS rfl dX6_stepAt_31
  have hJ_30 : ∀ (h : HS), f_X6_stepAt_3_30 h = some (rr, hh) → ∀ (H : Heap) (locs : List Loc) (ls : Array Slot), va_P G vwCl (wC q cI cJ cZ cB cT h) H → va_D A (wC q cI cJ cZ cB cT h) → va_S A s.heap H locs → lv_has ls 2 [] → W p l e (gRm 1) s m args below meth c H locs 0 0 (MQ below (va_Qi (fun x (_ : Unit) => x = rr) (gB G (fun (_ : Unit) => (wC q cI cJ cZ cB cT hh)) A) A) args s 0 0 A) (F0 m 30 ls []) := by
    intro h hF H locs ls hP hD hS hl
    unfold f_X6_stepAt_3_30 at hF
    refine lv_iconst (v := 0) hx hb dX6_stepAt_30 (by decide) ?_
    exact hJ_31 h 0 hF H _ ls hP hD hS (lv_sub hl [] rfl)
  unfold f_X6_stepAt_3 at hF
  refine lv_iload_n hx hb dX6_stepAt_0 rfl (lv_at hl 1 rfl) ?_
  refine lv_if_lt (tgt := 30) hx hb dX6_stepAt_1 (by decide) (fun c_1 => ?_) (fun c_1 => ?_)
  · have hF := ob_pos c_1 hF
    exact hJ_30 h hF H _ ls hP hD hS (lv_sub hl [] rfl)
  · have hF := ob_neg c_1 hF
    refine lv_iload_n hx hb dX6_stepAt_4 rfl (lv_at hl 1 rfl) ?_
    refine lv_aload_n hx hb dX6_stepAt_5 rfl (lv_at hl 0 rfl) ?_
    refine va_get (D := G) (ci := 6) (v := .int (eI h 12 5)) (C := RX6) (T := TX6) (N := 6) hx hb hts iX6 hown hK hP 47 wC_at47 rfl 5 (by decide) (hts _ m_460) (fun _ h9 => h9) rfl dX6_stepAt_6 ?_
    refine lv_icmp_ge (tgt := 30) hx hb dX6_stepAt_9 (by decide) (fun c_2 => ?_) (fun c_2 => ?_)
    · have hF := ob_pos c_2 hF
      exact hJ_30 h hF H _ ls hP hD hS (lv_sub hl [] rfl)
    · have hF := ob_neg c_2 hF
      refine lv_iload_n hx hb dX6_stepAt_12 rfl (lv_at hl 1 rfl) ?_
      refine lv_aload_n hx hb dX6_stepAt_13 rfl (lv_at hl 0 rfl) ?_
      refine va_get (D := G) (ci := 6) (v := .ref (q 49)) (C := RX6) (T := TX6) (N := 6) hx hb hts iX6 hown hK hP 47 wC_at47 rfl 2 (by decide) (hts _ m_463) (fun _ h9 => h9) rfl dX6_stepAt_14 ?_
      refine va_alen (D := G) hx hb hK hP 49 0 wC_at49 rfl (v := 300) rfl dX6_stepAt_17 ?_
      refine lv_icmp_ge (tgt := 30) hx hb dX6_stepAt_18 (by decide) (fun c_3 => ?_) (fun c_3 => ?_)
      · have hF := ob_pos c_3 hF
        exact hJ_30 h hF H _ ls hP hD hS (lv_sub hl [] rfl)
      · have hF := ob_neg c_3 hF
        refine lv_aload_n hx hb dX6_stepAt_21 rfl (lv_at hl 0 rfl) ?_
        refine va_get (D := G) (ci := 6) (v := .ref (q 49)) (C := RX6) (T := TX6) (N := 6) hx hb hts iX6 hown hK hP 47 wC_at47 rfl 2 (by decide) (hts _ m_463) (fun _ h9 => h9) rfl dX6_stepAt_22 ?_
        refine lv_iload_n hx hb dX6_stepAt_25 rfl (lv_at hl 1 rfl) ?_
        obtain ⟨hi_4, hF⟩ := ob_if hF
        refine va_iald (D := G) hx hb hK hP 49 0 wC_at49 rfl (vp_in_iff.mpr hi_4) dX6_stepAt_26 ?_
        refine gw_topi (y := ((eA h 12 2) ((p1).toNatClampNeg))) rfl ?_
        refine lv_goto (tgt := 31) hx hb dX6_stepAt_27 (by decide) ?_
        exact hJ_31 h ((eA h 12 2) ((p1).toNatClampNeg)) hF H _ ls hP hD hS (lv_sub hl [] rfl)
def f_X6_clauseField_3_19 (h : HS) : Option (Int32 × HS) := (some ((-1), h))
def f_X6_clauseField_3 (h : HS) (p1 : Int32) (p2 : Int32) : Option (Int32 × HS) := (if p1 < 0 then (f_X6_clauseField_3_19 h) else (if 24 ≤ p1 then (f_X6_clauseField_3_19 h) else (if p2 < 0 then (f_X6_clauseField_3_19 h) else (if p2 < 4 then (if 0 ≤ (((p1 * 4) + p2)).toInt ∧ (((p1 * 4) + p2)).toInt < 96 then (some (((eA h 12 0) ((((p1 * 4) + p2)).toNatClampNeg)), h)) else none) else (f_X6_clauseField_3_19 h)))))
set_option maxHeartbeats 4000000 in
set_option maxRecDepth 100000 in
theorem c_X6_clauseField_3 (l : Launch) (G : va_G) (cI cJ cZ cB cT : ClassId) (q : Nat → Nat) (h : HS) (p1 : Int32) (p2 : Int32) (rr : Int32) (hh : HS) (hF : f_X6_clauseField_3 h p1 p2 = some (rr, hh)) : gMi l yX6_clauseField (gws yX6_clauseField cX6_clauseField 3 (some .int)) 1 G (gT cI cJ cZ cB cT) [.ref (q 47), .int p1, .int p2] (wC q cI cJ cZ cB cT h) (fun x (_ : Unit) => x = rr) (fun (_ : Unit) => (wC q cI cJ cZ cB cT hh)) := by
  intro sz
  refine gM_start (y := yX6_clauseField) (av := [.ref (q 47), .int p1, .int p2]) (ws := (wC q cI cJ cZ cB cT h)) (Qf := fun A => va_Qi (fun x (_ : Unit) => x = rr) (gB G (fun (_ : Unit) => (wC q cI cJ cZ cB cT hh)) A) A) (cc := cX6_clauseField) (maxL := 3) (ret := (some .int)) (by decide) (Nat.le_of_ble_eq_true rfl) ?_
  intro p e s m args below meth c A ls H hx hb hr hts hown hin hlocks hml hP hK hD hA hS hl hE
  have hl : lv_has ls 3 [(0, .ref (q 47)), (1, .int p1), (2, .int p2)] := hl
  have hJ_19 : ∀ (h : HS), f_X6_clauseField_3_19 h = some (rr, hh) → ∀ (H : Heap) (locs : List Loc) (ls : Array Slot), va_P G vwCl (wC q cI cJ cZ cB cT h) H → va_D A (wC q cI cJ cZ cB cT h) → va_S A s.heap H locs → lv_has ls 3 [] → W p l e (gRm 1) s m args below meth c H locs 0 0 (MQ below (va_Qi (fun x (_ : Unit) => x = rr) (gB G (fun (_ : Unit) => (wC q cI cJ cZ cB cT hh)) A) A) args s 0 0 A) (F0 m 19 ls []) := by
    intro h hF H locs ls hP hD hS hl
    unfold f_X6_clauseField_3_19 at hF
    refine lv_iconst (v := (-1)) hx hb dX6_clauseField_19 (by decide) ?_
    obtain ⟨rfl, rfl⟩ := ob_pair hF
    exact gw_iret () hx hb hr hlocks hP hD hS rfl dX6_clauseField_20
  unfold f_X6_clauseField_3 at hF
  refine lv_iload_n hx hb dX6_clauseField_0 rfl (lv_at hl 1 rfl) ?_
  refine lv_if_lt (tgt := 19) hx hb dX6_clauseField_1 (by decide) (fun c_1 => ?_) (fun c_1 => ?_)
  · have hF := ob_pos c_1 hF
    exact hJ_19 h hF H _ ls hP hD hS (lv_sub hl [] rfl)
  · have hF := ob_neg c_1 hF
    refine lv_iload_n hx hb dX6_clauseField_4 rfl (lv_at hl 1 rfl) ?_
    refine lv_bipush (v := 24) hx hb dX6_clauseField_5 (by decide) ?_
    refine lv_icmp_ge (tgt := 19) hx hb dX6_clauseField_7 (by decide) (fun c_2 => ?_) (fun c_2 => ?_)
    · have hF := ob_pos c_2 hF
      exact hJ_19 h hF H _ ls hP hD hS (lv_sub hl [] rfl)
    · have hF := ob_neg c_2 hF
      refine lv_iload_n hx hb dX6_clauseField_10 rfl (lv_at hl 2 rfl) ?_
      refine lv_if_lt (tgt := 19) hx hb dX6_clauseField_11 (by decide) (fun c_3 => ?_) (fun c_3 => ?_)
      · have hF := ob_pos c_3 hF
        exact hJ_19 h hF H _ ls hP hD hS (lv_sub hl [] rfl)
      · have hF := ob_neg c_3 hF
        refine lv_iload_n hx hb dX6_clauseField_14 rfl (lv_at hl 2 rfl) ?_
        refine lv_iconst (v := 4) hx hb dX6_clauseField_15 (by decide) ?_
        refine lv_icmp_lt (tgt := 21) hx hb dX6_clauseField_16 (by decide) (fun c_4 => ?_) (fun c_4 => ?_)
        · have hF := ob_pos c_4 hF
          refine lv_aload_n hx hb dX6_clauseField_21 rfl (lv_at hl 0 rfl) ?_
          refine va_get (D := G) (ci := 6) (v := .ref (q 48)) (C := RX6) (T := TX6) (N := 6) hx hb hts iX6 hown hK hP 47 wC_at47 rfl 0 (by decide) (hts _ m_464) (fun _ h9 => h9) rfl dX6_clauseField_22 ?_
          refine lv_iload_n hx hb dX6_clauseField_25 rfl (lv_at hl 1 rfl) ?_
          refine lv_iconst (v := 4) hx hb dX6_clauseField_26 (by decide) ?_
          refine lv_imul hx hb dX6_clauseField_27 ?_
          refine lv_iload_n hx hb dX6_clauseField_28 rfl (lv_at hl 2 rfl) ?_
          refine lv_iadd hx hb dX6_clauseField_29 ?_
          obtain ⟨hi_5, hF⟩ := ob_if hF
          refine va_iald (D := G) hx hb hK hP 48 0 wC_at48 rfl (vp_in_iff.mpr hi_5) dX6_clauseField_30 ?_
          refine gw_topi (y := ((eA h 12 0) ((((p1 * 4) + p2)).toNatClampNeg))) rfl ?_
          obtain ⟨rfl, rfl⟩ := ob_pair hF
          exact gw_iret () hx hb hr hlocks hP hD hS rfl dX6_clauseField_31
        · have hF := ob_neg c_4 hF
          exact hJ_19 h hF H _ ls hP hD hS (lv_sub hl [] rfl)
def f_X6_setClause_3_30 (h : HS) : Option HS := (some h)
def f_X6_setClause_3 (h : HS) (p1 : Int32) (p2 : Int32) (p3 : Int32) : Option HS := (if p1 < 0 then (f_X6_setClause_3_30 h) else (if 24 ≤ p1 then (f_X6_setClause_3_30 h) else (if p2 < 0 then (f_X6_setClause_3_30 h) else (if 4 ≤ p2 then (f_X6_setClause_3_30 h) else (if 0 ≤ (((p1 * 4) + p2)).toInt ∧ (((p1 * 4) + p2)).toInt < 96 then (f_X6_setClause_3_30 (sA h 12 0 (upd (eA h 12 0) ((((p1 * 4) + p2)).toNatClampNeg) p3))) else none)))))
set_option maxHeartbeats 4000000 in
set_option maxRecDepth 100000 in
theorem c_X6_setClause_3 (l : Launch) (G : va_G) (cI cJ cZ cB cT : ClassId) (q : Nat → Nat) (h : HS) (p1 : Int32) (p2 : Int32) (p3 : Int32) (hh : HS) (hF : f_X6_setClause_3 h p1 p2 p3 = some hh) : gMv l yX6_setClause (gws yX6_setClause cX6_setClause 4 none) 1 G (gT cI cJ cZ cB cT) [.ref (q 47), .int p1, .int p2, .int p3] (wC q cI cJ cZ cB cT h) (fun (_ : Unit) => True) (fun (_ : Unit) => (wC q cI cJ cZ cB cT hh)) := by
  intro sz
  refine gM_start (y := yX6_setClause) (av := [.ref (q 47), .int p1, .int p2, .int p3]) (ws := (wC q cI cJ cZ cB cT h)) (Qf := fun A => va_Qv (fun (_ : Unit) => True) (gB G (fun (_ : Unit) => (wC q cI cJ cZ cB cT hh)) A) A) (cc := cX6_setClause) (maxL := 4) (ret := none) (by decide) (Nat.le_of_ble_eq_true rfl) ?_
  intro p e s m args below meth c A ls H hx hb hr hts hown hin hlocks hml hP hK hD hA hS hl hE
  have hl : lv_has ls 4 [(0, .ref (q 47)), (1, .int p1), (2, .int p2), (3, .int p3)] := hl
  have hJ_30 : ∀ (h : HS), f_X6_setClause_3_30 h = some hh → ∀ (H : Heap) (locs : List Loc) (ls : Array Slot), va_P G vwCl (wC q cI cJ cZ cB cT h) H → va_D A (wC q cI cJ cZ cB cT h) → va_S A s.heap H locs → lv_has ls 4 [] → W p l e (gRm 1) s m args below meth c H locs 0 0 (MQ below (va_Qv (fun (_ : Unit) => True) (gB G (fun (_ : Unit) => (wC q cI cJ cZ cB cT hh)) A) A) args s 0 0 A) (F0 m 30 ls []) := by
    intro h hF H locs ls hP hD hS hl
    unfold f_X6_setClause_3_30 at hF
    obtain rfl := ob_one hF
    exact gw_vret () hx hb hr hlocks hP hD hS trivial dX6_setClause_30
  unfold f_X6_setClause_3 at hF
  refine lv_iload_n hx hb dX6_setClause_0 rfl (lv_at hl 1 rfl) ?_
  refine lv_if_lt (tgt := 30) hx hb dX6_setClause_1 (by decide) (fun c_1 => ?_) (fun c_1 => ?_)
  · have hF := ob_pos c_1 hF
    exact hJ_30 h hF H _ ls hP hD hS (lv_sub hl [] rfl)
  · have hF := ob_neg c_1 hF
    refine lv_iload_n hx hb dX6_setClause_4 rfl (lv_at hl 1 rfl) ?_
    refine lv_bipush (v := 24) hx hb dX6_setClause_5 (by decide) ?_
    refine lv_icmp_ge (tgt := 30) hx hb dX6_setClause_7 (by decide) (fun c_2 => ?_) (fun c_2 => ?_)
    · have hF := ob_pos c_2 hF
      exact hJ_30 h hF H _ ls hP hD hS (lv_sub hl [] rfl)
    · have hF := ob_neg c_2 hF
      refine lv_iload_n hx hb dX6_setClause_10 rfl (lv_at hl 2 rfl) ?_
      refine lv_if_lt (tgt := 30) hx hb dX6_setClause_11 (by decide) (fun c_3 => ?_) (fun c_3 => ?_)
      · have hF := ob_pos c_3 hF
        exact hJ_30 h hF H _ ls hP hD hS (lv_sub hl [] rfl)
      · have hF := ob_neg c_3 hF
        refine lv_iload_n hx hb dX6_setClause_14 rfl (lv_at hl 2 rfl) ?_
        refine lv_iconst (v := 4) hx hb dX6_setClause_15 (by decide) ?_
        refine lv_icmp_ge (tgt := 30) hx hb dX6_setClause_16 (by decide) (fun c_4 => ?_) (fun c_4 => ?_)
        · have hF := ob_pos c_4 hF
          exact hJ_30 h hF H _ ls hP hD hS (lv_sub hl [] rfl)
        · have hF := ob_neg c_4 hF
          refine lv_aload_n hx hb dX6_setClause_19 rfl (lv_at hl 0 rfl) ?_
          refine va_get (D := G) (ci := 6) (v := .ref (q 48)) (C := RX6) (T := TX6) (N := 6) hx hb hts iX6 hown hK hP 47 wC_at47 rfl 0 (by decide) (hts _ m_464) (fun _ h9 => h9) rfl dX6_setClause_20 ?_
          refine lv_iload_n hx hb dX6_setClause_23 rfl (lv_at hl 1 rfl) ?_
          refine lv_iconst (v := 4) hx hb dX6_setClause_24 (by decide) ?_
          refine lv_imul hx hb dX6_setClause_25 ?_
          refine lv_iload_n hx hb dX6_setClause_26 rfl (lv_at hl 2 rfl) ?_
          refine lv_iadd hx hb dX6_setClause_27 ?_
          refine lv_iload_n hx hb dX6_setClause_28 rfl (lv_at hl 3 rfl) ?_
          obtain ⟨hi_5, hF⟩ := ob_if hF
          refine va_iast (D := G) hx hb hK hP hD hS 48 0 wC_at48 rfl (vp_in_iff.mpr hi_5) dX6_setClause_29 (fun H locs hP hD hS => ?_)
          rw [wC_sA48] at hP hD
          have hP : va_P G vwCl (wC q cI cJ cZ cB cT (sA h 12 0 (upd (eA h 12 0) ((((p1 * 4) + p2)).toNatClampNeg) p3))) H := hP
          have hD : va_D A (wC q cI cJ cZ cB cT (sA h 12 0 (upd (eA h 12 0) ((((p1 * 4) + p2)).toNatClampNeg) p3))) := hD
          exact hJ_30 (sA h 12 0 (upd (eA h 12 0) ((((p1 * 4) + p2)).toNatClampNeg) p3)) hF H _ ls hP hD hS (lv_sub hl [] rfl)
