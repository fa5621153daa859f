def f_X9_copies_40 (k2 : HS → Int32 → Int32 → Option HS) (h : HS) (x1 : Int32) (x2 : Int32) : Option HS := (k2 h x1 (x2 + 1))
def f_X9_copies_2 : Nat → HS → Int32 → Int32 → Option HS
  | 0, _, _, _ => none
  | n + 1, h, x1, x2 => (if 1990 ≤ x2 then (some h) else (if x1 = 0 then (if 0 ≤ (x2).toInt ∧ (x2).toInt < 1990 then (if 0 ≤ (x2).toInt ∧ (x2).toInt < 1990 then (f_X9_copies_40 (f_X9_copies_2 n) (sA h 0 0 (upd (eA h 0 0) ((x2).toNatClampNeg) ((eA h 0 1) ((x2).toNatClampNeg)))) x1 x2) else none) else none) else (if 0 ≤ (x2).toInt ∧ (x2).toInt < 1990 then (if 0 ≤ (x2).toInt ∧ (x2).toInt < 1990 then (f_X9_copies_40 (f_X9_copies_2 n) (sA h 0 1 (upd (eA h 0 1) ((x2).toNatClampNeg) ((eA h 0 0) ((x2).toNatClampNeg)))) x1 x2) else none) else none)))
theorem f_X9_copies_2_s (n : Nat) (h : HS) (x1 : Int32) (x2 : Int32) : f_X9_copies_2 (n + 1) h x1 x2 = (if 1990 ≤ x2 then (some h) else (if x1 = 0 then (if 0 ≤ (x2).toInt ∧ (x2).toInt < 1990 then (if 0 ≤ (x2).toInt ∧ (x2).toInt < 1990 then (f_X9_copies_40 (f_X9_copies_2 n) (sA h 0 0 (upd (eA h 0 0) ((x2).toNatClampNeg) ((eA h 0 1) ((x2).toNatClampNeg)))) x1 x2) else none) else none) else (if 0 ≤ (x2).toInt ∧ (x2).toInt < 1990 then (if 0 ≤ (x2).toInt ∧ (x2).toInt < 1990 then (f_X9_copies_40 (f_X9_copies_2 n) (sA h 0 1 (upd (eA h 0 1) ((x2).toNatClampNeg) ((eA h 0 0) ((x2).toNatClampNeg)))) x1 x2) else none) else none))) := rfl
def f_X9_copies (h : HS) (p1 : Int32) : Option HS := (f_X9_copies_2 8589934592 h p1 0)
set_option maxHeartbeats 4000000 in
set_option maxRecDepth 100000 in
theorem c_X9_copies (l : Launch) (G : va_G) (cI cJ cZ cB cT : ClassId) (m0 : Nat) (r : Nat → Nat) (h : HS) (p1 : Int32) (hh : HS) (hF : f_X9_copies h p1 = some hh) : gMv l yX9_copies (gws yX9_copies cX9_copies 3 none) 1 G (gT cI cJ cZ cB cT) [.ref m0, .int p1] (wM m0 r cI cJ cZ cB cT h) (fun (_ : Unit) => True) (fun (_ : Unit) => (wM m0 r cI cJ cZ cB cT hh)) := by
  intro sz
  refine gM_start (y := yX9_copies) (av := [.ref m0, .int p1]) (ws := (wM m0 r cI cJ cZ cB cT h)) (Qf := fun A => va_Qv (fun (_ : Unit) => True) (gB G (fun (_ : Unit) => (wM m0 r cI cJ cZ cB cT hh)) A) A) (cc := cX9_copies) (maxL := 3) (ret := none) (by decide) (Nat.le_of_ble_eq_true rfl) ?_
  intro p e s m args below meth c A ls H hx hb hr hts hown hin hlocks hml hP hK hD hA hS hl hE
  have hl : lv_has ls 3 [(0, .ref m0), (1, .int p1)] := hl
  have hJ_2 : ∀ (n_2 : Nat) (h : HS) (x1 : Int32) (x2 : Int32), f_X9_copies_2 n_2 h x1 x2 = some hh → ∀ (H : Heap) (locs : List Loc) (ls : Array Slot), va_P G vwCl (wM m0 r cI cJ cZ cB cT h) H → va_D A (wM m0 r cI cJ cZ cB cT h) → va_S A s.heap H locs → lv_has ls 3 [(0, .ref m0), (1, .int x1), (2, .int x2)] → W p l e (gRm 1) s m args below meth c H locs 0 0 (MQ below (va_Qv (fun (_ : Unit) => True) (gB G (fun (_ : Unit) => (wM m0 r cI cJ cZ cB cT hh)) A) A) args s 0 0 A) (F0 m 2 ls []) := by
    intro n_2
    induction n_2 with
    | zero =>
      intro h x1 x2 hF
      exact absurd hF (by simp [f_X9_copies_2])
    | succ n_2 ih_2 =>
      have hJ_40 : ∀ (h : HS) (x1 : Int32) (x2 : Int32), f_X9_copies_40 (f_X9_copies_2 n_2) h x1 x2 = some hh → ∀ (H : Heap) (locs : List Loc) (ls : Array Slot), va_P G vwCl (wM m0 r cI cJ cZ cB cT h) H → va_D A (wM m0 r cI cJ cZ cB cT h) → va_S A s.heap H locs → lv_has ls 3 [(0, .ref m0), (1, .int x1), (2, .int x2)] → W p l e (gRm 1) s m args below meth c H locs 0 0 (MQ below (va_Qv (fun (_ : Unit) => True) (gB G (fun (_ : Unit) => (wM m0 r cI cJ cZ cB cT hh)) A) A) args s 0 0 A) (F0 m 40 ls []) := by
        intro h x1 x2 hF H locs ls hP hD hS hl
        unfold f_X9_copies_40 at hF
        refine lv_iinc (v := (x2 + 1)) (lv' := [(2, .int (x2 + 1)), (0, .ref m0), (1, .int x1)]) hx hb dX9_copies_40 hl (k := 2) rfl rfl (by decide) rfl (fun ls hl => ?_)
        refine lv_goto (tgt := 2) hx hb dX9_copies_43 (by decide) ?_
        exact ih_2 h x1 (x2 + 1) hF H _ ls hP hD hS (lv_sub hl [1, 2, 0] rfl)
      intro h x1 x2 hF H locs ls hP hD hS hl
      rw [f_X9_copies_2_s] at hF
      refine lv_iload_n hx hb dX9_copies_2 rfl (lv_at hl 2 rfl) ?_
      refine lv_sipush (v := 1990) hx hb dX9_copies_3 (by decide) ?_
      refine lv_icmp_ge (tgt := 46) hx hb dX9_copies_6 (by decide) (fun c_1 => ?_) (fun c_1 => ?_)
      · have hF := ob_pos c_1 hF
        obtain rfl := ob_one hF
        exact gw_vret () hx hb hr hlocks hP hD hS trivial dX9_copies_46
      · have hF := ob_neg c_1 hF
        refine lv_iload_n hx hb dX9_copies_9 rfl (lv_at hl 1 rfl) ?_
        refine lv_if_eq (tgt := 28) hx hb dX9_copies_10 (by decide) (fun c_2 => ?_) (fun c_2 => ?_)
        · have hF := ob_pos c_2 hF
          refine lv_aload_n hx hb dX9_copies_28 rfl (lv_at hl 0 rfl) ?_
          refine va_get (D := G) (ci := 9) (v := .ref (r 0)) (C := RX9) (T := TX9) (N := 53) hx hb hts iX9 hown hK hP 0 wM_at0 rfl 0 (by decide) (hts _ m_92) (fun _ h9 => h9) rfl dX9_copies_29 ?_
          refine lv_iload_n hx hb dX9_copies_32 rfl (lv_at hl 2 rfl) ?_
          refine lv_aload_n hx hb dX9_copies_33 rfl (lv_at hl 0 rfl) ?_
          refine va_get (D := G) (ci := 9) (v := .ref (r 1)) (C := RX9) (T := TX9) (N := 53) hx hb hts iX9 hown hK hP 0 wM_at0 rfl 1 (by decide) (hts _ m_93) (fun _ h9 => h9) rfl dX9_copies_34 ?_
          refine lv_iload_n hx hb dX9_copies_37 rfl (lv_at hl 2 rfl) ?_
          obtain ⟨hi_3, hF⟩ := ob_if hF
          refine va_iald (D := G) hx hb hK hP 2 0 wM_at2 rfl (vp_in_iff.mpr hi_3) dX9_copies_38 ?_
          refine gw_topi (y := ((eA h 0 1) ((x2).toNatClampNeg))) rfl ?_
          obtain ⟨hi_4, hF⟩ := ob_if hF
          refine va_iast (D := G) hx hb hK hP hD hS 1 0 wM_at1 rfl (vp_in_iff.mpr hi_4) dX9_copies_39 (fun H locs hP hD hS => ?_)
          rw [wM_sA1] at hP hD
          have hP : va_P G vwCl (wM m0 r cI cJ cZ cB cT (sA h 0 0 (upd (eA h 0 0) ((x2).toNatClampNeg) ((eA h 0 1) ((x2).toNatClampNeg))))) H := hP
          have hD : va_D A (wM m0 r cI cJ cZ cB cT (sA h 0 0 (upd (eA h 0 0) ((x2).toNatClampNeg) ((eA h 0 1) ((x2).toNatClampNeg))))) := hD
          exact hJ_40 (sA h 0 0 (upd (eA h 0 0) ((x2).toNatClampNeg) ((eA h 0 1) ((x2).toNatClampNeg)))) x1 x2 hF H _ ls hP hD hS (lv_sub hl [0, 1, 2] rfl)
        · have hF := ob_neg c_2 hF
          refine lv_aload_n hx hb dX9_copies_13 rfl (lv_at hl 0 rfl) ?_
          refine va_get (D := G) (ci := 9) (v := .ref (r 1)) (C := RX9) (T := TX9) (N := 53) hx hb hts iX9 hown hK hP 0 wM_at0 rfl 1 (by decide) (hts _ m_93) (fun _ h9 => h9) rfl dX9_copies_14 ?_
          refine lv_iload_n hx hb dX9_copies_17 rfl (lv_at hl 2 rfl) ?_
          refine lv_aload_n hx hb dX9_copies_18 rfl (lv_at hl 0 rfl) ?_
          refine va_get (D := G) (ci := 9) (v := .ref (r 0)) (C := RX9) (T := TX9) (N := 53) hx hb hts iX9 hown hK hP 0 wM_at0 rfl 0 (by decide) (hts _ m_92) (fun _ h9 => h9) rfl dX9_copies_19 ?_
          refine lv_iload_n hx hb dX9_copies_22 rfl (lv_at hl 2 rfl) ?_
          obtain ⟨hi_5, hF⟩ := ob_if hF
          refine va_iald (D := G) hx hb hK hP 1 0 wM_at1 rfl (vp_in_iff.mpr hi_5) dX9_copies_23 ?_
          refine gw_topi (y := ((eA h 0 0) ((x2).toNatClampNeg))) rfl ?_
          obtain ⟨hi_6, hF⟩ := ob_if hF
          refine va_iast (D := G) hx hb hK hP hD hS 2 0 wM_at2 rfl (vp_in_iff.mpr hi_6) dX9_copies_24 (fun H locs hP hD hS => ?_)
          rw [wM_sA2] at hP hD
          have hP : va_P G vwCl (wM m0 r cI cJ cZ cB cT (sA h 0 1 (upd (eA h 0 1) ((x2).toNatClampNeg) ((eA h 0 0) ((x2).toNatClampNeg))))) H := hP
          have hD : va_D A (wM m0 r cI cJ cZ cB cT (sA h 0 1 (upd (eA h 0 1) ((x2).toNatClampNeg) ((eA h 0 0) ((x2).toNatClampNeg))))) := hD
          refine lv_goto (tgt := 40) hx hb dX9_copies_25 (by decide) ?_
          exact hJ_40 (sA h 0 1 (upd (eA h 0 1) ((x2).toNatClampNeg) ((eA h 0 0) ((x2).toNatClampNeg)))) x1 x2 hF H _ ls hP hD hS (lv_sub hl [0, 1, 2] rfl)
  unfold f_X9_copies at hF
  refine lv_iconst (v := 0) hx hb dX9_copies_0 (by decide) ?_
  refine lv_istore_n (lv' := [(2, .int 0), (0, .ref m0), (1, .int p1)]) hx hb dX9_copies_1 rfl hl (by decide) rfl (fun ls hl => ?_)
  exact hJ_2 8589934592 h p1 0 hF H _ ls hP hD hS (lv_sub hl [1, 2, 0] rfl)
def f_X9_isMarket (h : HS) (p1 : Int32) : Option (Int32 × HS) := (ob1 (f_X9_in p1 0 (((eA h 0 0) 0) - 1)) (fun r_1 => (if r_1 = 0 ∨ r_1 = 1 then (some (r_1, h)) else none)))
set_option maxHeartbeats 4000000 in
set_option maxRecDepth 100000 in
theorem c_X9_isMarket (l : Launch) (G : va_G) (cI cJ cZ cB cT : ClassId) (m0 : Nat) (r : Nat → Nat) (h : HS) (p1 : Int32) (rr : Int32) (hh : HS) (hF : f_X9_isMarket h p1 = some (rr, hh)) : gMi l yX9_isMarket (gws yX9_isMarket cX9_isMarket 2 (some .boolean)) 2 G (gT cI cJ cZ cB cT) [.ref m0, .int p1] (wM m0 r cI cJ cZ cB cT h) (fun x (_ : Unit) => x = rr) (fun (_ : Unit) => (wM m0 r cI cJ cZ cB cT hh)) := by
  intro sz
  refine gM_start (y := yX9_isMarket) (av := [.ref m0, .int p1]) (ws := (wM m0 r cI cJ cZ cB cT h)) (Qf := fun A => va_Qi (fun x (_ : Unit) => x = rr) (gB G (fun (_ : Unit) => (wM m0 r cI cJ cZ cB cT hh)) A) A) (cc := cX9_isMarket) (maxL := 2) (ret := (some .boolean)) (by decide) (Nat.le_of_ble_eq_true rfl) ?_
  intro p e s m args below meth c A ls H hx hb hr hts hown hin hlocks hml hP hK hD hA hS hl hE
  have hl : lv_has ls 2 [(0, .ref m0), (1, .int p1)] := hl
  unfold f_X9_isMarket at hF
  refine lv_iload_n hx hb dX9_isMarket_0 rfl (lv_at hl 1 rfl) ?_
  refine lv_iconst (v := 0) hx hb dX9_isMarket_1 (by decide) ?_
  refine lv_aload_n hx hb dX9_isMarket_2 rfl (lv_at hl 0 rfl) ?_
  refine va_get (D := G) (ci := 9) (v := .ref (r 0)) (C := RX9) (T := TX9) (N := 53) hx hb hts iX9 hown hK hP 0 wM_at0 rfl 0 (by decide) (hts _ m_92) (fun _ h9 => h9) rfl dX9_isMarket_3 ?_
  refine lv_iconst (v := 0) hx hb dX9_isMarket_6 (by decide) ?_
  refine va_iald (D := G) hx hb hK hP 1 0 wM_at1 rfl (vp_in_nI (n := 0) (by decide) (by decide)) dX9_isMarket_7 ?_
  refine gw_topi (y := ((eA h 0 0) 0)) rfl ?_
  refine lv_iconst (v := 1) hx hb dX9_isMarket_8 (by decide) ?_
  refine lv_isub hx hb dX9_isMarket_9 ?_
  obtain ⟨r_1, e_1, hF⟩ := ob1_some hF
  refine gx_calli0 (gx_runS0 (As := [.int p1, .int 0, .int (((eA h 0 0) 0) - 1)]) (rest := []) ⟨hx, hb, hml, hown, hts⟩ (c_X9_in l G cI cJ cZ cB cT   p1 0 (((eA h 0 0) 0) - 1) r_1 e_1 H.size) (gG_S m_62 m_63 m_64 m_61) rfl e_X9_in ⟨Nat.le_of_ble_eq_true rfl, Nat.le_of_ble_eq_true rfl⟩ hK hE hS hA rfl hl.1 rfl (Nat.le_of_ble_eq_true rfl) dX9_isMarket_10 ⟨Nat.le_refl _, Nat.le_refl _⟩) hP hD hS hA (fun x_1 u_1 H locs hw_1 hP hD hS => ?_)
  subst x_1
  obtain ⟨hz_2, hF⟩ := ob_if hF
  obtain ⟨rfl, rfl⟩ := ob_pair hF
  exact gw_zret () hx hb hr hlocks (gz hz_2) hP hD hS rfl dX9_isMarket_13
def f_X9_isGoose (h : HS) (p1 : Int32) : Option (Int32 × HS) := (ob1 (f_X9_in p1 0 (((eA h 0 0) 1) - 1)) (fun r_1 => (if r_1 = 0 ∨ r_1 = 1 then (some (r_1, h)) else none)))
set_option maxHeartbeats 4000000 in
set_option maxRecDepth 100000 in
theorem c_X9_isGoose (l : Launch) (G : va_G) (cI cJ cZ cB cT : ClassId) (m0 : Nat) (r : Nat → Nat) (h : HS) (p1 : Int32) (rr : Int32) (hh : HS) (hF : f_X9_isGoose h p1 = some (rr, hh)) : gMi l yX9_isGoose (gws yX9_isGoose cX9_isGoose 2 (some .boolean)) 2 G (gT cI cJ cZ cB cT) [.ref m0, .int p1] (wM m0 r cI cJ cZ cB cT h) (fun x (_ : Unit) => x = rr) (fun (_ : Unit) => (wM m0 r cI cJ cZ cB cT hh)) := by
  intro sz
  refine gM_start (y := yX9_isGoose) (av := [.ref m0, .int p1]) (ws := (wM m0 r cI cJ cZ cB cT h)) (Qf := fun A => va_Qi (fun x (_ : Unit) => x = rr) (gB G (fun (_ : Unit) => (wM m0 r cI cJ cZ cB cT hh)) A) A) (cc := cX9_isGoose) (maxL := 2) (ret := (some .boolean)) (by decide) (Nat.le_of_ble_eq_true rfl) ?_
  intro p e s m args below meth c A ls H hx hb hr hts hown hin hlocks hml hP hK hD hA hS hl hE
  have hl : lv_has ls 2 [(0, .ref m0), (1, .int p1)] := hl
  unfold f_X9_isGoose at hF
  refine lv_iload_n hx hb dX9_isGoose_0 rfl (lv_at hl 1 rfl) ?_
  refine lv_iconst (v := 0) hx hb dX9_isGoose_1 (by decide) ?_
  refine lv_aload_n hx hb dX9_isGoose_2 rfl (lv_at hl 0 rfl) ?_
  refine va_get (D := G) (ci := 9) (v := .ref (r 0)) (C := RX9) (T := TX9) (N := 53) hx hb hts iX9 hown hK hP 0 wM_at0 rfl 0 (by decide) (hts _ m_92) (fun _ h9 => h9) rfl dX9_isGoose_3 ?_
  refine lv_iconst (v := 1) hx hb dX9_isGoose_6 (by decide) ?_
  refine va_iald (D := G) hx hb hK hP 1 0 wM_at1 rfl (vp_in_nI (n := 1) (by decide) (by decide)) dX9_isGoose_7 ?_
  refine gw_topi (y := ((eA h 0 0) 1)) rfl ?_
  refine lv_iconst (v := 1) hx hb dX9_isGoose_8 (by decide) ?_
  refine lv_isub hx hb dX9_isGoose_9 ?_
  obtain ⟨r_1, e_1, hF⟩ := ob1_some hF
  refine gx_calli0 (gx_runS0 (As := [.int p1, .int 0, .int (((eA h 0 0) 1) - 1)]) (rest := []) ⟨hx, hb, hml, hown, hts⟩ (c_X9_in l G cI cJ cZ cB cT   p1 0 (((eA h 0 0) 1) - 1) r_1 e_1 H.size) (gG_S m_62 m_63 m_64 m_61) rfl e_X9_in ⟨Nat.le_of_ble_eq_true rfl, Nat.le_of_ble_eq_true rfl⟩ hK hE hS hA rfl hl.1 rfl (Nat.le_of_ble_eq_true rfl) dX9_isGoose_10 ⟨Nat.le_refl _, Nat.le_refl _⟩) hP hD hS hA (fun x_1 u_1 H locs hw_1 hP hD hS => ?_)
  subst x_1
  obtain ⟨hz_2, hF⟩ := ob_if hF
  obtain ⟨rfl, rfl⟩ := ob_pair hF
  exact gw_zret () hx hb hr hlocks (gz hz_2) hP hD hS rfl dX9_isGoose_13
def f_X9_ofGoose (h : HS) (p1 : Int32) (p2 : Int32) : Option (Int32 × HS) := (if 0 ≤ (((30 + (9 * p1)) + p2)).toInt ∧ (((30 + (9 * p1)) + p2)).toInt < 1990 then (some (((eA h 0 0) ((((30 + (9 * p1)) + p2)).toNatClampNeg)), h)) else none)
set_option maxHeartbeats 4000000 in
set_option maxRecDepth 100000 in
theorem c_X9_ofGoose (l : Launch) (G : va_G) (cI cJ cZ cB cT : ClassId) (m0 : Nat) (r : Nat → Nat) (h : HS) (p1 : Int32) (p2 : Int32) (rr : Int32) (hh : HS) (hF : f_X9_ofGoose h p1 p2 = some (rr, hh)) : gMi l yX9_ofGoose (gws yX9_ofGoose cX9_ofGoose 3 (some .int)) 1 G (gT cI cJ cZ cB cT) [.ref m0, .int p1, .int p2] (wM m0 r cI cJ cZ cB cT h) (fun x (_ : Unit) => x = rr) (fun (_ : Unit) => (wM m0 r cI cJ cZ cB cT hh)) := by
  intro sz
  refine gM_start (y := yX9_ofGoose) (av := [.ref m0, .int p1, .int p2]) (ws := (wM m0 r cI cJ cZ cB cT h)) (Qf := fun A => va_Qi (fun x (_ : Unit) => x = rr) (gB G (fun (_ : Unit) => (wM m0 r cI cJ cZ cB cT hh)) A) A) (cc := cX9_ofGoose) (maxL := 3) (ret := (some .int)) (by decide) (Nat.le_of_ble_eq_true rfl) ?_
  intro p e s m args below meth c A ls H hx hb hr hts hown hin hlocks hml hP hK hD hA hS hl hE
  have hl : lv_has ls 3 [(0, .ref m0), (1, .int p1), (2, .int p2)] := hl
  unfold f_X9_ofGoose at hF
  refine lv_aload_n hx hb dX9_ofGoose_0 rfl (lv_at hl 0 rfl) ?_
  refine va_get (D := G) (ci := 9) (v := .ref (r 0)) (C := RX9) (T := TX9) (N := 53) hx hb hts iX9 hown hK hP 0 wM_at0 rfl 0 (by decide) (hts _ m_92) (fun _ h9 => h9) rfl dX9_ofGoose_1 ?_
  refine lv_bipush (v := 30) hx hb dX9_ofGoose_4 (by decide) ?_
  refine lv_bipush (v := 9) hx hb dX9_ofGoose_6 (by decide) ?_
  refine lv_iload_n hx hb dX9_ofGoose_8 rfl (lv_at hl 1 rfl) ?_
  refine lv_imul hx hb dX9_ofGoose_9 ?_
  refine lv_iadd hx hb dX9_ofGoose_10 ?_
  refine lv_iload_n hx hb dX9_ofGoose_11 rfl (lv_at hl 2 rfl) ?_
  refine lv_iadd hx hb dX9_ofGoose_12 ?_
  obtain ⟨hi_1, hF⟩ := ob_if hF
  refine va_iald (D := G) hx hb hK hP 1 0 wM_at1 rfl (vp_in_iff.mpr hi_1) dX9_ofGoose_13 ?_
  refine gw_topi (y := ((eA h 0 0) ((((30 + (9 * p1)) + p2)).toNatClampNeg))) rfl ?_
  obtain ⟨rfl, rfl⟩ := ob_pair hF
  exact gw_iret () hx hb hr hlocks hP hD hS rfl dX9_ofGoose_14
def f_X9_puts (h : HS) (p1 : Int32) (p2 : Int32) (p3 : Int32) : Option HS := (if 0 ≤ (((30 + (9 * p1)) + p2)).toInt ∧ (((30 + (9 * p1)) + p2)).toInt < 1990 then (some (sA h 0 0 (upd (eA h 0 0) ((((30 + (9 * p1)) + p2)).toNatClampNeg) p3))) else none)
set_option maxHeartbeats 4000000 in
set_option maxRecDepth 100000 in
theorem c_X9_puts (l : Launch) (G : va_G) (cI cJ cZ cB cT : ClassId) (m0 : Nat) (r : Nat → Nat) (h : HS) (p1 : Int32) (p2 : Int32) (p3 : Int32) (hh : HS) (hF : f_X9_puts h p1 p2 p3 = some hh) : gMv l yX9_puts (gws yX9_puts cX9_puts 4 none) 1 G (gT cI cJ cZ cB cT) [.ref m0, .int p1, .int p2, .int p3] (wM m0 r cI cJ cZ cB cT h) (fun (_ : Unit) => True) (fun (_ : Unit) => (wM m0 r cI cJ cZ cB cT hh)) := by
  intro sz
  refine gM_start (y := yX9_puts) (av := [.ref m0, .int p1, .int p2, .int p3]) (ws := (wM m0 r cI cJ cZ cB cT h)) (Qf := fun A => va_Qv (fun (_ : Unit) => True) (gB G (fun (_ : Unit) => (wM m0 r cI cJ cZ cB cT hh)) A) A) (cc := cX9_puts) (maxL := 4) (ret := none) (by decide) (Nat.le_of_ble_eq_true rfl) ?_
  intro p e s m args below meth c A ls H hx hb hr hts hown hin hlocks hml hP hK hD hA hS hl hE
  have hl : lv_has ls 4 [(0, .ref m0), (1, .int p1), (2, .int p2), (3, .int p3)] := hl
  unfold f_X9_puts at hF
  refine lv_aload_n hx hb dX9_puts_0 rfl (lv_at hl 0 rfl) ?_
  refine va_get (D := G) (ci := 9) (v := .ref (r 0)) (C := RX9) (T := TX9) (N := 53) hx hb hts iX9 hown hK hP 0 wM_at0 rfl 0 (by decide) (hts _ m_92) (fun _ h9 => h9) rfl dX9_puts_1 ?_
  refine lv_bipush (v := 30) hx hb dX9_puts_4 (by decide) ?_
  refine lv_bipush (v := 9) hx hb dX9_puts_6 (by decide) ?_
  refine lv_iload_n hx hb dX9_puts_8 rfl (lv_at hl 1 rfl) ?_
  refine lv_imul hx hb dX9_puts_9 ?_
  refine lv_iadd hx hb dX9_puts_10 ?_
  refine lv_iload_n hx hb dX9_puts_11 rfl (lv_at hl 2 rfl) ?_
  refine lv_iadd hx hb dX9_puts_12 ?_
  refine lv_iload_n hx hb dX9_puts_13 rfl (lv_at hl 3 rfl) ?_
  obtain ⟨hi_1, hF⟩ := ob_if hF
  refine va_iast (D := G) hx hb hK hP hD hS 1 0 wM_at1 rfl (vp_in_iff.mpr hi_1) dX9_puts_14 (fun H locs hP hD hS => ?_)
  rw [wM_sA1] at hP hD
  have hP : va_P G vwCl (wM m0 r cI cJ cZ cB cT (sA h 0 0 (upd (eA h 0 0) ((((30 + (9 * p1)) + p2)).toNatClampNeg) p3))) H := hP
  have hD : va_D A (wM m0 r cI cJ cZ cB cT (sA h 0 0 (upd (eA h 0 0) ((((30 + (9 * p1)) + p2)).toNatClampNeg) p3))) := hD
  obtain rfl := ob_one hF
  exact gw_vret () hx hb hr hlocks hP hD hS trivial dX9_puts_15
def f_X9_market_40 (h : HS) : Option (Int32 × HS) := (some ((-1), h))
def f_X9_market (h : HS) (p1 : Int32) (p2 : Int32) (p3 : Int32) : Option (Int32 × HS) := (ob1 (f_X9_in p1 1 9) (fun r_1 => (if r_1 = 0 then (f_X9_market_40 h) else (ob1 (f_X9_in p2 0 9) (fun r_3 => (if r_3 = 0 then (f_X9_market_40 h) else (ob1 (f_X9_in p3 0 9) (fun r_5 => (if r_5 = 0 then (f_X9_market_40 h) else (if ((eA h 0 0) 0) = 4 then (f_X9_market_40 h) else (if 0 ≤ ((10 + (3 * ((eA h 0 0) 0)))).toInt ∧ ((10 + (3 * ((eA h 0 0) 0)))).toInt < 1990 then (if 0 ≤ (((10 + (3 * ((eA h 0 0) 0))) + 1)).toInt ∧ (((10 + (3 * ((eA h 0 0) 0))) + 1)).toInt < 1990 then (if 0 ≤ (((10 + (3 * ((eA h 0 0) 0))) + 2)).toInt ∧ (((10 + (3 * ((eA h 0 0) 0))) + 2)).toInt < 1990 then (some ((((upd (upd (upd (upd (eA h 0 0) (((10 + (3 * ((eA h 0 0) 0)))).toNatClampNeg) p1) ((((10 + (3 * ((eA h 0 0) 0))) + 1)).toNatClampNeg) p2) ((((10 + (3 * ((eA h 0 0) 0))) + 2)).toNatClampNeg) p3) 0 (((upd (upd (upd (eA h 0 0) (((10 + (3 * ((eA h 0 0) 0)))).toNatClampNeg) p1) ((((10 + (3 * ((eA h 0 0) 0))) + 1)).toNatClampNeg) p2) ((((10 + (3 * ((eA h 0 0) 0))) + 2)).toNatClampNeg) p3) 0) + 1)) 0) - 1), (sA (sA (sA (sA h 0 0 (upd (eA h 0 0) (((10 + (3 * ((eA h 0 0) 0)))).toNatClampNeg) p1)) 0 0 (upd (upd (eA h 0 0) (((10 + (3 * ((eA h 0 0) 0)))).toNatClampNeg) p1) ((((10 + (3 * ((eA h 0 0) 0))) + 1)).toNatClampNeg) p2)) 0 0 (upd (upd (upd (eA h 0 0) (((10 + (3 * ((eA h 0 0) 0)))).toNatClampNeg) p1) ((((10 + (3 * ((eA h 0 0) 0))) + 1)).toNatClampNeg) p2) ((((10 + (3 * ((eA h 0 0) 0))) + 2)).toNatClampNeg) p3)) 0 0 (upd (upd (upd (upd (eA h 0 0) (((10 + (3 * ((eA h 0 0) 0)))).toNatClampNeg) p1) ((((10 + (3 * ((eA h 0 0) 0))) + 1)).toNatClampNeg) p2) ((((10 + (3 * ((eA h 0 0) 0))) + 2)).toNatClampNeg) p3) 0 (((upd (upd (upd (eA h 0 0) (((10 + (3 * ((eA h 0 0) 0)))).toNatClampNeg) p1) ((((10 + (3 * ((eA h 0 0) 0))) + 1)).toNatClampNeg) p2) ((((10 + (3 * ((eA h 0 0) 0))) + 2)).toNatClampNeg) p3) 0) + 1))))) else none) else none) else none)))))))))))
set_option maxHeartbeats 4000000 in
set_option maxRecDepth 100000 in
theorem c_X9_market (l : Launch) (G : va_G) (cI cJ cZ cB cT : ClassId) (m0 : Nat) (r : Nat → Nat) (h : HS) (p1 : Int32) (p2 : Int32) (p3 : Int32) (rr : Int32) (hh : HS) (hF : f_X9_market h p1 p2 p3 = some (rr, hh)) : gMi l yX9_market (gws yX9_market cX9_market 5 (some .int)) 2 G (gT cI cJ cZ cB cT) [.ref m0, .int p1, .int p2, .int p3] (wM m0 r cI cJ cZ cB cT h) (fun x (_ : Unit) => x = rr) (fun (_ : Unit) => (wM m0 r cI cJ cZ cB cT hh)) := by
  intro sz
  refine gM_start (y := yX9_market) (av := [.ref m0, .int p1, .int p2, .int p3]) (ws := (wM m0 r cI cJ cZ cB cT h)) (Qf := fun A => va_Qi (fun x (_ : Unit) => x = rr) (gB G (fun (_ : Unit) => (wM m0 r cI cJ cZ cB cT hh)) A) A) (cc := cX9_market) (maxL := 5) (ret := (some .int)) (by decide) (Nat.le_of_ble_eq_true rfl) ?_
  intro p e s m args below meth c A ls H hx hb hr hts hown hin hlocks hml hP hK hD hA hS hl hE
  have hl : lv_has ls 5 [(0, .ref m0), (1, .int p1), (2, .int p2), (3, .int p3)] := hl
  have hJ_40 : ∀ (h : HS), f_X9_market_40 h = some (rr, hh) → ∀ (H : Heap) (locs : List Loc) (ls : Array Slot), va_P G vwCl (wM m0 r cI cJ cZ cB cT h) H → va_D A (wM m0 r cI cJ cZ cB cT h) → va_S A s.heap H locs → lv_has ls 5 [] → W p l e (gRm 2) s m args below meth c H locs 0 0 (MQ below (va_Qi (fun x (_ : Unit) => x = rr) (gB G (fun (_ : Unit) => (wM m0 r cI cJ cZ cB cT hh)) A) A) args s 0 0 A) (F0 m 40 ls []) := by
    intro h hF H locs ls hP hD hS hl
    unfold f_X9_market_40 at hF
    refine lv_iconst (v := (-1)) hx hb dX9_market_40 (by decide) ?_
    obtain ⟨rfl, rfl⟩ := ob_pair hF
    exact gw_iret () hx hb hr hlocks hP hD hS rfl dX9_market_41
  unfold f_X9_market at hF
  refine lv_iload_n hx hb dX9_market_0 rfl (lv_at hl 1 rfl) ?_
  refine lv_iconst (v := 1) hx hb dX9_market_1 (by decide) ?_
  refine lv_bipush (v := 9) hx hb dX9_market_2 (by decide) ?_
  obtain ⟨r_1, e_1, hF⟩ := ob1_some hF
  refine gx_calli0 (gx_runS0 (As := [.int p1, .int 1, .int 9]) (rest := []) ⟨hx, hb, hml, hown, hts⟩ (c_X9_in l G cI cJ cZ cB cT   p1 1 9 r_1 e_1 H.size) (gG_S m_62 m_63 m_64 m_61) rfl e_X9_in ⟨Nat.le_of_ble_eq_true rfl, Nat.le_of_ble_eq_true rfl⟩ hK hE hS hA rfl hl.1 rfl (Nat.le_of_ble_eq_true rfl) dX9_market_4 ⟨Nat.le_refl _, Nat.le_refl _⟩) hP hD hS hA (fun x_1 u_1 H locs hw_1 hP hD hS => ?_)
  subst x_1
  refine lv_if_eq (tgt := 40) hx hb dX9_market_7 (by decide) (fun c_2 => ?_) (fun c_2 => ?_)
  · have hF := ob_pos c_2 hF
    exact hJ_40 h hF H _ ls hP hD hS (lv_sub hl [] rfl)
  · have hF := ob_neg c_2 hF
    refine lv_iload_n hx hb dX9_market_10 rfl (lv_at hl 2 rfl) ?_
    refine lv_iconst (v := 0) hx hb dX9_market_11 (by decide) ?_
    refine lv_bipush (v := 9) hx hb dX9_market_12 (by decide) ?_
    obtain ⟨r_3, e_3, hF⟩ := ob1_some hF
    refine gx_calli0 (gx_runS0 (As := [.int p2, .int 0, .int 9]) (rest := []) ⟨hx, hb, hml, hown, hts⟩ (c_X9_in l G cI cJ cZ cB cT   p2 0 9 r_3 e_3 H.size) (gG_S m_62 m_63 m_64 m_61) rfl e_X9_in ⟨Nat.le_of_ble_eq_true rfl, Nat.le_of_ble_eq_true rfl⟩ hK hE hS hA rfl hl.1 rfl (Nat.le_of_ble_eq_true rfl) dX9_market_14 ⟨Nat.le_refl _, Nat.le_refl _⟩) hP hD hS hA (fun x_3 u_3 H locs hw_3 hP hD hS => ?_)
    subst x_3
    refine lv_if_eq (tgt := 40) hx hb dX9_market_17 (by decide) (fun c_4 => ?_) (fun c_4 => ?_)
    · have hF := ob_pos c_4 hF
      exact hJ_40 h hF H _ ls hP hD hS (lv_sub hl [] rfl)
    · have hF := ob_neg c_4 hF
      refine lv_iload_n hx hb dX9_market_20 rfl (lv_at hl 3 rfl) ?_
      refine lv_iconst (v := 0) hx hb dX9_market_21 (by decide) ?_
      refine lv_bipush (v := 9) hx hb dX9_market_22 (by decide) ?_
      obtain ⟨r_5, e_5, hF⟩ := ob1_some hF
      refine gx_calli0 (gx_runS0 (As := [.int p3, .int 0, .int 9]) (rest := []) ⟨hx, hb, hml, hown, hts⟩ (c_X9_in l G cI cJ cZ cB cT   p3 0 9 r_5 e_5 H.size) (gG_S m_62 m_63 m_64 m_61) rfl e_X9_in ⟨Nat.le_of_ble_eq_true rfl, Nat.le_of_ble_eq_true rfl⟩ hK hE hS hA rfl hl.1 rfl (Nat.le_of_ble_eq_true rfl) dX9_market_24 ⟨Nat.le_refl _, Nat.le_refl _⟩) hP hD hS hA (fun x_5 u_5 H locs hw_5 hP hD hS => ?_)
      subst x_5
      refine lv_if_eq (tgt := 40) hx hb dX9_market_27 (by decide) (fun c_6 => ?_) (fun c_6 => ?_)
      · have hF := ob_pos c_6 hF
        exact hJ_40 h hF H _ ls hP hD hS (lv_sub hl [] rfl)
      · have hF := ob_neg c_6 hF
        refine lv_aload_n hx hb dX9_market_30 rfl (lv_at hl 0 rfl) ?_
        refine va_get (D := G) (ci := 9) (v := .ref (r 0)) (C := RX9) (T := TX9) (N := 53) hx hb hts iX9 hown hK hP 0 wM_at0 rfl 0 (by decide) (hts _ m_92) (fun _ h9 => h9) rfl dX9_market_31 ?_
        refine lv_iconst (v := 0) hx hb dX9_market_34 (by decide) ?_
        refine va_iald (D := G) hx hb hK hP 1 0 wM_at1 rfl (vp_in_nI (n := 0) (by decide) (by decide)) dX9_market_35 ?_
        refine gw_topi (y := ((eA h 0 0) 0)) rfl ?_
        refine lv_iconst (v := 4) hx hb dX9_market_36 (by decide) ?_
        refine lv_icmp_ne (tgt := 42) hx hb dX9_market_37 (by decide) (fun c_7 => ?_) (fun c_7 => ?_)
        · have hF := ob_neg c_7 hF
          refine lv_bipush (v := 10) hx hb dX9_market_42 (by decide) ?_
          refine lv_iconst (v := 3) hx hb dX9_market_44 (by decide) ?_
          refine lv_aload_n hx hb dX9_market_45 rfl (lv_at hl 0 rfl) ?_
          refine va_get (D := G) (ci := 9) (v := .ref (r 0)) (C := RX9) (T := TX9) (N := 53) hx hb hts iX9 hown hK hP 0 wM_at0 rfl 0 (by decide) (hts _ m_92) (fun _ h9 => h9) rfl dX9_market_46 ?_
          refine lv_iconst (v := 0) hx hb dX9_market_49 (by decide) ?_
          refine va_iald (D := G) hx hb hK hP 1 0 wM_at1 rfl (vp_in_nI (n := 0) (by decide) (by decide)) dX9_market_50 ?_
          refine gw_topi (y := ((eA h 0 0) 0)) rfl ?_
          refine lv_imul hx hb dX9_market_51 ?_
          refine lv_iadd hx hb dX9_market_52 ?_
          refine lv_istore (lv' := [(4, .int (10 + (3 * ((eA h 0 0) 0)))), (0, .ref m0), (1, .int p1), (2, .int p2), (3, .int p3)]) hx hb dX9_market_53 hl (by decide) rfl (fun ls hl => ?_)
          refine lv_aload_n hx hb dX9_market_55 rfl (lv_at hl 1 rfl) ?_
          refine va_get (D := G) (ci := 9) (v := .ref (r 0)) (C := RX9) (T := TX9) (N := 53) hx hb hts iX9 hown hK hP 0 wM_at0 rfl 0 (by decide) (hts _ m_92) (fun _ h9 => h9) rfl dX9_market_56 ?_
          refine lv_iload hx hb dX9_market_59 (lv_at hl 0 rfl) ?_
          refine lv_iload_n hx hb dX9_market_61 rfl (lv_at hl 2 rfl) ?_
          obtain ⟨hi_8, hF⟩ := ob_if hF
          refine va_iast (D := G) hx hb hK hP hD hS 1 0 wM_at1 rfl (vp_in_iff.mpr hi_8) dX9_market_62 (fun H locs hP hD hS => ?_)
          rw [wM_sA1] at hP hD
          have hP : va_P G vwCl (wM m0 r cI cJ cZ cB cT (sA h 0 0 (upd (eA h 0 0) (((10 + (3 * ((eA h 0 0) 0)))).toNatClampNeg) p1))) H := hP
          have hD : va_D A (wM m0 r cI cJ cZ cB cT (sA h 0 0 (upd (eA h 0 0) (((10 + (3 * ((eA h 0 0) 0)))).toNatClampNeg) p1))) := hD
          refine lv_aload_n hx hb dX9_market_63 rfl (lv_at hl 1 rfl) ?_
          refine va_get (D := G) (ci := 9) (v := .ref (r 0)) (C := RX9) (T := TX9) (N := 53) hx hb hts iX9 hown hK hP 0 wM_at0 rfl 0 (by decide) (hts _ m_92) (fun _ h9 => h9) rfl dX9_market_64 ?_
          refine lv_iload hx hb dX9_market_67 (lv_at hl 0 rfl) ?_
          refine lv_iconst (v := 1) hx hb dX9_market_69 (by decide) ?_
          refine lv_iadd hx hb dX9_market_70 ?_
          refine lv_iload_n hx hb dX9_market_71 rfl (lv_at hl 3 rfl) ?_
          obtain ⟨hi_9, hF⟩ := ob_if hF
          refine va_iast (D := G) hx hb hK hP hD hS 1 0 wM_at1 rfl (vp_in_iff.mpr hi_9) dX9_market_72 (fun H locs hP hD hS => ?_)
          rw [wM_sA1] at hP hD
          have hP : va_P G vwCl (wM m0 r cI cJ cZ cB cT (sA (sA h 0 0 (upd (eA h 0 0) (((10 + (3 * ((eA h 0 0) 0)))).toNatClampNeg) p1)) 0 0 (upd (upd (eA h 0 0) (((10 + (3 * ((eA h 0 0) 0)))).toNatClampNeg) p1) ((((10 + (3 * ((eA h 0 0) 0))) + 1)).toNatClampNeg) p2))) H := hP
          have hD : va_D A (wM m0 r cI cJ cZ cB cT (sA (sA h 0 0 (upd (eA h 0 0) (((10 + (3 * ((eA h 0 0) 0)))).toNatClampNeg) p1)) 0 0 (upd (upd (eA h 0 0) (((10 + (3 * ((eA h 0 0) 0)))).toNatClampNeg) p1) ((((10 + (3 * ((eA h 0 0) 0))) + 1)).toNatClampNeg) p2))) := hD
          refine lv_aload_n hx hb dX9_market_73 rfl (lv_at hl 1 rfl) ?_
          refine va_get (D := G) (ci := 9) (v := .ref (r 0)) (C := RX9) (T := TX9) (N := 53) hx hb hts iX9 hown hK hP 0 wM_at0 rfl 0 (by decide) (hts _ m_92) (fun _ h9 => h9) rfl dX9_market_74 ?_
          refine lv_iload hx hb dX9_market_77 (lv_at hl 0 rfl) ?_
          refine lv_iconst (v := 2) hx hb dX9_market_79 (by decide) ?_
          refine lv_iadd hx hb dX9_market_80 ?_
          refine lv_iload_n hx hb dX9_market_81 rfl (lv_at hl 4 rfl) ?_
          obtain ⟨hi_10, hF⟩ := ob_if hF
          refine va_iast (D := G) hx hb hK hP hD hS 1 0 wM_at1 rfl (vp_in_iff.mpr hi_10) dX9_market_82 (fun H locs hP hD hS => ?_)
          rw [wM_sA1] at hP hD
          have hP : va_P G vwCl (wM m0 r cI cJ cZ cB cT (sA (sA (sA h 0 0 (upd (eA h 0 0) (((10 + (3 * ((eA h 0 0) 0)))).toNatClampNeg) p1)) 0 0 (upd (upd (eA h 0 0) (((10 + (3 * ((eA h 0 0) 0)))).toNatClampNeg) p1) ((((10 + (3 * ((eA h 0 0) 0))) + 1)).toNatClampNeg) p2)) 0 0 (upd (upd (upd (eA h 0 0) (((10 + (3 * ((eA h 0 0) 0)))).toNatClampNeg) p1) ((((10 + (3 * ((eA h 0 0) 0))) + 1)).toNatClampNeg) p2) ((((10 + (3 * ((eA h 0 0) 0))) + 2)).toNatClampNeg) p3))) H := hP
          have hD : va_D A (wM m0 r cI cJ cZ cB cT (sA (sA (sA h 0 0 (upd (eA h 0 0) (((10 + (3 * ((eA h 0 0) 0)))).toNatClampNeg) p1)) 0 0 (upd (upd (eA h 0 0) (((10 + (3 * ((eA h 0 0) 0)))).toNatClampNeg) p1) ((((10 + (3 * ((eA h 0 0) 0))) + 1)).toNatClampNeg) p2)) 0 0 (upd (upd (upd (eA h 0 0) (((10 + (3 * ((eA h 0 0) 0)))).toNatClampNeg) p1) ((((10 + (3 * ((eA h 0 0) 0))) + 1)).toNatClampNeg) p2) ((((10 + (3 * ((eA h 0 0) 0))) + 2)).toNatClampNeg) p3))) := hD
          refine lv_aload_n hx hb dX9_market_83 rfl (lv_at hl 1 rfl) ?_
          refine va_get (D := G) (ci := 9) (v := .ref (r 0)) (C := RX9) (T := TX9) (N := 53) hx hb hts iX9 hown hK hP 0 wM_at0 rfl 0 (by decide) (hts _ m_92) (fun _ h9 => h9) rfl dX9_market_84 ?_
          refine lv_iconst (v := 0) hx hb dX9_market_87 (by decide) ?_
          refine lv_dup2_11 hx hb dX9_market_88 rfl rfl ?_
          refine va_iald (D := G) hx hb hK hP 1 0 wM_at1 rfl (vp_in_nI (n := 0) (by decide) (by decide)) dX9_market_89 ?_
          refine gw_topi (y := ((upd (upd (upd (eA h 0 0) (((10 + (3 * ((eA h 0 0) 0)))).toNatClampNeg) p1) ((((10 + (3 * ((eA h 0 0) 0))) + 1)).toNatClampNeg) p2) ((((10 + (3 * ((eA h 0 0) 0))) + 2)).toNatClampNeg) p3) 0)) rfl ?_
          refine lv_iconst (v := 1) hx hb dX9_market_90 (by decide) ?_
          refine lv_iadd hx hb dX9_market_91 ?_
          refine va_iast (D := G) hx hb hK hP hD hS 1 0 wM_at1 rfl (vp_in_nI (n := 0) (by decide) (by decide)) dX9_market_92 (fun H locs hP hD hS => ?_)
          rw [wM_sA1] at hP hD
          have hP : va_P G vwCl (wM m0 r cI cJ cZ cB cT (sA (sA (sA (sA h 0 0 (upd (eA h 0 0) (((10 + (3 * ((eA h 0 0) 0)))).toNatClampNeg) p1)) 0 0 (upd (upd (eA h 0 0) (((10 + (3 * ((eA h 0 0) 0)))).toNatClampNeg) p1) ((((10 + (3 * ((eA h 0 0) 0))) + 1)).toNatClampNeg) p2)) 0 0 (upd (upd (upd (eA h 0 0) (((10 + (3 * ((eA h 0 0) 0)))).toNatClampNeg) p1) ((((10 + (3 * ((eA h 0 0) 0))) + 1)).toNatClampNeg) p2) ((((10 + (3 * ((eA h 0 0) 0))) + 2)).toNatClampNeg) p3)) 0 0 (upd (upd (upd (upd (eA h 0 0) (((10 + (3 * ((eA h 0 0) 0)))).toNatClampNeg) p1) ((((10 + (3 * ((eA h 0 0) 0))) + 1)).toNatClampNeg) p2) ((((10 + (3 * ((eA h 0 0) 0))) + 2)).toNatClampNeg) p3) 0 (((upd (upd (upd (eA h 0 0) (((10 + (3 * ((eA h 0 0) 0)))).toNatClampNeg) p1) ((((10 + (3 * ((eA h 0 0) 0))) + 1)).toNatClampNeg) p2) ((((10 + (3 * ((eA h 0 0) 0))) + 2)).toNatClampNeg) p3) 0) + 1)))) H := hP
          have hD : va_D A (wM m0 r cI cJ cZ cB cT (sA (sA (sA (sA h 0 0 (upd (eA h 0 0) (((10 + (3 * ((eA h 0 0) 0)))).toNatClampNeg) p1)) 0 0 (upd (upd (eA h 0 0) (((10 + (3 * ((eA h 0 0) 0)))).toNatClampNeg) p1) ((((10 + (3 * ((eA h 0 0) 0))) + 1)).toNatClampNeg) p2)) 0 0 (upd (upd (upd (eA h 0 0) (((10 + (3 * ((eA h 0 0) 0)))).toNatClampNeg) p1) ((((10 + (3 * ((eA h 0 0) 0))) + 1)).toNatClampNeg) p2) ((((10 + (3 * ((eA h 0 0) 0))) + 2)).toNatClampNeg) p3)) 0 0 (upd (upd (upd (upd (eA h 0 0) (((10 + (3 * ((eA h 0 0) 0)))).toNatClampNeg) p1) ((((10 + (3 * ((eA h 0 0) 0))) + 1)).toNatClampNeg) p2) ((((10 + (3 * ((eA h 0 0) 0))) + 2)).toNatClampNeg) p3) 0 (((upd (upd (upd (eA h 0 0) (((10 + (3 * ((eA h 0 0) 0)))).toNatClampNeg) p1) ((((10 + (3 * ((eA h 0 0) 0))) + 1)).toNatClampNeg) p2) ((((10 + (3 * ((eA h 0 0) 0))) + 2)).toNatClampNeg) p3) 0) + 1)))) := hD
          refine lv_aload_n hx hb dX9_market_93 rfl (lv_at hl 1 rfl) ?_
          refine va_get (D := G) (ci := 9) (v := .ref (r 0)) (C := RX9) (T := TX9) (N := 53) hx hb hts iX9 hown hK hP 0 wM_at0 rfl 0 (by decide) (hts _ m_92) (fun _ h9 => h9) rfl dX9_market_94 ?_
          refine lv_iconst (v := 0) hx hb dX9_market_97 (by decide) ?_
          refine va_iald (D := G) hx hb hK hP 1 0 wM_at1 rfl (vp_in_nI (n := 0) (by decide) (by decide)) dX9_market_98 ?_
          refine gw_topi (y := ((upd (upd (upd (upd (eA h 0 0) (((10 + (3 * ((eA h 0 0) 0)))).toNatClampNeg) p1) ((((10 + (3 * ((eA h 0 0) 0))) + 1)).toNatClampNeg) p2) ((((10 + (3 * ((eA h 0 0) 0))) + 2)).toNatClampNeg) p3) 0 (((upd (upd (upd (eA h 0 0) (((10 + (3 * ((eA h 0 0) 0)))).toNatClampNeg) p1) ((((10 + (3 * ((eA h 0 0) 0))) + 1)).toNatClampNeg) p2) ((((10 + (3 * ((eA h 0 0) 0))) + 2)).toNatClampNeg) p3) 0) + 1)) 0)) rfl ?_
          refine lv_iconst (v := 1) hx hb dX9_market_99 (by decide) ?_
          refine lv_isub hx hb dX9_market_100 ?_
          obtain ⟨rfl, rfl⟩ := ob_pair hF
          exact gw_iret () hx hb hr hlocks hP hD hS rfl dX9_market_101
        · have hF := ob_pos c_7 hF
          exact hJ_40 h hF H _ ls hP hD hS (lv_sub hl [] rfl)
def f_X9_tellsGoose (h : HS) (p1 : Int32) (p2 : Int32) (p3 : Int32) (p4 : Int32) : Option HS := (if 0 ≤ (((p1 + (9 * p2)) + 0)).toInt ∧ (((p1 + (9 * p2)) + 0)).toInt < 1990 then (if 0 ≤ (((p1 + (9 * p2)) + 1)).toInt ∧ (((p1 + (9 * p2)) + 1)).toInt < 1990 then (if 0 ≤ (((p1 + (9 * p2)) + 2)).toInt ∧ (((p1 + (9 * p2)) + 2)).toInt < 1990 then (if 0 ≤ (((p1 + (9 * p2)) + 3)).toInt ∧ (((p1 + (9 * p2)) + 3)).toInt < 1990 then (if 0 ≤ (((p1 + (9 * p2)) + 4)).toInt ∧ (((p1 + (9 * p2)) + 4)).toInt < 1990 then (if 0 ≤ (((p1 + (9 * p2)) + 5)).toInt ∧ (((p1 + (9 * p2)) + 5)).toInt < 1990 then (if 0 ≤ (((p1 + (9 * p2)) + 6)).toInt ∧ (((p1 + (9 * p2)) + 6)).toInt < 1990 then (if 0 ≤ (((p1 + (9 * p2)) + 7)).toInt ∧ (((p1 + (9 * p2)) + 7)).toInt < 1990 then (if 0 ≤ (((p1 + (9 * p2)) + 8)).toInt ∧ (((p1 + (9 * p2)) + 8)).toInt < 1990 then (some (sA (sA (sA (sA (sA (sA (sA (sA (sA h 0 0 (upd (eA h 0 0) ((((p1 + (9 * p2)) + 0)).toNatClampNeg) p3)) 0 0 (upd (upd (eA h 0 0) ((((p1 + (9 * p2)) + 0)).toNatClampNeg) p3) ((((p1 + (9 * p2)) + 1)).toNatClampNeg) p4)) 0 0 (upd (upd (upd (eA h 0 0) ((((p1 + (9 * p2)) + 0)).toNatClampNeg) p3) ((((p1 + (9 * p2)) + 1)).toNatClampNeg) p4) ((((p1 + (9 * p2)) + 2)).toNatClampNeg) (-1))) 0 0 (upd (upd (upd (upd (eA h 0 0) ((((p1 + (9 * p2)) + 0)).toNatClampNeg) p3) ((((p1 + (9 * p2)) + 1)).toNatClampNeg) p4) ((((p1 + (9 * p2)) + 2)).toNatClampNeg) (-1)) ((((p1 + (9 * p2)) + 3)).toNatClampNeg) (-1))) 0 0 (upd (upd (upd (upd (upd (eA h 0 0) ((((p1 + (9 * p2)) + 0)).toNatClampNeg) p3) ((((p1 + (9 * p2)) + 1)).toNatClampNeg) p4) ((((p1 + (9 * p2)) + 2)).toNatClampNeg) (-1)) ((((p1 + (9 * p2)) + 3)).toNatClampNeg) (-1)) ((((p1 + (9 * p2)) + 4)).toNatClampNeg) 0)) 0 0 (upd (upd (upd (upd (upd (upd (eA h 0 0) ((((p1 + (9 * p2)) + 0)).toNatClampNeg) p3) ((((p1 + (9 * p2)) + 1)).toNatClampNeg) p4) ((((p1 + (9 * p2)) + 2)).toNatClampNeg) (-1)) ((((p1 + (9 * p2)) + 3)).toNatClampNeg) (-1)) ((((p1 + (9 * p2)) + 4)).toNatClampNeg) 0) ((((p1 + (9 * p2)) + 5)).toNatClampNeg) (-1))) 0 0 (upd (upd (upd (upd (upd (upd (upd (eA h 0 0) ((((p1 + (9 * p2)) + 0)).toNatClampNeg) p3) ((((p1 + (9 * p2)) + 1)).toNatClampNeg) p4) ((((p1 + (9 * p2)) + 2)).toNatClampNeg) (-1)) ((((p1 + (9 * p2)) + 3)).toNatClampNeg) (-1)) ((((p1 + (9 * p2)) + 4)).toNatClampNeg) 0) ((((p1 + (9 * p2)) + 5)).toNatClampNeg) (-1)) ((((p1 + (9 * p2)) + 6)).toNatClampNeg) (-1))) 0 0 (upd (upd (upd (upd (upd (upd (upd (upd (eA h 0 0) ((((p1 + (9 * p2)) + 0)).toNatClampNeg) p3) ((((p1 + (9 * p2)) + 1)).toNatClampNeg) p4) ((((p1 + (9 * p2)) + 2)).toNatClampNeg) (-1)) ((((p1 + (9 * p2)) + 3)).toNatClampNeg) (-1)) ((((p1 + (9 * p2)) + 4)).toNatClampNeg) 0) ((((p1 + (9 * p2)) + 5)).toNatClampNeg) (-1)) ((((p1 + (9 * p2)) + 6)).toNatClampNeg) (-1)) ((((p1 + (9 * p2)) + 7)).toNatClampNeg) (-1))) 0 0 (upd (upd (upd (upd (upd (upd (upd (upd (upd (eA h 0 0) ((((p1 + (9 * p2)) + 0)).toNatClampNeg) p3) ((((p1 + (9 * p2)) + 1)).toNatClampNeg) p4) ((((p1 + (9 * p2)) + 2)).toNatClampNeg) (-1)) ((((p1 + (9 * p2)) + 3)).toNatClampNeg) (-1)) ((((p1 + (9 * p2)) + 4)).toNatClampNeg) 0) ((((p1 + (9 * p2)) + 5)).toNatClampNeg) (-1)) ((((p1 + (9 * p2)) + 6)).toNatClampNeg) (-1)) ((((p1 + (9 * p2)) + 7)).toNatClampNeg) (-1)) ((((p1 + (9 * p2)) + 8)).toNatClampNeg) 0))) else none) else none) else none) else none) else none) else none) else none) else none) else none)
set_option maxHeartbeats 4000000 in
set_option maxRecDepth 100000 in
theorem c_X9_tellsGoose (l : Launch) (G : va_G) (cI cJ cZ cB cT : ClassId) (m0 : Nat) (r : Nat → Nat) (h : HS) (p1 : Int32) (p2 : Int32) (p3 : Int32) (p4 : Int32) (hh : HS) (hF : f_X9_tellsGoose h p1 p2 p3 p4 = some hh) : gMv l yX9_tellsGoose (gws yX9_tellsGoose cX9_tellsGoose 6 none) 1 G (gT cI cJ cZ cB cT) [.ref m0, .int p1, .int p2, .int p3, .int p4] (wM m0 r cI cJ cZ cB cT h) (fun (_ : Unit) => True) (fun (_ : Unit) => (wM m0 r cI cJ cZ cB cT hh)) := by
  intro sz
  refine gM_start (y := yX9_tellsGoose) (av := [.ref m0, .int p1, .int p2, .int p3, .int p4]) (ws := (wM m0 r cI cJ cZ cB cT h)) (Qf := fun A => va_Qv (fun (_ : Unit) => True) (gB G (fun (_ : Unit) => (wM m0 r cI cJ cZ cB cT hh)) A) A) (cc := cX9_tellsGoose) (maxL := 6) (ret := none) (by decide) (Nat.le_of_ble_eq_true rfl) ?_
  intro p e s m args below meth c A ls H hx hb hr hts hown hin hlocks hml hP hK hD hA hS hl hE
  have hl : lv_has ls 6 [(0, .ref m0), (1, .int p1), (2, .int p2), (3, .int p3), (4, .int p4)] := hl
  unfold f_X9_tellsGoose at hF
  refine lv_iload_n hx hb dX9_tellsGoose_0 rfl (lv_at hl 1 rfl) ?_
  refine lv_bipush (v := 9) hx hb dX9_tellsGoose_1 (by decide) ?_
  refine lv_iload_n hx hb dX9_tellsGoose_3 rfl (lv_at hl 2 rfl) ?_
  refine lv_imul hx hb dX9_tellsGoose_4 ?_
  refine lv_iadd hx hb dX9_tellsGoose_5 ?_
  refine lv_istore (lv' := [(5, .int (p1 + (9 * p2))), (0, .ref m0), (1, .int p1), (2, .int p2), (3, .int p3), (4, .int p4)]) hx hb dX9_tellsGoose_6 hl (by decide) rfl (fun ls hl => ?_)
  refine lv_aload_n hx hb dX9_tellsGoose_8 rfl (lv_at hl 1 rfl) ?_
  refine va_get (D := G) (ci := 9) (v := .ref (r 0)) (C := RX9) (T := TX9) (N := 53) hx hb hts iX9 hown hK hP 0 wM_at0 rfl 0 (by decide) (hts _ m_92) (fun _ h9 => h9) rfl dX9_tellsGoose_9 ?_
  refine lv_iload hx hb dX9_tellsGoose_12 (lv_at hl 0 rfl) ?_
  refine lv_iconst (v := 0) hx hb dX9_tellsGoose_14 (by decide) ?_
  refine lv_iadd hx hb dX9_tellsGoose_15 ?_
  refine lv_iload_n hx hb dX9_tellsGoose_16 rfl (lv_at hl 4 rfl) ?_
  obtain ⟨hi_1, hF⟩ := ob_if hF
  refine va_iast (D := G) hx hb hK hP hD hS 1 0 wM_at1 rfl (vp_in_iff.mpr hi_1) dX9_tellsGoose_17 (fun H locs hP hD hS => ?_)
  rw [wM_sA1] at hP hD
  have hP : va_P G vwCl (wM m0 r cI cJ cZ cB cT (sA h 0 0 (upd (eA h 0 0) ((((p1 + (9 * p2)) + 0)).toNatClampNeg) p3))) H := hP
  have hD : va_D A (wM m0 r cI cJ cZ cB cT (sA h 0 0 (upd (eA h 0 0) ((((p1 + (9 * p2)) + 0)).toNatClampNeg) p3))) := hD
  refine lv_aload_n hx hb dX9_tellsGoose_18 rfl (lv_at hl 1 rfl) ?_
  refine va_get (D := G) (ci := 9) (v := .ref (r 0)) (C := RX9) (T := TX9) (N := 53) hx hb hts iX9 hown hK hP 0 wM_at0 rfl 0 (by decide) (hts _ m_92) (fun _ h9 => h9) rfl dX9_tellsGoose_19 ?_
  refine lv_iload hx hb dX9_tellsGoose_22 (lv_at hl 0 rfl) ?_
  refine lv_iconst (v := 1) hx hb dX9_tellsGoose_24 (by decide) ?_
  refine lv_iadd hx hb dX9_tellsGoose_25 ?_
  refine lv_iload hx hb dX9_tellsGoose_26 (lv_at hl 5 rfl) ?_
  obtain ⟨hi_2, hF⟩ := ob_if hF
  refine va_iast (D := G) hx hb hK hP hD hS 1 0 wM_at1 rfl (vp_in_iff.mpr hi_2) dX9_tellsGoose_28 (fun H locs hP hD hS => ?_)
  rw [wM_sA1] at hP hD
  have hP : va_P G vwCl (wM m0 r cI cJ cZ cB cT (sA (sA h 0 0 (upd (eA h 0 0) ((((p1 + (9 * p2)) + 0)).toNatClampNeg) p3)) 0 0 (upd (upd (eA h 0 0) ((((p1 + (9 * p2)) + 0)).toNatClampNeg) p3) ((((p1 + (9 * p2)) + 1)).toNatClampNeg) p4))) H := hP
  have hD : va_D A (wM m0 r cI cJ cZ cB cT (sA (sA h 0 0 (upd (eA h 0 0) ((((p1 + (9 * p2)) + 0)).toNatClampNeg) p3)) 0 0 (upd (upd (eA h 0 0) ((((p1 + (9 * p2)) + 0)).toNatClampNeg) p3) ((((p1 + (9 * p2)) + 1)).toNatClampNeg) p4))) := hD
  refine lv_aload_n hx hb dX9_tellsGoose_29 rfl (lv_at hl 1 rfl) ?_
  refine va_get (D := G) (ci := 9) (v := .ref (r 0)) (C := RX9) (T := TX9) (N := 53) hx hb hts iX9 hown hK hP 0 wM_at0 rfl 0 (by decide) (hts _ m_92) (fun _ h9 => h9) rfl dX9_tellsGoose_30 ?_
  refine lv_iload hx hb dX9_tellsGoose_33 (lv_at hl 0 rfl) ?_
  refine lv_iconst (v := 2) hx hb dX9_tellsGoose_35 (by decide) ?_
  refine lv_iadd hx hb dX9_tellsGoose_36 ?_
  refine lv_iconst (v := (-1)) hx hb dX9_tellsGoose_37 (by decide) ?_
  obtain ⟨hi_3, hF⟩ := ob_if hF
  refine va_iast (D := G) hx hb hK hP hD hS 1 0 wM_at1 rfl (vp_in_iff.mpr hi_3) dX9_tellsGoose_38 (fun H locs hP hD hS => ?_)
  rw [wM_sA1] at hP hD
  have hP : va_P G vwCl (wM m0 r cI cJ cZ cB cT (sA (sA (sA h 0 0 (upd (eA h 0 0) ((((p1 + (9 * p2)) + 0)).toNatClampNeg) p3)) 0 0 (upd (upd (eA h 0 0) ((((p1 + (9 * p2)) + 0)).toNatClampNeg) p3) ((((p1 + (9 * p2)) + 1)).toNatClampNeg) p4)) 0 0 (upd (upd (upd (eA h 0 0) ((((p1 + (9 * p2)) + 0)).toNatClampNeg) p3) ((((p1 + (9 * p2)) + 1)).toNatClampNeg) p4) ((((p1 + (9 * p2)) + 2)).toNatClampNeg) (-1)))) H := hP
  have hD : va_D A (wM m0 r cI cJ cZ cB cT (sA (sA (sA h 0 0 (upd (eA h 0 0) ((((p1 + (9 * p2)) + 0)).toNatClampNeg) p3)) 0 0 (upd (upd (eA h 0 0) ((((p1 + (9 * p2)) + 0)).toNatClampNeg) p3) ((((p1 + (9 * p2)) + 1)).toNatClampNeg) p4)) 0 0 (upd (upd (upd (eA h 0 0) ((((p1 + (9 * p2)) + 0)).toNatClampNeg) p3) ((((p1 + (9 * p2)) + 1)).toNatClampNeg) p4) ((((p1 + (9 * p2)) + 2)).toNatClampNeg) (-1)))) := hD
  refine lv_aload_n hx hb dX9_tellsGoose_39 rfl (lv_at hl 1 rfl) ?_
  refine va_get (D := G) (ci := 9) (v := .ref (r 0)) (C := RX9) (T := TX9) (N := 53) hx hb hts iX9 hown hK hP 0 wM_at0 rfl 0 (by decide) (hts _ m_92) (fun _ h9 => h9) rfl dX9_tellsGoose_40 ?_
  refine lv_iload hx hb dX9_tellsGoose_43 (lv_at hl 0 rfl) ?_
  refine lv_iconst (v := 3) hx hb dX9_tellsGoose_45 (by decide) ?_
  refine lv_iadd hx hb dX9_tellsGoose_46 ?_
  refine lv_iconst (v := (-1)) hx hb dX9_tellsGoose_47 (by decide) ?_
  obtain ⟨hi_4, hF⟩ := ob_if hF
  refine va_iast (D := G) hx hb hK hP hD hS 1 0 wM_at1 rfl (vp_in_iff.mpr hi_4) dX9_tellsGoose_48 (fun H locs hP hD hS => ?_)
  rw [wM_sA1] at hP hD
  have hP : va_P G vwCl (wM m0 r cI cJ cZ cB cT (sA (sA (sA (sA h 0 0 (upd (eA h 0 0) ((((p1 + (9 * p2)) + 0)).toNatClampNeg) p3)) 0 0 (upd (upd (eA h 0 0) ((((p1 + (9 * p2)) + 0)).toNatClampNeg) p3) ((((p1 + (9 * p2)) + 1)).toNatClampNeg) p4)) 0 0 (upd (upd (upd (eA h 0 0) ((((p1 + (9 * p2)) + 0)).toNatClampNeg) p3) ((((p1 + (9 * p2)) + 1)).toNatClampNeg) p4) ((((p1 + (9 * p2)) + 2)).toNatClampNeg) (-1))) 0 0 (upd (upd (upd (upd (eA h 0 0) ((((p1 + (9 * p2)) + 0)).toNatClampNeg) p3) ((((p1 + (9 * p2)) + 1)).toNatClampNeg) p4) ((((p1 + (9 * p2)) + 2)).toNatClampNeg) (-1)) ((((p1 + (9 * p2)) + 3)).toNatClampNeg) (-1)))) H := hP
  have hD : va_D A (wM m0 r cI cJ cZ cB cT (sA (sA (sA (sA h 0 0 (upd (eA h 0 0) ((((p1 + (9 * p2)) + 0)).toNatClampNeg) p3)) 0 0 (upd (upd (eA h 0 0) ((((p1 + (9 * p2)) + 0)).toNatClampNeg) p3) ((((p1 + (9 * p2)) + 1)).toNatClampNeg) p4)) 0 0 (upd (upd (upd (eA h 0 0) ((((p1 + (9 * p2)) + 0)).toNatClampNeg) p3) ((((p1 + (9 * p2)) + 1)).toNatClampNeg) p4) ((((p1 + (9 * p2)) + 2)).toNatClampNeg) (-1))) 0 0 (upd (upd (upd (upd (eA h 0 0) ((((p1 + (9 * p2)) + 0)).toNatClampNeg) p3) ((((p1 + (9 * p2)) + 1)).toNatClampNeg) p4) ((((p1 + (9 * p2)) + 2)).toNatClampNeg) (-1)) ((((p1 + (9 * p2)) + 3)).toNatClampNeg) (-1)))) := hD
  refine lv_aload_n hx hb dX9_tellsGoose_49 rfl (lv_at hl 1 rfl) ?_
  refine va_get (D := G) (ci := 9) (v := .ref (r 0)) (C := RX9) (T := TX9) (N := 53) hx hb hts iX9 hown hK hP 0 wM_at0 rfl 0 (by decide) (hts _ m_92) (fun _ h9 => h9) rfl dX9_tellsGoose_50 ?_
  refine lv_iload hx hb dX9_tellsGoose_53 (lv_at hl 0 rfl) ?_
  refine lv_iconst (v := 4) hx hb dX9_tellsGoose_55 (by decide) ?_
  refine lv_iadd hx hb dX9_tellsGoose_56 ?_
  refine lv_iconst (v := 0) hx hb dX9_tellsGoose_57 (by decide) ?_
  obtain ⟨hi_5, hF⟩ := ob_if hF
  refine va_iast (D := G) hx hb hK hP hD hS 1 0 wM_at1 rfl (vp_in_iff.mpr hi_5) dX9_tellsGoose_58 (fun H locs hP hD hS => ?_)
  rw [wM_sA1] at hP hD
  have hP : va_P G vwCl (wM m0 r cI cJ cZ cB cT (sA (sA (sA (sA (sA h 0 0 (upd (eA h 0 0) ((((p1 + (9 * p2)) + 0)).toNatClampNeg) p3)) 0 0 (upd (upd (eA h 0 0) ((((p1 + (9 * p2)) + 0)).toNatClampNeg) p3) ((((p1 + (9 * p2)) + 1)).toNatClampNeg) p4)) 0 0 (upd (upd (upd (eA h 0 0) ((((p1 + (9 * p2)) + 0)).toNatClampNeg) p3) ((((p1 + (9 * p2)) + 1)).toNatClampNeg) p4) ((((p1 + (9 * p2)) + 2)).toNatClampNeg) (-1))) 0 0 (upd (upd (upd (upd (eA h 0 0) ((((p1 + (9 * p2)) + 0)).toNatClampNeg) p3) ((((p1 + (9 * p2)) + 1)).toNatClampNeg) p4) ((((p1 + (9 * p2)) + 2)).toNatClampNeg) (-1)) ((((p1 + (9 * p2)) + 3)).toNatClampNeg) (-1))) 0 0 (upd (upd (upd (upd (upd (eA h 0 0) ((((p1 + (9 * p2)) + 0)).toNatClampNeg) p3) ((((p1 + (9 * p2)) + 1)).toNatClampNeg) p4) ((((p1 + (9 * p2)) + 2)).toNatClampNeg) (-1)) ((((p1 + (9 * p2)) + 3)).toNatClampNeg) (-1)) ((((p1 + (9 * p2)) + 4)).toNatClampNeg) 0))) H := hP
  have hD : va_D A (wM m0 r cI cJ cZ cB cT (sA (sA (sA (sA (sA h 0 0 (upd (eA h 0 0) ((((p1 + (9 * p2)) + 0)).toNatClampNeg) p3)) 0 0 (upd (upd (eA h 0 0) ((((p1 + (9 * p2)) + 0)).toNatClampNeg) p3) ((((p1 + (9 * p2)) + 1)).toNatClampNeg) p4)) 0 0 (upd (upd (upd (eA h 0 0) ((((p1 + (9 * p2)) + 0)).toNatClampNeg) p3) ((((p1 + (9 * p2)) + 1)).toNatClampNeg) p4) ((((p1 + (9 * p2)) + 2)).toNatClampNeg) (-1))) 0 0 (upd (upd (upd (upd (eA h 0 0) ((((p1 + (9 * p2)) + 0)).toNatClampNeg) p3) ((((p1 + (9 * p2)) + 1)).toNatClampNeg) p4) ((((p1 + (9 * p2)) + 2)).toNatClampNeg) (-1)) ((((p1 + (9 * p2)) + 3)).toNatClampNeg) (-1))) 0 0 (upd (upd (upd (upd (upd (eA h 0 0) ((((p1 + (9 * p2)) + 0)).toNatClampNeg) p3) ((((p1 + (9 * p2)) + 1)).toNatClampNeg) p4) ((((p1 + (9 * p2)) + 2)).toNatClampNeg) (-1)) ((((p1 + (9 * p2)) + 3)).toNatClampNeg) (-1)) ((((p1 + (9 * p2)) + 4)).toNatClampNeg) 0))) := hD
  refine lv_aload_n hx hb dX9_tellsGoose_59 rfl (lv_at hl 1 rfl) ?_
  refine va_get (D := G) (ci := 9) (v := .ref (r 0)) (C := RX9) (T := TX9) (N := 53) hx hb hts iX9 hown hK hP 0 wM_at0 rfl 0 (by decide) (hts _ m_92) (fun _ h9 => h9) rfl dX9_tellsGoose_60 ?_
  refine lv_iload hx hb dX9_tellsGoose_63 (lv_at hl 0 rfl) ?_
  refine lv_iconst (v := 5) hx hb dX9_tellsGoose_65 (by decide) ?_
  refine lv_iadd hx hb dX9_tellsGoose_66 ?_
  refine lv_iconst (v := (-1)) hx hb dX9_tellsGoose_67 (by decide) ?_
  obtain ⟨hi_6, hF⟩ := ob_if hF
  refine va_iast (D := G) hx hb hK hP hD hS 1 0 wM_at1 rfl (vp_in_iff.mpr hi_6) dX9_tellsGoose_68 (fun H locs hP hD hS => ?_)
  rw [wM_sA1] at hP hD
  have hP : va_P G vwCl (wM m0 r cI cJ cZ cB cT (sA (sA (sA (sA (sA (sA h 0 0 (upd (eA h 0 0) ((((p1 + (9 * p2)) + 0)).toNatClampNeg) p3)) 0 0 (upd (upd (eA h 0 0) ((((p1 + (9 * p2)) + 0)).toNatClampNeg) p3) ((((p1 + (9 * p2)) + 1)).toNatClampNeg) p4)) 0 0 (upd (upd (upd (eA h 0 0) ((((p1 + (9 * p2)) + 0)).toNatClampNeg) p3) ((((p1 + (9 * p2)) + 1)).toNatClampNeg) p4) ((((p1 + (9 * p2)) + 2)).toNatClampNeg) (-1))) 0 0 (upd (upd (upd (upd (eA h 0 0) ((((p1 + (9 * p2)) + 0)).toNatClampNeg) p3) ((((p1 + (9 * p2)) + 1)).toNatClampNeg) p4) ((((p1 + (9 * p2)) + 2)).toNatClampNeg) (-1)) ((((p1 + (9 * p2)) + 3)).toNatClampNeg) (-1))) 0 0 (upd (upd (upd (upd (upd (eA h 0 0) ((((p1 + (9 * p2)) + 0)).toNatClampNeg) p3) ((((p1 + (9 * p2)) + 1)).toNatClampNeg) p4) ((((p1 + (9 * p2)) + 2)).toNatClampNeg) (-1)) ((((p1 + (9 * p2)) + 3)).toNatClampNeg) (-1)) ((((p1 + (9 * p2)) + 4)).toNatClampNeg) 0)) 0 0 (upd (upd (upd (upd (upd (upd (eA h 0 0) ((((p1 + (9 * p2)) + 0)).toNatClampNeg) p3) ((((p1 + (9 * p2)) + 1)).toNatClampNeg) p4) ((((p1 + (9 * p2)) + 2)).toNatClampNeg) (-1)) ((((p1 + (9 * p2)) + 3)).toNatClampNeg) (-1)) ((((p1 + (9 * p2)) + 4)).toNatClampNeg) 0) ((((p1 + (9 * p2)) + 5)).toNatClampNeg) (-1)))) H := hP
  have hD : va_D A (wM m0 r cI cJ cZ cB cT (sA (sA (sA (sA (sA (sA h 0 0 (upd (eA h 0 0) ((((p1 + (9 * p2)) + 0)).toNatClampNeg) p3)) 0 0 (upd (upd (eA h 0 0) ((((p1 + (9 * p2)) + 0)).toNatClampNeg) p3) ((((p1 + (9 * p2)) + 1)).toNatClampNeg) p4)) 0 0 (upd (upd (upd (eA h 0 0) ((((p1 + (9 * p2)) + 0)).toNatClampNeg) p3) ((((p1 + (9 * p2)) + 1)).toNatClampNeg) p4) ((((p1 + (9 * p2)) + 2)).toNatClampNeg) (-1))) 0 0 (upd (upd (upd (upd (eA h 0 0) ((((p1 + (9 * p2)) + 0)).toNatClampNeg) p3) ((((p1 + (9 * p2)) + 1)).toNatClampNeg) p4) ((((p1 + (9 * p2)) + 2)).toNatClampNeg) (-1)) ((((p1 + (9 * p2)) + 3)).toNatClampNeg) (-1))) 0 0 (upd (upd (upd (upd (upd (eA h 0 0) ((((p1 + (9 * p2)) + 0)).toNatClampNeg) p3) ((((p1 + (9 * p2)) + 1)).toNatClampNeg) p4) ((((p1 + (9 * p2)) + 2)).toNatClampNeg) (-1)) ((((p1 + (9 * p2)) + 3)).toNatClampNeg) (-1)) ((((p1 + (9 * p2)) + 4)).toNatClampNeg) 0)) 0 0 (upd (upd (upd (upd (upd (upd (eA h 0 0) ((((p1 + (9 * p2)) + 0)).toNatClampNeg) p3) ((((p1 + (9 * p2)) + 1)).toNatClampNeg) p4) ((((p1 + (9 * p2)) + 2)).toNatClampNeg) (-1)) ((((p1 + (9 * p2)) + 3)).toNatClampNeg) (-1)) ((((p1 + (9 * p2)) + 4)).toNatClampNeg) 0) ((((p1 + (9 * p2)) + 5)).toNatClampNeg) (-1)))) := hD
  refine lv_aload_n hx hb dX9_tellsGoose_69 rfl (lv_at hl 1 rfl) ?_
  refine va_get (D := G) (ci := 9) (v := .ref (r 0)) (C := RX9) (T := TX9) (N := 53) hx hb hts iX9 hown hK hP 0 wM_at0 rfl 0 (by decide) (hts _ m_92) (fun _ h9 => h9) rfl dX9_tellsGoose_70 ?_
  refine lv_iload hx hb dX9_tellsGoose_73 (lv_at hl 0 rfl) ?_
  refine lv_bipush (v := 6) hx hb dX9_tellsGoose_75 (by decide) ?_
  refine lv_iadd hx hb dX9_tellsGoose_77 ?_
  refine lv_iconst (v := (-1)) hx hb dX9_tellsGoose_78 (by decide) ?_
  obtain ⟨hi_7, hF⟩ := ob_if hF
  refine va_iast (D := G) hx hb hK hP hD hS 1 0 wM_at1 rfl (vp_in_iff.mpr hi_7) dX9_tellsGoose_79 (fun H locs hP hD hS => ?_)
  rw [wM_sA1] at hP hD
  have hP : va_P G vwCl (wM m0 r cI cJ cZ cB cT (sA (sA (sA (sA (sA (sA (sA h 0 0 (upd (eA h 0 0) ((((p1 + (9 * p2)) + 0)).toNatClampNeg) p3)) 0 0 (upd (upd (eA h 0 0) ((((p1 + (9 * p2)) + 0)).toNatClampNeg) p3) ((((p1 + (9 * p2)) + 1)).toNatClampNeg) p4)) 0 0 (upd (upd (upd (eA h 0 0) ((((p1 + (9 * p2)) + 0)).toNatClampNeg) p3) ((((p1 + (9 * p2)) + 1)).toNatClampNeg) p4) ((((p1 + (9 * p2)) + 2)).toNatClampNeg) (-1))) 0 0 (upd (upd (upd (upd (eA h 0 0) ((((p1 + (9 * p2)) + 0)).toNatClampNeg) p3) ((((p1 + (9 * p2)) + 1)).toNatClampNeg) p4) ((((p1 + (9 * p2)) + 2)).toNatClampNeg) (-1)) ((((p1 + (9 * p2)) + 3)).toNatClampNeg) (-1))) 0 0 (upd (upd (upd (upd (upd (eA h 0 0) ((((p1 + (9 * p2)) + 0)).toNatClampNeg) p3) ((((p1 + (9 * p2)) + 1)).toNatClampNeg) p4) ((((p1 + (9 * p2)) + 2)).toNatClampNeg) (-1)) ((((p1 + (9 * p2)) + 3)).toNatClampNeg) (-1)) ((((p1 + (9 * p2)) + 4)).toNatClampNeg) 0)) 0 0 (upd (upd (upd (upd (upd (upd (eA h 0 0) ((((p1 + (9 * p2)) + 0)).toNatClampNeg) p3) ((((p1 + (9 * p2)) + 1)).toNatClampNeg) p4) ((((p1 + (9 * p2)) + 2)).toNatClampNeg) (-1)) ((((p1 + (9 * p2)) + 3)).toNatClampNeg) (-1)) ((((p1 + (9 * p2)) + 4)).toNatClampNeg) 0) ((((p1 + (9 * p2)) + 5)).toNatClampNeg) (-1))) 0 0 (upd (upd (upd (upd (upd (upd (upd (eA h 0 0) ((((p1 + (9 * p2)) + 0)).toNatClampNeg) p3) ((((p1 + (9 * p2)) + 1)).toNatClampNeg) p4) ((((p1 + (9 * p2)) + 2)).toNatClampNeg) (-1)) ((((p1 + (9 * p2)) + 3)).toNatClampNeg) (-1)) ((((p1 + (9 * p2)) + 4)).toNatClampNeg) 0) ((((p1 + (9 * p2)) + 5)).toNatClampNeg) (-1)) ((((p1 + (9 * p2)) + 6)).toNatClampNeg) (-1)))) H := hP
  have hD : va_D A (wM m0 r cI cJ cZ cB cT (sA (sA (sA (sA (sA (sA (sA h 0 0 (upd (eA h 0 0) ((((p1 + (9 * p2)) + 0)).toNatClampNeg) p3)) 0 0 (upd (upd (eA h 0 0) ((((p1 + (9 * p2)) + 0)).toNatClampNeg) p3) ((((p1 + (9 * p2)) + 1)).toNatClampNeg) p4)) 0 0 (upd (upd (upd (eA h 0 0) ((((p1 + (9 * p2)) + 0)).toNatClampNeg) p3) ((((p1 + (9 * p2)) + 1)).toNatClampNeg) p4) ((((p1 + (9 * p2)) + 2)).toNatClampNeg) (-1))) 0 0 (upd (upd (upd (upd (eA h 0 0) ((((p1 + (9 * p2)) + 0)).toNatClampNeg) p3) ((((p1 + (9 * p2)) + 1)).toNatClampNeg) p4) ((((p1 + (9 * p2)) + 2)).toNatClampNeg) (-1)) ((((p1 + (9 * p2)) + 3)).toNatClampNeg) (-1))) 0 0 (upd (upd (upd (upd (upd (eA h 0 0) ((((p1 + (9 * p2)) + 0)).toNatClampNeg) p3) ((((p1 + (9 * p2)) + 1)).toNatClampNeg) p4) ((((p1 + (9 * p2)) + 2)).toNatClampNeg) (-1)) ((((p1 + (9 * p2)) + 3)).toNatClampNeg) (-1)) ((((p1 + (9 * p2)) + 4)).toNatClampNeg) 0)) 0 0 (upd (upd (upd (upd (upd (upd (eA h 0 0) ((((p1 + (9 * p2)) + 0)).toNatClampNeg) p3) ((((p1 + (9 * p2)) + 1)).toNatClampNeg) p4) ((((p1 + (9 * p2)) + 2)).toNatClampNeg) (-1)) ((((p1 + (9 * p2)) + 3)).toNatClampNeg) (-1)) ((((p1 + (9 * p2)) + 4)).toNatClampNeg) 0) ((((p1 + (9 * p2)) + 5)).toNatClampNeg) (-1))) 0 0 (upd (upd (upd (upd (upd (upd (upd (eA h 0 0) ((((p1 + (9 * p2)) + 0)).toNatClampNeg) p3) ((((p1 + (9 * p2)) + 1)).toNatClampNeg) p4) ((((p1 + (9 * p2)) + 2)).toNatClampNeg) (-1)) ((((p1 + (9 * p2)) + 3)).toNatClampNeg) (-1)) ((((p1 + (9 * p2)) + 4)).toNatClampNeg) 0) ((((p1 + (9 * p2)) + 5)).toNatClampNeg) (-1)) ((((p1 + (9 * p2)) + 6)).toNatClampNeg) (-1)))) := hD
  refine lv_aload_n hx hb dX9_tellsGoose_80 rfl (lv_at hl 1 rfl) ?_
  refine va_get (D := G) (ci := 9) (v := .ref (r 0)) (C := RX9) (T := TX9) (N := 53) hx hb hts iX9 hown hK hP 0 wM_at0 rfl 0 (by decide) (hts _ m_92) (fun _ h9 => h9) rfl dX9_tellsGoose_81 ?_
  refine lv_iload hx hb dX9_tellsGoose_84 (lv_at hl 0 rfl) ?_
  refine lv_bipush (v := 7) hx hb dX9_tellsGoose_86 (by decide) ?_
  refine lv_iadd hx hb dX9_tellsGoose_88 ?_
  refine lv_iconst (v := (-1)) hx hb dX9_tellsGoose_89 (by decide) ?_
  obtain ⟨hi_8, hF⟩ := ob_if hF
  refine va_iast (D := G) hx hb hK hP hD hS 1 0 wM_at1 rfl (vp_in_iff.mpr hi_8) dX9_tellsGoose_90 (fun H locs hP hD hS => ?_)
  rw [wM_sA1] at hP hD
  have hP : va_P G vwCl (wM m0 r cI cJ cZ cB cT (sA (sA (sA (sA (sA (sA (sA (sA h 0 0 (upd (eA h 0 0) ((((p1 + (9 * p2)) + 0)).toNatClampNeg) p3)) 0 0 (upd (upd (eA h 0 0) ((((p1 + (9 * p2)) + 0)).toNatClampNeg) p3) ((((p1 + (9 * p2)) + 1)).toNatClampNeg) p4)) 0 0 (upd (upd (upd (eA h 0 0) ((((p1 + (9 * p2)) + 0)).toNatClampNeg) p3) ((((p1 + (9 * p2)) + 1)).toNatClampNeg) p4) ((((p1 + (9 * p2)) + 2)).toNatClampNeg) (-1))) 0 0 (upd (upd (upd (upd (eA h 0 0) ((((p1 + (9 * p2)) + 0)).toNatClampNeg) p3) ((((p1 + (9 * p2)) + 1)).toNatClampNeg) p4) ((((p1 + (9 * p2)) + 2)).toNatClampNeg) (-1)) ((((p1 + (9 * p2)) + 3)).toNatClampNeg) (-1))) 0 0 (upd (upd (upd (upd (upd (eA h 0 0) ((((p1 + (9 * p2)) + 0)).toNatClampNeg) p3) ((((p1 + (9 * p2)) + 1)).toNatClampNeg) p4) ((((p1 + (9 * p2)) + 2)).toNatClampNeg) (-1)) ((((p1 + (9 * p2)) + 3)).toNatClampNeg) (-1)) ((((p1 + (9 * p2)) + 4)).toNatClampNeg) 0)) 0 0 (upd (upd (upd (upd (upd (upd (eA h 0 0) ((((p1 + (9 * p2)) + 0)).toNatClampNeg) p3) ((((p1 + (9 * p2)) + 1)).toNatClampNeg) p4) ((((p1 + (9 * p2)) + 2)).toNatClampNeg) (-1)) ((((p1 + (9 * p2)) + 3)).toNatClampNeg) (-1)) ((((p1 + (9 * p2)) + 4)).toNatClampNeg) 0) ((((p1 + (9 * p2)) + 5)).toNatClampNeg) (-1))) 0 0 (upd (upd (upd (upd (upd (upd (upd (eA h 0 0) ((((p1 + (9 * p2)) + 0)).toNatClampNeg) p3) ((((p1 + (9 * p2)) + 1)).toNatClampNeg) p4) ((((p1 + (9 * p2)) + 2)).toNatClampNeg) (-1)) ((((p1 + (9 * p2)) + 3)).toNatClampNeg) (-1)) ((((p1 + (9 * p2)) + 4)).toNatClampNeg) 0) ((((p1 + (9 * p2)) + 5)).toNatClampNeg) (-1)) ((((p1 + (9 * p2)) + 6)).toNatClampNeg) (-1))) 0 0 (upd (upd (upd (upd (upd (upd (upd (upd (eA h 0 0) ((((p1 + (9 * p2)) + 0)).toNatClampNeg) p3) ((((p1 + (9 * p2)) + 1)).toNatClampNeg) p4) ((((p1 + (9 * p2)) + 2)).toNatClampNeg) (-1)) ((((p1 + (9 * p2)) + 3)).toNatClampNeg) (-1)) ((((p1 + (9 * p2)) + 4)).toNatClampNeg) 0) ((((p1 + (9 * p2)) + 5)).toNatClampNeg) (-1)) ((((p1 + (9 * p2)) + 6)).toNatClampNeg) (-1)) ((((p1 + (9 * p2)) + 7)).toNatClampNeg) (-1)))) H := hP
  have hD : va_D A (wM m0 r cI cJ cZ cB cT (sA (sA (sA (sA (sA (sA (sA (sA h 0 0 (upd (eA h 0 0) ((((p1 + (9 * p2)) + 0)).toNatClampNeg) p3)) 0 0 (upd (upd (eA h 0 0) ((((p1 + (9 * p2)) + 0)).toNatClampNeg) p3) ((((p1 + (9 * p2)) + 1)).toNatClampNeg) p4)) 0 0 (upd (upd (upd (eA h 0 0) ((((p1 + (9 * p2)) + 0)).toNatClampNeg) p3) ((((p1 + (9 * p2)) + 1)).toNatClampNeg) p4) ((((p1 + (9 * p2)) + 2)).toNatClampNeg) (-1))) 0 0 (upd (upd (upd (upd (eA h 0 0) ((((p1 + (9 * p2)) + 0)).toNatClampNeg) p3) ((((p1 + (9 * p2)) + 1)).toNatClampNeg) p4) ((((p1 + (9 * p2)) + 2)).toNatClampNeg) (-1)) ((((p1 + (9 * p2)) + 3)).toNatClampNeg) (-1))) 0 0 (upd (upd (upd (upd (upd (eA h 0 0) ((((p1 + (9 * p2)) + 0)).toNatClampNeg) p3) ((((p1 + (9 * p2)) + 1)).toNatClampNeg) p4) ((((p1 + (9 * p2)) + 2)).toNatClampNeg) (-1)) ((((p1 + (9 * p2)) + 3)).toNatClampNeg) (-1)) ((((p1 + (9 * p2)) + 4)).toNatClampNeg) 0)) 0 0 (upd (upd (upd (upd (upd (upd (eA h 0 0) ((((p1 + (9 * p2)) + 0)).toNatClampNeg) p3) ((((p1 + (9 * p2)) + 1)).toNatClampNeg) p4) ((((p1 + (9 * p2)) + 2)).toNatClampNeg) (-1)) ((((p1 + (9 * p2)) + 3)).toNatClampNeg) (-1)) ((((p1 + (9 * p2)) + 4)).toNatClampNeg) 0) ((((p1 + (9 * p2)) + 5)).toNatClampNeg) (-1))) 0 0 (upd (upd (upd (upd (upd (upd (upd (eA h 0 0) ((((p1 + (9 * p2)) + 0)).toNatClampNeg) p3) ((((p1 + (9 * p2)) + 1)).toNatClampNeg) p4) ((((p1 + (9 * p2)) + 2)).toNatClampNeg) (-1)) ((((p1 + (9 * p2)) + 3)).toNatClampNeg) (-1)) ((((p1 + (9 * p2)) + 4)).toNatClampNeg) 0) ((((p1 + (9 * p2)) + 5)).toNatClampNeg) (-1)) ((((p1 + (9 * p2)) + 6)).toNatClampNeg) (-1))) 0 0 (upd (upd (upd (upd (upd (upd (upd (upd (eA h 0 0) ((((p1 + (9 * p2)) + 0)).toNatClampNeg) p3) ((((p1 + (9 * p2)) + 1)).toNatClampNeg) p4) ((((p1 + (9 * p2)) + 2)).toNatClampNeg) (-1)) ((((p1 + (9 * p2)) + 3)).toNatClampNeg) (-1)) ((((p1 + (9 * p2)) + 4)).toNatClampNeg) 0) ((((p1 + (9 * p2)) + 5)).toNatClampNeg) (-1)) ((((p1 + (9 * p2)) + 6)).toNatClampNeg) (-1)) ((((p1 + (9 * p2)) + 7)).toNatClampNeg) (-1)))) := hD
  refine lv_aload_n hx hb dX9_tellsGoose_91 rfl (lv_at hl 1 rfl) ?_
  refine va_get (D := G) (ci := 9) (v := .ref (r 0)) (C := RX9) (T := TX9) (N := 53) hx hb hts iX9 hown hK hP 0 wM_at0 rfl 0 (by decide) (hts _ m_92) (fun _ h9 => h9) rfl dX9_tellsGoose_92 ?_
  refine lv_iload hx hb dX9_tellsGoose_95 (lv_at hl 0 rfl) ?_
  refine lv_bipush (v := 8) hx hb dX9_tellsGoose_97 (by decide) ?_
  refine lv_iadd hx hb dX9_tellsGoose_99 ?_
  refine lv_iconst (v := 0) hx hb dX9_tellsGoose_100 (by decide) ?_
  obtain ⟨hi_9, hF⟩ := ob_if hF
  refine va_iast (D := G) hx hb hK hP hD hS 1 0 wM_at1 rfl (vp_in_iff.mpr hi_9) dX9_tellsGoose_101 (fun H locs hP hD hS => ?_)
  rw [wM_sA1] at hP hD
  have hP : va_P G vwCl (wM m0 r cI cJ cZ cB cT (sA (sA (sA (sA (sA (sA (sA (sA (sA h 0 0 (upd (eA h 0 0) ((((p1 + (9 * p2)) + 0)).toNatClampNeg) p3)) 0 0 (upd (upd (eA h 0 0) ((((p1 + (9 * p2)) + 0)).toNatClampNeg) p3) ((((p1 + (9 * p2)) + 1)).toNatClampNeg) p4)) 0 0 (upd (upd (upd (eA h 0 0) ((((p1 + (9 * p2)) + 0)).toNatClampNeg) p3) ((((p1 + (9 * p2)) + 1)).toNatClampNeg) p4) ((((p1 + (9 * p2)) + 2)).toNatClampNeg) (-1))) 0 0 (upd (upd (upd (upd (eA h 0 0) ((((p1 + (9 * p2)) + 0)).toNatClampNeg) p3) ((((p1 + (9 * p2)) + 1)).toNatClampNeg) p4) ((((p1 + (9 * p2)) + 2)).toNatClampNeg) (-1)) ((((p1 + (9 * p2)) + 3)).toNatClampNeg) (-1))) 0 0 (upd (upd (upd (upd (upd (eA h 0 0) ((((p1 + (9 * p2)) + 0)).toNatClampNeg) p3) ((((p1 + (9 * p2)) + 1)).toNatClampNeg) p4) ((((p1 + (9 * p2)) + 2)).toNatClampNeg) (-1)) ((((p1 + (9 * p2)) + 3)).toNatClampNeg) (-1)) ((((p1 + (9 * p2)) + 4)).toNatClampNeg) 0)) 0 0 (upd (upd (upd (upd (upd (upd (eA h 0 0) ((((p1 + (9 * p2)) + 0)).toNatClampNeg) p3) ((((p1 + (9 * p2)) + 1)).toNatClampNeg) p4) ((((p1 + (9 * p2)) + 2)).toNatClampNeg) (-1)) ((((p1 + (9 * p2)) + 3)).toNatClampNeg) (-1)) ((((p1 + (9 * p2)) + 4)).toNatClampNeg) 0) ((((p1 + (9 * p2)) + 5)).toNatClampNeg) (-1))) 0 0 (upd (upd (upd (upd (upd (upd (upd (eA h 0 0) ((((p1 + (9 * p2)) + 0)).toNatClampNeg) p3) ((((p1 + (9 * p2)) + 1)).toNatClampNeg) p4) ((((p1 + (9 * p2)) + 2)).toNatClampNeg) (-1)) ((((p1 + (9 * p2)) + 3)).toNatClampNeg) (-1)) ((((p1 + (9 * p2)) + 4)).toNatClampNeg) 0) ((((p1 + (9 * p2)) + 5)).toNatClampNeg) (-1)) ((((p1 + (9 * p2)) + 6)).toNatClampNeg) (-1))) 0 0 (upd (upd (upd (upd (upd (upd (upd (upd (eA h 0 0) ((((p1 + (9 * p2)) + 0)).toNatClampNeg) p3) ((((p1 + (9 * p2)) + 1)).toNatClampNeg) p4) ((((p1 + (9 * p2)) + 2)).toNatClampNeg) (-1)) ((((p1 + (9 * p2)) + 3)).toNatClampNeg) (-1)) ((((p1 + (9 * p2)) + 4)).toNatClampNeg) 0) ((((p1 + (9 * p2)) + 5)).toNatClampNeg) (-1)) ((((p1 + (9 * p2)) + 6)).toNatClampNeg) (-1)) ((((p1 + (9 * p2)) + 7)).toNatClampNeg) (-1))) 0 0 (upd (upd (upd (upd (upd (upd (upd (upd (upd (eA h 0 0) ((((p1 + (9 * p2)) + 0)).toNatClampNeg) p3) ((((p1 + (9 * p2)) + 1)).toNatClampNeg) p4) ((((p1 + (9 * p2)) + 2)).toNatClampNeg) (-1)) ((((p1 + (9 * p2)) + 3)).toNatClampNeg) (-1)) ((((p1 + (9 * p2)) + 4)).toNatClampNeg) 0) ((((p1 + (9 * p2)) + 5)).toNatClampNeg) (-1)) ((((p1 + (9 * p2)) + 6)).toNatClampNeg) (-1)) ((((p1 + (9 * p2)) + 7)).toNatClampNeg) (-1)) ((((p1 + (9 * p2)) + 8)).toNatClampNeg) 0))) H := hP
  have hD : va_D A (wM m0 r cI cJ cZ cB cT (sA (sA (sA (sA (sA (sA (sA (sA (sA h 0 0 (upd (eA h 0 0) ((((p1 + (9 * p2)) + 0)).toNatClampNeg) p3)) 0 0 (upd (upd (eA h 0 0) ((((p1 + (9 * p2)) + 0)).toNatClampNeg) p3) ((((p1 + (9 * p2)) + 1)).toNatClampNeg) p4)) 0 0 (upd (upd (upd (eA h 0 0) ((((p1 + (9 * p2)) + 0)).toNatClampNeg) p3) ((((p1 + (9 * p2)) + 1)).toNatClampNeg) p4) ((((p1 + (9 * p2)) + 2)).toNatClampNeg) (-1))) 0 0 (upd (upd (upd (upd (eA h 0 0) ((((p1 + (9 * p2)) + 0)).toNatClampNeg) p3) ((((p1 + (9 * p2)) + 1)).toNatClampNeg) p4) ((((p1 + (9 * p2)) + 2)).toNatClampNeg) (-1)) ((((p1 + (9 * p2)) + 3)).toNatClampNeg) (-1))) 0 0 (upd (upd (upd (upd (upd (eA h 0 0) ((((p1 + (9 * p2)) + 0)).toNatClampNeg) p3) ((((p1 + (9 * p2)) + 1)).toNatClampNeg) p4) ((((p1 + (9 * p2)) + 2)).toNatClampNeg) (-1)) ((((p1 + (9 * p2)) + 3)).toNatClampNeg) (-1)) ((((p1 + (9 * p2)) + 4)).toNatClampNeg) 0)) 0 0 (upd (upd (upd (upd (upd (upd (eA h 0 0) ((((p1 + (9 * p2)) + 0)).toNatClampNeg) p3) ((((p1 + (9 * p2)) + 1)).toNatClampNeg) p4) ((((p1 + (9 * p2)) + 2)).toNatClampNeg) (-1)) ((((p1 + (9 * p2)) + 3)).toNatClampNeg) (-1)) ((((p1 + (9 * p2)) + 4)).toNatClampNeg) 0) ((((p1 + (9 * p2)) + 5)).toNatClampNeg) (-1))) 0 0 (upd (upd (upd (upd (upd (upd (upd (eA h 0 0) ((((p1 + (9 * p2)) + 0)).toNatClampNeg) p3) ((((p1 + (9 * p2)) + 1)).toNatClampNeg) p4) ((((p1 + (9 * p2)) + 2)).toNatClampNeg) (-1)) ((((p1 + (9 * p2)) + 3)).toNatClampNeg) (-1)) ((((p1 + (9 * p2)) + 4)).toNatClampNeg) 0) ((((p1 + (9 * p2)) + 5)).toNatClampNeg) (-1)) ((((p1 + (9 * p2)) + 6)).toNatClampNeg) (-1))) 0 0 (upd (upd (upd (upd (upd (upd (upd (upd (eA h 0 0) ((((p1 + (9 * p2)) + 0)).toNatClampNeg) p3) ((((p1 + (9 * p2)) + 1)).toNatClampNeg) p4) ((((p1 + (9 * p2)) + 2)).toNatClampNeg) (-1)) ((((p1 + (9 * p2)) + 3)).toNatClampNeg) (-1)) ((((p1 + (9 * p2)) + 4)).toNatClampNeg) 0) ((((p1 + (9 * p2)) + 5)).toNatClampNeg) (-1)) ((((p1 + (9 * p2)) + 6)).toNatClampNeg) (-1)) ((((p1 + (9 * p2)) + 7)).toNatClampNeg) (-1))) 0 0 (upd (upd (upd (upd (upd (upd (upd (upd (upd (eA h 0 0) ((((p1 + (9 * p2)) + 0)).toNatClampNeg) p3) ((((p1 + (9 * p2)) + 1)).toNatClampNeg) p4) ((((p1 + (9 * p2)) + 2)).toNatClampNeg) (-1)) ((((p1 + (9 * p2)) + 3)).toNatClampNeg) (-1)) ((((p1 + (9 * p2)) + 4)).toNatClampNeg) 0) ((((p1 + (9 * p2)) + 5)).toNatClampNeg) (-1)) ((((p1 + (9 * p2)) + 6)).toNatClampNeg) (-1)) ((((p1 + (9 * p2)) + 7)).toNatClampNeg) (-1)) ((((p1 + (9 * p2)) + 8)).toNatClampNeg) 0))) := hD
  obtain rfl := ob_one hF
  exact gw_vret () hx hb hr hlocks hP hD hS trivial dX9_tellsGoose_102
def f_X9_goose_31 (h : HS) : Option (Int32 × HS) := (some ((-1), h))
def f_X9_goose_49 : Nat → HS → Int32 → Int32 → Int32 → Option (Int32 × HS)
  | 0, _, _, _, _ => none
  | n + 1, h, x1, x2, x3 => (if ((eA h 0 0) 5) ≤ x3 then (some ((((upd (eA h 0 0) 1 (((eA h 0 0) 1) + 1)) 1) - 1), (sA h 0 0 (upd (eA h 0 0) 1 (((eA h 0 0) 1) + 1))))) else (ob1 (f_X9_tellsGoose h (130 + (93 * x3)) ((eA h 0 0) 1) x1 x2) (fun h_8 => ((f_X9_goose_49 n) h_8 x1 x2 (x3 + 1)))))
theorem f_X9_goose_49_s (n : Nat) (h : HS) (x1 : Int32) (x2 : Int32) (x3 : Int32) : f_X9_goose_49 (n + 1) h x1 x2 x3 = (if ((eA h 0 0) 5) ≤ x3 then (some ((((upd (eA h 0 0) 1 (((eA h 0 0) 1) + 1)) 1) - 1), (sA h 0 0 (upd (eA h 0 0) 1 (((eA h 0 0) 1) + 1))))) else (ob1 (f_X9_tellsGoose h (130 + (93 * x3)) ((eA h 0 0) 1) x1 x2) (fun h_8 => ((f_X9_goose_49 n) h_8 x1 x2 (x3 + 1))))) := rfl
def f_X9_goose (h : HS) (p1 : Int32) (p2 : Int32) : Option (Int32 × HS) := (ob1 (f_X9_in p1 1 20) (fun r_1 => (if r_1 = 0 then (f_X9_goose_31 h) else (ob1 (f_X9_in p2 0 99) (fun r_3 => (if r_3 = 0 then (f_X9_goose_31 h) else (if ((eA h 0 0) 1) = 10 then (f_X9_goose_31 h) else (ob1 (f_X9_tellsGoose h 30 ((eA h 0 0) 1) p1 p2) (fun h_6 => (f_X9_goose_49 8589934592 h_6 p1 p2 0))))))))))
theorem e_X9_tellsGoose : yX9_tellsGoose.cls = RX9 ∧ yX9_tellsGoose.cls ≠ "java/lang/invoke/MethodHandle" ∧ yX9_tellsGoose.cls ≠ "java/lang/invoke/VarHandle" ∧ (parseMethodDescriptor yX9_tellsGoose.desc).map (fun d => d.parameters.length) = some 4 := by decide +kernel
set_option maxHeartbeats 4000000 in
set_option maxRecDepth 100000 in
theorem c_X9_goose (l : Launch) (G : va_G) (cI cJ cZ cB cT : ClassId) (m0 : Nat) (r : Nat → Nat) (h : HS) (p1 : Int32) (p2 : Int32) (rr : Int32) (hh : HS) (hF : f_X9_goose h p1 p2 = some (rr, hh)) : gMi l yX9_goose (gws yX9_goose cX9_goose 4 (some .int)) 2 G (gT cI cJ cZ cB cT) [.ref m0, .int p1, .int p2] (wM m0 r cI cJ cZ cB cT h) (fun x (_ : Unit) => x = rr) (fun (_ : Unit) => (wM m0 r cI cJ cZ cB cT hh)) := by
  intro sz
  refine gM_start (y := yX9_goose) (av := [.ref m0, .int p1, .int p2]) (ws := (wM m0 r cI cJ cZ cB cT h)) (Qf := fun A => va_Qi (fun x (_ : Unit) => x = rr) (gB G (fun (_ : Unit) => (wM m0 r cI cJ cZ cB cT hh)) A) A) (cc := cX9_goose) (maxL := 4) (ret := (some .int)) (by decide) (Nat.le_of_ble_eq_true rfl) ?_
  intro p e s m args below meth c A ls H hx hb hr hts hown hin hlocks hml hP hK hD hA hS hl hE
  have hl : lv_has ls 4 [(0, .ref m0), (1, .int p1), (2, .int p2)] := hl
  have hJ_31 : ∀ (h : HS), f_X9_goose_31 h = some (rr, hh) → ∀ (H : Heap) (locs : List Loc) (ls : Array Slot), va_P G vwCl (wM m0 r cI cJ cZ cB cT h) H → va_D A (wM m0 r cI cJ cZ cB cT h) → va_S A s.heap H locs → lv_has ls 4 [] → W p l e (gRm 2) s m args below meth c H locs 0 0 (MQ below (va_Qi (fun x (_ : Unit) => x = rr) (gB G (fun (_ : Unit) => (wM m0 r cI cJ cZ cB cT hh)) A) A) args s 0 0 A) (F0 m 31 ls []) := by
    intro h hF H locs ls hP hD hS hl
    unfold f_X9_goose_31 at hF
    refine lv_iconst (v := (-1)) hx hb dX9_goose_31 (by decide) ?_
    obtain ⟨rfl, rfl⟩ := ob_pair hF
    exact gw_iret () hx hb hr hlocks hP hD hS rfl dX9_goose_32
  have hJ_49 : ∀ (n_49 : Nat) (h : HS) (x1 : Int32) (x2 : Int32) (x3 : Int32), f_X9_goose_49 n_49 h x1 x2 x3 = some (rr, hh) → ∀ (H : Heap) (locs : List Loc) (ls : Array Slot), va_P G vwCl (wM m0 r cI cJ cZ cB cT h) H → va_D A (wM m0 r cI cJ cZ cB cT h) → va_S A s.heap H locs → lv_has ls 4 [(0, .ref m0), (1, .int x1), (2, .int x2), (3, .int x3)] → W p l e (gRm 2) s m args below meth c H locs 0 0 (MQ below (va_Qi (fun x (_ : Unit) => x = rr) (gB G (fun (_ : Unit) => (wM m0 r cI cJ cZ cB cT hh)) A) A) args s 0 0 A) (F0 m 49 ls []) := by
    intro n_49
    induction n_49 with
    | zero =>
      intro h x1 x2 x3 hF
      exact absurd hF (by simp [f_X9_goose_49])
    | succ n_49 ih_49 =>
      intro h x1 x2 x3 hF H locs ls hP hD hS hl
      rw [f_X9_goose_49_s] at hF
      refine lv_iload_n hx hb dX9_goose_49 rfl (lv_at hl 3 rfl) ?_
      refine lv_aload_n hx hb dX9_goose_50 rfl (lv_at hl 0 rfl) ?_
      refine va_get (D := G) (ci := 9) (v := .ref (r 0)) (C := RX9) (T := TX9) (N := 53) hx hb hts iX9 hown hK hP 0 wM_at0 rfl 0 (by decide) (hts _ m_92) (fun _ h9 => h9) rfl dX9_goose_51 ?_
      refine lv_iconst (v := 5) hx hb dX9_goose_54 (by decide) ?_
      refine va_iald (D := G) hx hb hK hP 1 0 wM_at1 rfl (vp_in_nI (n := 5) (by decide) (by decide)) dX9_goose_55 ?_
      refine gw_topi (y := ((eA h 0 0) 5)) rfl ?_
      refine lv_icmp_ge (tgt := 85) hx hb dX9_goose_56 (by decide) (fun c_7 => ?_) (fun c_7 => ?_)
      · have hF := ob_pos c_7 hF
        refine lv_aload_n hx hb dX9_goose_85 rfl (lv_at hl 0 rfl) ?_
        refine va_get (D := G) (ci := 9) (v := .ref (r 0)) (C := RX9) (T := TX9) (N := 53) hx hb hts iX9 hown hK hP 0 wM_at0 rfl 0 (by decide) (hts _ m_92) (fun _ h9 => h9) rfl dX9_goose_86 ?_
        refine lv_iconst (v := 1) hx hb dX9_goose_89 (by decide) ?_
        refine lv_dup2_11 hx hb dX9_goose_90 rfl rfl ?_
        refine va_iald (D := G) hx hb hK hP 1 0 wM_at1 rfl (vp_in_nI (n := 1) (by decide) (by decide)) dX9_goose_91 ?_
        refine gw_topi (y := ((eA h 0 0) 1)) rfl ?_
        refine lv_iconst (v := 1) hx hb dX9_goose_92 (by decide) ?_
        refine lv_iadd hx hb dX9_goose_93 ?_
        refine va_iast (D := G) hx hb hK hP hD hS 1 0 wM_at1 rfl (vp_in_nI (n := 1) (by decide) (by decide)) dX9_goose_94 (fun H locs hP hD hS => ?_)
        rw [wM_sA1] at hP hD
        have hP : va_P G vwCl (wM m0 r cI cJ cZ cB cT (sA h 0 0 (upd (eA h 0 0) 1 (((eA h 0 0) 1) + 1)))) H := hP
        have hD : va_D A (wM m0 r cI cJ cZ cB cT (sA h 0 0 (upd (eA h 0 0) 1 (((eA h 0 0) 1) + 1)))) := hD
        refine lv_aload_n hx hb dX9_goose_95 rfl (lv_at hl 0 rfl) ?_
        refine va_get (D := G) (ci := 9) (v := .ref (r 0)) (C := RX9) (T := TX9) (N := 53) hx hb hts iX9 hown hK hP 0 wM_at0 rfl 0 (by decide) (hts _ m_92) (fun _ h9 => h9) rfl dX9_goose_96 ?_
        refine lv_iconst (v := 1) hx hb dX9_goose_99 (by decide) ?_
        refine va_iald (D := G) hx hb hK hP 1 0 wM_at1 rfl (vp_in_nI (n := 1) (by decide) (by decide)) dX9_goose_100 ?_
        refine gw_topi (y := ((upd (eA h 0 0) 1 (((eA h 0 0) 1) + 1)) 1)) rfl ?_
        refine lv_iconst (v := 1) hx hb dX9_goose_101 (by decide) ?_
        refine lv_isub hx hb dX9_goose_102 ?_
        obtain ⟨rfl, rfl⟩ := ob_pair hF
        exact gw_iret () hx hb hr hlocks hP hD hS rfl dX9_goose_103
      · have hF := ob_neg c_7 hF
        refine lv_aload_n hx hb dX9_goose_59 rfl (lv_at hl 0 rfl) ?_
        refine lv_sipush (v := 130) hx hb dX9_goose_60 (by decide) ?_
        refine lv_bipush (v := 93) hx hb dX9_goose_63 (by decide) ?_
        refine lv_iload_n hx hb dX9_goose_65 rfl (lv_at hl 3 rfl) ?_
        refine lv_imul hx hb dX9_goose_66 ?_
        refine lv_iadd hx hb dX9_goose_67 ?_
        refine lv_aload_n hx hb dX9_goose_68 rfl (lv_at hl 0 rfl) ?_
        refine va_get (D := G) (ci := 9) (v := .ref (r 0)) (C := RX9) (T := TX9) (N := 53) hx hb hts iX9 hown hK hP 0 wM_at0 rfl 0 (by decide) (hts _ m_92) (fun _ h9 => h9) rfl dX9_goose_69 ?_
        refine lv_iconst (v := 1) hx hb dX9_goose_72 (by decide) ?_
        refine va_iald (D := G) hx hb hK hP 1 0 wM_at1 rfl (vp_in_nI (n := 1) (by decide) (by decide)) dX9_goose_73 ?_
        refine gw_topi (y := ((eA h 0 0) 1)) rfl ?_
        refine lv_iload_n hx hb dX9_goose_74 rfl (lv_at hl 1 rfl) ?_
        refine lv_iload_n hx hb dX9_goose_75 rfl (lv_at hl 2 rfl) ?_
        obtain ⟨h_8, e_8, hF⟩ := ob1_some hF
        refine gx_callv (gx_runV (As := [.int (130 + (93 * x3)), .int ((eA h 0 0) 1), .int x1, .int x2]) (rest := []) ⟨hx, hb, hml, hown, hts⟩ (c_X9_tellsGoose l G cI cJ cZ cB cT m0 r h (130 + (93 * x3)) ((eA h 0 0) 1) x1 x2 h_8 e_8 H.size) (gG_V m_95 m_96 m_97 m_64 m_94) rfl e_X9_tellsGoose ⟨Nat.le_of_ble_eq_true rfl, Nat.le_of_ble_eq_true rfl⟩ hK hP hD hE hS hA 0 wM_at0 rfl rfl hl.1 rfl (Nat.le_of_ble_eq_true rfl) dX9_goose_76 ⟨Nat.le_refl _, Nat.le_refl _⟩) hP hD hS hA (fun u_8 H locs hw_8 hP hD hS => ?_)
        refine lv_iinc (v := (x3 + 1)) (lv' := [(3, .int (x3 + 1)), (0, .ref m0), (1, .int x1), (2, .int x2)]) hx hb dX9_goose_79 hl (k := 3) rfl rfl (by decide) rfl (fun ls hl => ?_)
        refine lv_goto (tgt := 49) hx hb dX9_goose_82 (by decide) ?_
        exact ih_49 h_8 x1 x2 (x3 + 1) hF H _ ls hP hD hS (lv_sub hl [1, 2, 3, 0] rfl)
  unfold f_X9_goose at hF
  refine lv_iload_n hx hb dX9_goose_0 rfl (lv_at hl 1 rfl) ?_
  refine lv_iconst (v := 1) hx hb dX9_goose_1 (by decide) ?_
  refine lv_bipush (v := 20) hx hb dX9_goose_2 (by decide) ?_
  obtain ⟨r_1, e_1, hF⟩ := ob1_some hF
  refine gx_calli0 (gx_runS0 (As := [.int p1, .int 1, .int 20]) (rest := []) ⟨hx, hb, hml, hown, hts⟩ (c_X9_in l G cI cJ cZ cB cT   p1 1 20 r_1 e_1 H.size) (gG_S m_62 m_63 m_64 m_61) rfl e_X9_in ⟨Nat.le_of_ble_eq_true rfl, Nat.le_of_ble_eq_true rfl⟩ hK hE hS hA rfl hl.1 rfl (Nat.le_of_ble_eq_true rfl) dX9_goose_4 ⟨Nat.le_refl _, Nat.le_refl _⟩) hP hD hS hA (fun x_1 u_1 H locs hw_1 hP hD hS => ?_)
  subst x_1
  refine lv_if_eq (tgt := 31) hx hb dX9_goose_7 (by decide) (fun c_2 => ?_) (fun c_2 => ?_)
  · have hF := ob_pos c_2 hF
    exact hJ_31 h hF H _ ls hP hD hS (lv_sub hl [] rfl)
  · have hF := ob_neg c_2 hF
    refine lv_iload_n hx hb dX9_goose_10 rfl (lv_at hl 2 rfl) ?_
    refine lv_iconst (v := 0) hx hb dX9_goose_11 (by decide) ?_
    refine lv_bipush (v := 99) hx hb dX9_goose_12 (by decide) ?_
    obtain ⟨r_3, e_3, hF⟩ := ob1_some hF
    refine gx_calli0 (gx_runS0 (As := [.int p2, .int 0, .int 99]) (rest := []) ⟨hx, hb, hml, hown, hts⟩ (c_X9_in l G cI cJ cZ cB cT   p2 0 99 r_3 e_3 H.size) (gG_S m_62 m_63 m_64 m_61) rfl e_X9_in ⟨Nat.le_of_ble_eq_true rfl, Nat.le_of_ble_eq_true rfl⟩ hK hE hS hA rfl hl.1 rfl (Nat.le_of_ble_eq_true rfl) dX9_goose_14 ⟨Nat.le_refl _, Nat.le_refl _⟩) hP hD hS hA (fun x_3 u_3 H locs hw_3 hP hD hS => ?_)
    subst x_3
    refine lv_if_eq (tgt := 31) hx hb dX9_goose_17 (by decide) (fun c_4 => ?_) (fun c_4 => ?_)
    · have hF := ob_pos c_4 hF
      exact hJ_31 h hF H _ ls hP hD hS (lv_sub hl [] rfl)
    · have hF := ob_neg c_4 hF
      refine lv_aload_n hx hb dX9_goose_20 rfl (lv_at hl 0 rfl) ?_
      refine va_get (D := G) (ci := 9) (v := .ref (r 0)) (C := RX9) (T := TX9) (N := 53) hx hb hts iX9 hown hK hP 0 wM_at0 rfl 0 (by decide) (hts _ m_92) (fun _ h9 => h9) rfl dX9_goose_21 ?_
      refine lv_iconst (v := 1) hx hb dX9_goose_24 (by decide) ?_
      refine va_iald (D := G) hx hb hK hP 1 0 wM_at1 rfl (vp_in_nI (n := 1) (by decide) (by decide)) dX9_goose_25 ?_
      refine gw_topi (y := ((eA h 0 0) 1)) rfl ?_
      refine lv_bipush (v := 10) hx hb dX9_goose_26 (by decide) ?_
      refine lv_icmp_ne (tgt := 33) hx hb dX9_goose_28 (by decide) (fun c_5 => ?_) (fun c_5 => ?_)
      · have hF := ob_neg c_5 hF
        refine lv_aload_n hx hb dX9_goose_33 rfl (lv_at hl 0 rfl) ?_
        refine lv_bipush (v := 30) hx hb dX9_goose_34 (by decide) ?_
        refine lv_aload_n hx hb dX9_goose_36 rfl (lv_at hl 0 rfl) ?_
        refine va_get (D := G) (ci := 9) (v := .ref (r 0)) (C := RX9) (T := TX9) (N := 53) hx hb hts iX9 hown hK hP 0 wM_at0 rfl 0 (by decide) (hts _ m_92) (fun _ h9 => h9) rfl dX9_goose_37 ?_
        refine lv_iconst (v := 1) hx hb dX9_goose_40 (by decide) ?_
        refine va_iald (D := G) hx hb hK hP 1 0 wM_at1 rfl (vp_in_nI (n := 1) (by decide) (by decide)) dX9_goose_41 ?_
        refine gw_topi (y := ((eA h 0 0) 1)) rfl ?_
        refine lv_iload_n hx hb dX9_goose_42 rfl (lv_at hl 1 rfl) ?_
        refine lv_iload_n hx hb dX9_goose_43 rfl (lv_at hl 2 rfl) ?_
        obtain ⟨h_6, e_6, hF⟩ := ob1_some hF
        refine gx_callv (gx_runV (As := [.int 30, .int ((eA h 0 0) 1), .int p1, .int p2]) (rest := []) ⟨hx, hb, hml, hown, hts⟩ (c_X9_tellsGoose l G cI cJ cZ cB cT m0 r h 30 ((eA h 0 0) 1) p1 p2 h_6 e_6 H.size) (gG_V m_95 m_96 m_97 m_64 m_94) rfl e_X9_tellsGoose ⟨Nat.le_of_ble_eq_true rfl, Nat.le_of_ble_eq_true rfl⟩ hK hP hD hE hS hA 0 wM_at0 rfl rfl hl.1 rfl (Nat.le_of_ble_eq_true rfl) dX9_goose_44 ⟨Nat.le_refl _, Nat.le_refl _⟩) hP hD hS hA (fun u_6 H locs hw_6 hP hD hS => ?_)
        refine lv_iconst (v := 0) hx hb dX9_goose_47 (by decide) ?_
        refine lv_istore_n (lv' := [(3, .int 0), (0, .ref m0), (1, .int p1), (2, .int p2)]) hx hb dX9_goose_48 rfl hl (by decide) rfl (fun ls hl => ?_)
        exact hJ_49 8589934592 h_6 p1 p2 0 hF H _ ls hP hD hS (lv_sub hl [1, 2, 3, 0] rfl)
      · have hF := ob_pos c_5 hF
        exact hJ_31 h hF H _ ls hP hD hS (lv_sub hl [] rfl)
def f_X9_store_21 (h : HS) : Option (Int32 × HS) := (some (0, h))
def f_X9_store (h : HS) (p1 : Int32) (p2 : Int32) : Option (Int32 × HS) := (ob1 (f_X9_in p1 0 9999) (fun r_1 => (if r_1 = 0 then (f_X9_store_21 h) else (ob1 (f_X9_in p2 0 99) (fun r_3 => (if r_3 = 0 then (f_X9_store_21 h) else (some (1, (sA (sA h 0 0 (upd (eA h 0 0) 120 p1)) 0 0 (upd (upd (eA h 0 0) 120 p1) 2 p2))))))))))
set_option maxHeartbeats 4000000 in
set_option maxRecDepth 100000 in
theorem c_X9_store (l : Launch) (G : va_G) (cI cJ cZ cB cT : ClassId) (m0 : Nat) (r : Nat → Nat) (h : HS) (p1 : Int32) (p2 : Int32) (rr : Int32) (hh : HS) (hF : f_X9_store h p1 p2 = some (rr, hh)) : gMi l yX9_store (gws yX9_store cX9_store 3 (some .boolean)) 2 G (gT cI cJ cZ cB cT) [.ref m0, .int p1, .int p2] (wM m0 r cI cJ cZ cB cT h) (fun x (_ : Unit) => x = rr) (fun (_ : Unit) => (wM m0 r cI cJ cZ cB cT hh)) := by
  intro sz
  refine gM_start (y := yX9_store) (av := [.ref m0, .int p1, .int p2]) (ws := (wM m0 r cI cJ cZ cB cT h)) (Qf := fun A => va_Qi (fun x (_ : Unit) => x = rr) (gB G (fun (_ : Unit) => (wM m0 r cI cJ cZ cB cT hh)) A) A) (cc := cX9_store) (maxL := 3) (ret := (some .boolean)) (by decide) (Nat.le_of_ble_eq_true rfl) ?_
  intro p e s m args below meth c A ls H hx hb hr hts hown hin hlocks hml hP hK hD hA hS hl hE
  have hl : lv_has ls 3 [(0, .ref m0), (1, .int p1), (2, .int p2)] := hl
  have hJ_21 : ∀ (h : HS), f_X9_store_21 h = some (rr, hh) → ∀ (H : Heap) (locs : List Loc) (ls : Array Slot), va_P G vwCl (wM m0 r cI cJ cZ cB cT h) H → va_D A (wM m0 r cI cJ cZ cB cT h) → va_S A s.heap H locs → lv_has ls 3 [] → W p l e (gRm 2) s m args below meth c H locs 0 0 (MQ below (va_Qi (fun x (_ : Unit) => x = rr) (gB G (fun (_ : Unit) => (wM m0 r cI cJ cZ cB cT hh)) A) A) args s 0 0 A) (F0 m 21 ls []) := by
    intro h hF H locs ls hP hD hS hl
    unfold f_X9_store_21 at hF
    refine lv_iconst (v := 0) hx hb dX9_store_21 (by decide) ?_
    obtain ⟨rfl, rfl⟩ := ob_pair hF
    exact gw_zret () hx hb hr hlocks rfl hP hD hS rfl dX9_store_22
  unfold f_X9_store at hF
  refine lv_iload_n hx hb dX9_store_0 rfl (lv_at hl 1 rfl) ?_
  refine lv_iconst (v := 0) hx hb dX9_store_1 (by decide) ?_
  refine lv_sipush (v := 9999) hx hb dX9_store_2 (by decide) ?_
  obtain ⟨r_1, e_1, hF⟩ := ob1_some hF
  refine gx_calli0 (gx_runS0 (As := [.int p1, .int 0, .int 9999]) (rest := []) ⟨hx, hb, hml, hown, hts⟩ (c_X9_in l G cI cJ cZ cB cT   p1 0 9999 r_1 e_1 H.size) (gG_S m_62 m_63 m_64 m_61) rfl e_X9_in ⟨Nat.le_of_ble_eq_true rfl, Nat.le_of_ble_eq_true rfl⟩ hK hE hS hA rfl hl.1 rfl (Nat.le_of_ble_eq_true rfl) dX9_store_5 ⟨Nat.le_refl _, Nat.le_refl _⟩) hP hD hS hA (fun x_1 u_1 H locs hw_1 hP hD hS => ?_)
  subst x_1
  refine lv_if_eq (tgt := 21) hx hb dX9_store_8 (by decide) (fun c_2 => ?_) (fun c_2 => ?_)
  · have hF := ob_pos c_2 hF
    exact hJ_21 h hF H _ ls hP hD hS (lv_sub hl [] rfl)
  · have hF := ob_neg c_2 hF
    refine lv_iload_n hx hb dX9_store_11 rfl (lv_at hl 2 rfl) ?_
    refine lv_iconst (v := 0) hx hb dX9_store_12 (by decide) ?_
    refine lv_bipush (v := 99) hx hb dX9_store_13 (by decide) ?_
    obtain ⟨r_3, e_3, hF⟩ := ob1_some hF
    refine gx_calli0 (gx_runS0 (As := [.int p2, .int 0, .int 99]) (rest := []) ⟨hx, hb, hml, hown, hts⟩ (c_X9_in l G cI cJ cZ cB cT   p2 0 99 r_3 e_3 H.size) (gG_S m_62 m_63 m_64 m_61) rfl e_X9_in ⟨Nat.le_of_ble_eq_true rfl, Nat.le_of_ble_eq_true rfl⟩ hK hE hS hA rfl hl.1 rfl (Nat.le_of_ble_eq_true rfl) dX9_store_15 ⟨Nat.le_refl _, Nat.le_refl _⟩) hP hD hS hA (fun x_3 u_3 H locs hw_3 hP hD hS => ?_)
    subst x_3
    refine lv_if_ne (tgt := 23) hx hb dX9_store_18 (by decide) (fun c_4 => ?_) (fun c_4 => ?_)
    · have hF := ob_neg c_4 hF
      refine lv_aload_n hx hb dX9_store_23 rfl (lv_at hl 0 rfl) ?_
      refine va_get (D := G) (ci := 9) (v := .ref (r 0)) (C := RX9) (T := TX9) (N := 53) hx hb hts iX9 hown hK hP 0 wM_at0 rfl 0 (by decide) (hts _ m_92) (fun _ h9 => h9) rfl dX9_store_24 ?_
      refine lv_bipush (v := 120) hx hb dX9_store_27 (by decide) ?_
      refine lv_iload_n hx hb dX9_store_29 rfl (lv_at hl 1 rfl) ?_
      refine va_iast (D := G) hx hb hK hP hD hS 1 0 wM_at1 rfl (vp_in_nI (n := 120) (by decide) (by decide)) dX9_store_30 (fun H locs hP hD hS => ?_)
      rw [wM_sA1] at hP hD
      have hP : va_P G vwCl (wM m0 r cI cJ cZ cB cT (sA h 0 0 (upd (eA h 0 0) 120 p1))) H := hP
      have hD : va_D A (wM m0 r cI cJ cZ cB cT (sA h 0 0 (upd (eA h 0 0) 120 p1))) := hD
      refine lv_aload_n hx hb dX9_store_31 rfl (lv_at hl 0 rfl) ?_
      refine va_get (D := G) (ci := 9) (v := .ref (r 0)) (C := RX9) (T := TX9) (N := 53) hx hb hts iX9 hown hK hP 0 wM_at0 rfl 0 (by decide) (hts _ m_92) (fun _ h9 => h9) rfl dX9_store_32 ?_
      refine lv_iconst (v := 2) hx hb dX9_store_35 (by decide) ?_
      refine lv_iload_n hx hb dX9_store_36 rfl (lv_at hl 2 rfl) ?_
      refine va_iast (D := G) hx hb hK hP hD hS 1 0 wM_at1 rfl (vp_in_nI (n := 2) (by decide) (by decide)) dX9_store_37 (fun H locs hP hD hS => ?_)
      rw [wM_sA1] at hP hD
      have hP : va_P G vwCl (wM m0 r cI cJ cZ cB cT (sA (sA h 0 0 (upd (eA h 0 0) 120 p1)) 0 0 (upd (upd (eA h 0 0) 120 p1) 2 p2))) H := hP
      have hD : va_D A (wM m0 r cI cJ cZ cB cT (sA (sA h 0 0 (upd (eA h 0 0) 120 p1)) 0 0 (upd (upd (eA h 0 0) 120 p1) 2 p2))) := hD
      refine lv_iconst (v := 1) hx hb dX9_store_38 (by decide) ?_
      obtain ⟨rfl, rfl⟩ := ob_pair hF
      exact gw_zret () hx hb hr hlocks rfl hP hD hS rfl dX9_store_39
    · have hF := ob_pos c_4 hF
      exact hJ_21 h hF H _ ls hP hD hS (lv_sub hl [] rfl)
def f_X9_seed (h : HS) (p1 : Int32) : Option (Int32 × HS) := (ob1 (f_X9_in p1 0 9999) (fun r_1 => (if r_1 = 0 then (some (0, h)) else (some (1, (sA h 0 0 (upd (eA h 0 0) 122 ((p1 * 11) + 9))))))))
set_option maxHeartbeats 4000000 in
set_option maxRecDepth 100000 in
theorem c_X9_seed (l : Launch) (G : va_G) (cI cJ cZ cB cT : ClassId) (m0 : Nat) (r : Nat → Nat) (h : HS) (p1 : Int32) (rr : Int32) (hh : HS) (hF : f_X9_seed h p1 = some (rr, hh)) : gMi l yX9_seed (gws yX9_seed cX9_seed 2 (some .boolean)) 2 G (gT cI cJ cZ cB cT) [.ref m0, .int p1] (wM m0 r cI cJ cZ cB cT h) (fun x (_ : Unit) => x = rr) (fun (_ : Unit) => (wM m0 r cI cJ cZ cB cT hh)) := by
  intro sz
  refine gM_start (y := yX9_seed) (av := [.ref m0, .int p1]) (ws := (wM m0 r cI cJ cZ cB cT h)) (Qf := fun A => va_Qi (fun x (_ : Unit) => x = rr) (gB G (fun (_ : Unit) => (wM m0 r cI cJ cZ cB cT hh)) A) A) (cc := cX9_seed) (maxL := 2) (ret := (some .boolean)) (by decide) (Nat.le_of_ble_eq_true rfl) ?_
  intro p e s m args below meth c A ls H hx hb hr hts hown hin hlocks hml hP hK hD hA hS hl hE
  have hl : lv_has ls 2 [(0, .ref m0), (1, .int p1)] := hl
  unfold f_X9_seed at hF
  refine lv_iload_n hx hb dX9_seed_0 rfl (lv_at hl 1 rfl) ?_
  refine lv_iconst (v := 0) hx hb dX9_seed_1 (by decide) ?_
  refine lv_sipush (v := 9999) hx hb dX9_seed_2 (by decide) ?_
  obtain ⟨r_1, e_1, hF⟩ := ob1_some hF
  refine gx_calli0 (gx_runS0 (As := [.int p1, .int 0, .int 9999]) (rest := []) ⟨hx, hb, hml, hown, hts⟩ (c_X9_in l G cI cJ cZ cB cT   p1 0 9999 r_1 e_1 H.size) (gG_S m_62 m_63 m_64 m_61) rfl e_X9_in ⟨Nat.le_of_ble_eq_true rfl, Nat.le_of_ble_eq_true rfl⟩ hK hE hS hA rfl hl.1 rfl (Nat.le_of_ble_eq_true rfl) dX9_seed_5 ⟨Nat.le_refl _, Nat.le_refl _⟩) hP hD hS hA (fun x_1 u_1 H locs hw_1 hP hD hS => ?_)
  subst x_1
  refine lv_if_ne (tgt := 13) hx hb dX9_seed_8 (by decide) (fun c_2 => ?_) (fun c_2 => ?_)
  · have hF := ob_neg c_2 hF
    refine lv_aload_n hx hb dX9_seed_13 rfl (lv_at hl 0 rfl) ?_
    refine va_get (D := G) (ci := 9) (v := .ref (r 0)) (C := RX9) (T := TX9) (N := 53) hx hb hts iX9 hown hK hP 0 wM_at0 rfl 0 (by decide) (hts _ m_92) (fun _ h9 => h9) rfl dX9_seed_14 ?_
    refine lv_bipush (v := 122) hx hb dX9_seed_17 (by decide) ?_
    refine lv_iload_n hx hb dX9_seed_19 rfl (lv_at hl 1 rfl) ?_
    refine lv_bipush (v := 11) hx hb dX9_seed_20 (by decide) ?_
    refine lv_imul hx hb dX9_seed_22 ?_
    refine lv_bipush (v := 9) hx hb dX9_seed_23 (by decide) ?_
    refine lv_iadd hx hb dX9_seed_25 ?_
    refine va_iast (D := G) hx hb hK hP hD hS 1 0 wM_at1 rfl (vp_in_nI (n := 122) (by decide) (by decide)) dX9_seed_26 (fun H locs hP hD hS => ?_)
    rw [wM_sA1] at hP hD
    have hP : va_P G vwCl (wM m0 r cI cJ cZ cB cT (sA h 0 0 (upd (eA h 0 0) 122 ((p1 * 11) + 9)))) H := hP
    have hD : va_D A (wM m0 r cI cJ cZ cB cT (sA h 0 0 (upd (eA h 0 0) 122 ((p1 * 11) + 9)))) := hD
    refine lv_iconst (v := 1) hx hb dX9_seed_27 (by decide) ?_
    obtain ⟨rfl, rfl⟩ := ob_pair hF
    exact gw_zret () hx hb hr hlocks rfl hP hD hS rfl dX9_seed_28
  · have hF := ob_pos c_2 hF
    refine lv_iconst (v := 0) hx hb dX9_seed_11 (by decide) ?_
    obtain ⟨rfl, rfl⟩ := ob_pair hF
    exact gw_zret () hx hb hr hlocks rfl hP hD hS rfl dX9_seed_12
def f_X9_keepsStep_53 : Nat → HS → Int32 → Option HS
  | 0, _, _ => none
  | n + 1, h, x1 => (if 93 ≤ x1 then (some (sA h 0 0 (upd (eA h 0 0) 5 (((eA h 0 0) 5) + 1)))) else (if 0 ≤ ((30 + x1)).toInt ∧ ((30 + x1)).toInt < 1990 then (if 0 ≤ (((130 + (93 * ((eA h 0 0) 5))) + x1)).toInt ∧ (((130 + (93 * ((eA h 0 0) 5))) + x1)).toInt < 1990 then ((f_X9_keepsStep_53 n) (sA h 0 0 (upd (eA h 0 0) ((((130 + (93 * ((eA h 0 0) 5))) + x1)).toNatClampNeg) ((eA h 0 0) (((30 + x1)).toNatClampNeg)))) (x1 + 1)) else none) else none))
theorem f_X9_keepsStep_53_s (n : Nat) (h : HS) (x1 : Int32) : f_X9_keepsStep_53 (n + 1) h x1 = (if 93 ≤ x1 then (some (sA h 0 0 (upd (eA h 0 0) 5 (((eA h 0 0) 5) + 1)))) else (if 0 ≤ ((30 + x1)).toInt ∧ ((30 + x1)).toInt < 1990 then (if 0 ≤ (((130 + (93 * ((eA h 0 0) 5))) + x1)).toInt ∧ (((130 + (93 * ((eA h 0 0) 5))) + x1)).toInt < 1990 then ((f_X9_keepsStep_53 n) (sA h 0 0 (upd (eA h 0 0) ((((130 + (93 * ((eA h 0 0) 5))) + x1)).toNatClampNeg) ((eA h 0 0) (((30 + x1)).toNatClampNeg)))) (x1 + 1)) else none) else none)) := rfl
def f_X9_keepsStep_51 (h : HS) : Option HS := (f_X9_keepsStep_53 8589934592 h 0)
def f_X9_keepsStep_15 : Nat → HS → Int32 → Option HS
  | 0, _, _ => none
  | n + 1, h, x1 => (if 1897 ≤ x1 then (f_X9_keepsStep_51 (sA h 0 0 (upd (eA h 0 0) 5 19))) else (if 0 ≤ ((x1 + 93)).toInt ∧ ((x1 + 93)).toInt < 1990 then (if 0 ≤ (x1).toInt ∧ (x1).toInt < 1990 then ((f_X9_keepsStep_15 n) (sA h 0 0 (upd (eA h 0 0) ((x1).toNatClampNeg) ((eA h 0 0) (((x1 + 93)).toNatClampNeg)))) (x1 + 1)) else none) else none))
theorem f_X9_keepsStep_15_s (n : Nat) (h : HS) (x1 : Int32) : f_X9_keepsStep_15 (n + 1) h x1 = (if 1897 ≤ x1 then (f_X9_keepsStep_51 (sA h 0 0 (upd (eA h 0 0) 5 19))) else (if 0 ≤ ((x1 + 93)).toInt ∧ ((x1 + 93)).toInt < 1990 then (if 0 ≤ (x1).toInt ∧ (x1).toInt < 1990 then ((f_X9_keepsStep_15 n) (sA h 0 0 (upd (eA h 0 0) ((x1).toNatClampNeg) ((eA h 0 0) (((x1 + 93)).toNatClampNeg)))) (x1 + 1)) else none) else none)) := rfl
def f_X9_keepsStep (h : HS) : Option HS := (if ((eA h 0 0) 5) = 20 then (f_X9_keepsStep_15 8589934592 h 130) else (f_X9_keepsStep_51 h))
set_option maxHeartbeats 4000000 in
set_option maxRecDepth 100000 in
theorem c_X9_keepsStep (l : Launch) (G : va_G) (cI cJ cZ cB cT : ClassId) (m0 : Nat) (r : Nat → Nat) (h : HS)  (hh : HS) (hF : f_X9_keepsStep h = some hh) : gMv l yX9_keepsStep (gws yX9_keepsStep cX9_keepsStep 2 none) 1 G (gT cI cJ cZ cB cT) [.ref m0] (wM m0 r cI cJ cZ cB cT h) (fun (_ : Unit) => True) (fun (_ : Unit) => (wM m0 r cI cJ cZ cB cT hh)) := by
  intro sz
  refine gM_start (y := yX9_keepsStep) (av := [.ref m0]) (ws := (wM m0 r cI cJ cZ cB cT h)) (Qf := fun A => va_Qv (fun (_ : Unit) => True) (gB G (fun (_ : Unit) => (wM m0 r cI cJ cZ cB cT hh)) A) A) (cc := cX9_keepsStep) (maxL := 2) (ret := none) (by decide) (Nat.le_of_ble_eq_true rfl) ?_
  intro p e s m args below meth c A ls H hx hb hr hts hown hin hlocks hml hP hK hD hA hS hl hE
  have hl : lv_has ls 2 [(0, .ref m0)] := hl
  have hJ_53 : ∀ (n_53 : Nat) (h : HS) (x1 : Int32), f_X9_keepsStep_53 n_53 h x1 = some hh → ∀ (H : Heap) (locs : List Loc) (ls : Array Slot), va_P G vwCl (wM m0 r cI cJ cZ cB cT h) H → va_D A (wM m0 r cI cJ cZ cB cT h) → va_S A s.heap H locs → lv_has ls 2 [(0, .ref m0), (1, .int x1)] → W p l e (gRm 1) s m args below meth c H locs 0 0 (MQ below (va_Qv (fun (_ : Unit) => True) (gB G (fun (_ : Unit) => (wM m0 r cI cJ cZ cB cT hh)) A) A) args s 0 0 A) (F0 m 53 ls []) := by
    intro n_53
    induction n_53 with
    | zero =>
      intro h x1 hF
      exact absurd hF (by simp [f_X9_keepsStep_53])
    | succ n_53 ih_53 =>
      intro h x1 hF H locs ls hP hD hS hl
      rw [f_X9_keepsStep_53_s] at hF
      refine lv_iload_n hx hb dX9_keepsStep_53 rfl (lv_at hl 1 rfl) ?_
      refine lv_bipush (v := 93) hx hb dX9_keepsStep_54 (by decide) ?_
      refine lv_icmp_ge (tgt := 94) hx hb dX9_keepsStep_56 (by decide) (fun c_5 => ?_) (fun c_5 => ?_)
      · have hF := ob_pos c_5 hF
        refine lv_aload_n hx hb dX9_keepsStep_94 rfl (lv_at hl 0 rfl) ?_
        refine va_get (D := G) (ci := 9) (v := .ref (r 0)) (C := RX9) (T := TX9) (N := 53) hx hb hts iX9 hown hK hP 0 wM_at0 rfl 0 (by decide) (hts _ m_92) (fun _ h9 => h9) rfl dX9_keepsStep_95 ?_
        refine lv_iconst (v := 5) hx hb dX9_keepsStep_98 (by decide) ?_
        refine lv_dup2_11 hx hb dX9_keepsStep_99 rfl rfl ?_
        refine va_iald (D := G) hx hb hK hP 1 0 wM_at1 rfl (vp_in_nI (n := 5) (by decide) (by decide)) dX9_keepsStep_100 ?_
        refine gw_topi (y := ((eA h 0 0) 5)) rfl ?_
        refine lv_iconst (v := 1) hx hb dX9_keepsStep_101 (by decide) ?_
        refine lv_iadd hx hb dX9_keepsStep_102 ?_
        refine va_iast (D := G) hx hb hK hP hD hS 1 0 wM_at1 rfl (vp_in_nI (n := 5) (by decide) (by decide)) dX9_keepsStep_103 (fun H locs hP hD hS => ?_)
        rw [wM_sA1] at hP hD
        have hP : va_P G vwCl (wM m0 r cI cJ cZ cB cT (sA h 0 0 (upd (eA h 0 0) 5 (((eA h 0 0) 5) + 1)))) H := hP
        have hD : va_D A (wM m0 r cI cJ cZ cB cT (sA h 0 0 (upd (eA h 0 0) 5 (((eA h 0 0) 5) + 1)))) := hD
        obtain rfl := ob_one hF
        exact gw_vret () hx hb hr hlocks hP hD hS trivial dX9_keepsStep_104
      · have hF := ob_neg c_5 hF
        refine lv_aload_n hx hb dX9_keepsStep_59 rfl (lv_at hl 0 rfl) ?_
        refine va_get (D := G) (ci := 9) (v := .ref (r 0)) (C := RX9) (T := TX9) (N := 53) hx hb hts iX9 hown hK hP 0 wM_at0 rfl 0 (by decide) (hts _ m_92) (fun _ h9 => h9) rfl dX9_keepsStep_60 ?_
        refine lv_sipush (v := 130) hx hb dX9_keepsStep_63 (by decide) ?_
        refine lv_bipush (v := 93) hx hb dX9_keepsStep_66 (by decide) ?_
        refine lv_aload_n hx hb dX9_keepsStep_68 rfl (lv_at hl 0 rfl) ?_
        refine va_get (D := G) (ci := 9) (v := .ref (r 0)) (C := RX9) (T := TX9) (N := 53) hx hb hts iX9 hown hK hP 0 wM_at0 rfl 0 (by decide) (hts _ m_92) (fun _ h9 => h9) rfl dX9_keepsStep_69 ?_
        refine lv_iconst (v := 5) hx hb dX9_keepsStep_72 (by decide) ?_
        refine va_iald (D := G) hx hb hK hP 1 0 wM_at1 rfl (vp_in_nI (n := 5) (by decide) (by decide)) dX9_keepsStep_73 ?_
        refine gw_topi (y := ((eA h 0 0) 5)) rfl ?_
        refine lv_imul hx hb dX9_keepsStep_74 ?_
        refine lv_iadd hx hb dX9_keepsStep_75 ?_
        refine lv_iload_n hx hb dX9_keepsStep_76 rfl (lv_at hl 1 rfl) ?_
        refine lv_iadd hx hb dX9_keepsStep_77 ?_
        refine lv_aload_n hx hb dX9_keepsStep_78 rfl (lv_at hl 0 rfl) ?_
        refine va_get (D := G) (ci := 9) (v := .ref (r 0)) (C := RX9) (T := TX9) (N := 53) hx hb hts iX9 hown hK hP 0 wM_at0 rfl 0 (by decide) (hts _ m_92) (fun _ h9 => h9) rfl dX9_keepsStep_79 ?_
        refine lv_bipush (v := 30) hx hb dX9_keepsStep_82 (by decide) ?_
        refine lv_iload_n hx hb dX9_keepsStep_84 rfl (lv_at hl 1 rfl) ?_
        refine lv_iadd hx hb dX9_keepsStep_85 ?_
        obtain ⟨hi_6, hF⟩ := ob_if hF
        refine va_iald (D := G) hx hb hK hP 1 0 wM_at1 rfl (vp_in_iff.mpr hi_6) dX9_keepsStep_86 ?_
        refine gw_topi (y := ((eA h 0 0) (((30 + x1)).toNatClampNeg))) rfl ?_
        obtain ⟨hi_7, hF⟩ := ob_if hF
        refine va_iast (D := G) hx hb hK hP hD hS 1 0 wM_at1 rfl (vp_in_iff.mpr hi_7) dX9_keepsStep_87 (fun H locs hP hD hS => ?_)
        rw [wM_sA1] at hP hD
        have hP : va_P G vwCl (wM m0 r cI cJ cZ cB cT (sA h 0 0 (upd (eA h 0 0) ((((130 + (93 * ((eA h 0 0) 5))) + x1)).toNatClampNeg) ((eA h 0 0) (((30 + x1)).toNatClampNeg))))) H := hP
        have hD : va_D A (wM m0 r cI cJ cZ cB cT (sA h 0 0 (upd (eA h 0 0) ((((130 + (93 * ((eA h 0 0) 5))) + x1)).toNatClampNeg) ((eA h 0 0) (((30 + x1)).toNatClampNeg))))) := hD
        refine lv_iinc (v := (x1 + 1)) (lv' := [(1, .int (x1 + 1)), (0, .ref m0)]) hx hb dX9_keepsStep_88 hl (k := 1) rfl rfl (by decide) rfl (fun ls hl => ?_)
        refine lv_goto (tgt := 53) hx hb dX9_keepsStep_91 (by decide) ?_
        exact ih_53 (sA h 0 0 (upd (eA h 0 0) ((((130 + (93 * ((eA h 0 0) 5))) + x1)).toNatClampNeg) ((eA h 0 0) (((30 + x1)).toNatClampNeg)))) (x1 + 1) hF H _ ls hP hD hS (lv_sub hl [1, 0] rfl)
  have hJ_51 : ∀ (h : HS), f_X9_keepsStep_51 h = some hh → ∀ (H : Heap) (locs : List Loc) (ls : Array Slot), va_P G vwCl (wM m0 r cI cJ cZ cB cT h) H → va_D A (wM m0 r cI cJ cZ cB cT h) → va_S A s.heap H locs → lv_has ls 2 [(0, .ref m0)] → W p l e (gRm 1) s m args below meth c H locs 0 0 (MQ below (va_Qv (fun (_ : Unit) => True) (gB G (fun (_ : Unit) => (wM m0 r cI cJ cZ cB cT hh)) A) A) args s 0 0 A) (F0 m 51 ls []) := by
    intro h hF H locs ls hP hD hS hl
    unfold f_X9_keepsStep_51 at hF
    refine lv_iconst (v := 0) hx hb dX9_keepsStep_51 (by decide) ?_
    refine lv_istore_n (lv' := [(1, .int 0), (0, .ref m0)]) hx hb dX9_keepsStep_52 rfl hl (by decide) rfl (fun ls hl => ?_)
    exact hJ_53 8589934592 h 0 hF H _ ls hP hD hS (lv_sub hl [1, 0] rfl)
  have hJ_15 : ∀ (n_15 : Nat) (h : HS) (x1 : Int32), f_X9_keepsStep_15 n_15 h x1 = some hh → ∀ (H : Heap) (locs : List Loc) (ls : Array Slot), va_P G vwCl (wM m0 r cI cJ cZ cB cT h) H → va_D A (wM m0 r cI cJ cZ cB cT h) → va_S A s.heap H locs → lv_has ls 2 [(0, .ref m0), (1, .int x1)] → W p l e (gRm 1) s m args below meth c H locs 0 0 (MQ below (va_Qv (fun (_ : Unit) => True) (gB G (fun (_ : Unit) => (wM m0 r cI cJ cZ cB cT hh)) A) A) args s 0 0 A) (F0 m 15 ls []) := by
    intro n_15
    induction n_15 with
    | zero =>
      intro h x1 hF
      exact absurd hF (by simp [f_X9_keepsStep_15])
    | succ n_15 ih_15 =>
      intro h x1 hF H locs ls hP hD hS hl
      rw [f_X9_keepsStep_15_s] at hF
      refine lv_iload_n hx hb dX9_keepsStep_15 rfl (lv_at hl 1 rfl) ?_
      refine lv_sipush (v := 1897) hx hb dX9_keepsStep_16 (by decide) ?_
      refine lv_icmp_ge (tgt := 43) hx hb dX9_keepsStep_19 (by decide) (fun c_2 => ?_) (fun c_2 => ?_)
      · have hF := ob_pos c_2 hF
        refine lv_aload_n hx hb dX9_keepsStep_43 rfl (lv_at hl 0 rfl) ?_
        refine va_get (D := G) (ci := 9) (v := .ref (r 0)) (C := RX9) (T := TX9) (N := 53) hx hb hts iX9 hown hK hP 0 wM_at0 rfl 0 (by decide) (hts _ m_92) (fun _ h9 => h9) rfl dX9_keepsStep_44 ?_
        refine lv_iconst (v := 5) hx hb dX9_keepsStep_47 (by decide) ?_
        refine lv_bipush (v := 19) hx hb dX9_keepsStep_48 (by decide) ?_
        refine va_iast (D := G) hx hb hK hP hD hS 1 0 wM_at1 rfl (vp_in_nI (n := 5) (by decide) (by decide)) dX9_keepsStep_50 (fun H locs hP hD hS => ?_)
        rw [wM_sA1] at hP hD
        have hP : va_P G vwCl (wM m0 r cI cJ cZ cB cT (sA h 0 0 (upd (eA h 0 0) 5 19))) H := hP
        have hD : va_D A (wM m0 r cI cJ cZ cB cT (sA h 0 0 (upd (eA h 0 0) 5 19))) := hD
        exact hJ_51 (sA h 0 0 (upd (eA h 0 0) 5 19)) hF H _ ls hP hD hS (lv_sub hl [0] rfl)
      · have hF := ob_neg c_2 hF
        refine lv_aload_n hx hb dX9_keepsStep_22 rfl (lv_at hl 0 rfl) ?_
        refine va_get (D := G) (ci := 9) (v := .ref (r 0)) (C := RX9) (T := TX9) (N := 53) hx hb hts iX9 hown hK hP 0 wM_at0 rfl 0 (by decide) (hts _ m_92) (fun _ h9 => h9) rfl dX9_keepsStep_23 ?_
        refine lv_iload_n hx hb dX9_keepsStep_26 rfl (lv_at hl 1 rfl) ?_
        refine lv_aload_n hx hb dX9_keepsStep_27 rfl (lv_at hl 0 rfl) ?_
        refine va_get (D := G) (ci := 9) (v := .ref (r 0)) (C := RX9) (T := TX9) (N := 53) hx hb hts iX9 hown hK hP 0 wM_at0 rfl 0 (by decide) (hts _ m_92) (fun _ h9 => h9) rfl dX9_keepsStep_28 ?_
        refine lv_iload_n hx hb dX9_keepsStep_31 rfl (lv_at hl 1 rfl) ?_
        refine lv_bipush (v := 93) hx hb dX9_keepsStep_32 (by decide) ?_
        refine lv_iadd hx hb dX9_keepsStep_34 ?_
        obtain ⟨hi_3, hF⟩ := ob_if hF
        refine va_iald (D := G) hx hb hK hP 1 0 wM_at1 rfl (vp_in_iff.mpr hi_3) dX9_keepsStep_35 ?_
        refine gw_topi (y := ((eA h 0 0) (((x1 + 93)).toNatClampNeg))) rfl ?_
        obtain ⟨hi_4, hF⟩ := ob_if hF
        refine va_iast (D := G) hx hb hK hP hD hS 1 0 wM_at1 rfl (vp_in_iff.mpr hi_4) dX9_keepsStep_36 (fun H locs hP hD hS => ?_)
        rw [wM_sA1] at hP hD
        have hP : va_P G vwCl (wM m0 r cI cJ cZ cB cT (sA h 0 0 (upd (eA h 0 0) ((x1).toNatClampNeg) ((eA h 0 0) (((x1 + 93)).toNatClampNeg))))) H := hP
        have hD : va_D A (wM m0 r cI cJ cZ cB cT (sA h 0 0 (upd (eA h 0 0) ((x1).toNatClampNeg) ((eA h 0 0) (((x1 + 93)).toNatClampNeg))))) := hD
        refine lv_iinc (v := (x1 + 1)) (lv' := [(1, .int (x1 + 1)), (0, .ref m0)]) hx hb dX9_keepsStep_37 hl (k := 1) rfl rfl (by decide) rfl (fun ls hl => ?_)
        refine lv_goto (tgt := 15) hx hb dX9_keepsStep_40 (by decide) ?_
        exact ih_15 (sA h 0 0 (upd (eA h 0 0) ((x1).toNatClampNeg) ((eA h 0 0) (((x1 + 93)).toNatClampNeg)))) (x1 + 1) hF H _ ls hP hD hS (lv_sub hl [1, 0] rfl)
  unfold f_X9_keepsStep at hF
  refine lv_aload_n hx hb dX9_keepsStep_0 rfl (lv_at hl 0 rfl) ?_
  refine va_get (D := G) (ci := 9) (v := .ref (r 0)) (C := RX9) (T := TX9) (N := 53) hx hb hts iX9 hown hK hP 0 wM_at0 rfl 0 (by decide) (hts _ m_92) (fun _ h9 => h9) rfl dX9_keepsStep_1 ?_
  refine lv_iconst (v := 5) hx hb dX9_keepsStep_4 (by decide) ?_
  refine va_iald (D := G) hx hb hK hP 1 0 wM_at1 rfl (vp_in_nI (n := 5) (by decide) (by decide)) dX9_keepsStep_5 ?_
  refine gw_topi (y := ((eA h 0 0) 5)) rfl ?_
  refine lv_bipush (v := 20) hx hb dX9_keepsStep_6 (by decide) ?_
  refine lv_icmp_ne (tgt := 51) hx hb dX9_keepsStep_8 (by decide) (fun c_1 => ?_) (fun c_1 => ?_)
  · have hF := ob_neg c_1 hF
    exact hJ_51 h hF H _ ls hP hD hS (lv_sub hl [0] rfl)
  · have hF := ob_pos c_1 hF
    refine lv_sipush (v := 130) hx hb dX9_keepsStep_11 (by decide) ?_
    refine lv_istore_n (lv' := [(1, .int 130), (0, .ref m0)]) hx hb dX9_keepsStep_14 rfl hl (by decide) rfl (fun ls hl => ?_)
    exact hJ_15 8589934592 h 130 hF H _ ls hP hD hS (lv_sub hl [1, 0] rfl)
def f_X9_undo_23 : Nat → HS → Int32 → Option (Int32 × HS)
  | 0, _, _ => none
  | n + 1, h, x1 => (if 93 ≤ x1 then (some (((eA h 0 0) 5), h)) else (if 0 ≤ (((130 + (93 * ((eA h 0 0) 5))) + x1)).toInt ∧ (((130 + (93 * ((eA h 0 0) 5))) + x1)).toInt < 1990 then (if 0 ≤ ((30 + x1)).toInt ∧ ((30 + x1)).toInt < 1990 then ((f_X9_undo_23 n) (sA h 0 0 (upd (eA h 0 0) (((30 + x1)).toNatClampNeg) ((eA h 0 0) ((((130 + (93 * ((eA h 0 0) 5))) + x1)).toNatClampNeg)))) (x1 + 1)) else none) else none))
theorem f_X9_undo_23_s (n : Nat) (h : HS) (x1 : Int32) : f_X9_undo_23 (n + 1) h x1 = (if 93 ≤ x1 then (some (((eA h 0 0) 5), h)) else (if 0 ≤ (((130 + (93 * ((eA h 0 0) 5))) + x1)).toInt ∧ (((130 + (93 * ((eA h 0 0) 5))) + x1)).toInt < 1990 then (if 0 ≤ ((30 + x1)).toInt ∧ ((30 + x1)).toInt < 1990 then ((f_X9_undo_23 n) (sA h 0 0 (upd (eA h 0 0) (((30 + x1)).toNatClampNeg) ((eA h 0 0) ((((130 + (93 * ((eA h 0 0) 5))) + x1)).toNatClampNeg)))) (x1 + 1)) else none) else none)) := rfl
def f_X9_undo (h : HS) : Option (Int32 × HS) := (if ((eA h 0 0) 5) = 0 then (some ((-1), h)) else (f_X9_undo_23 8589934592 (sA h 0 0 (upd (eA h 0 0) 5 (((eA h 0 0) 5) - 1))) 0))
set_option maxHeartbeats 4000000 in
set_option maxRecDepth 100000 in
theorem c_X9_undo (l : Launch) (G : va_G) (cI cJ cZ cB cT : ClassId) (m0 : Nat) (r : Nat → Nat) (h : HS)  (rr : Int32) (hh : HS) (hF : f_X9_undo h = some (rr, hh)) : gMi l yX9_undo (gws yX9_undo cX9_undo 2 (some .int)) 1 G (gT cI cJ cZ cB cT) [.ref m0] (wM m0 r cI cJ cZ cB cT h) (fun x (_ : Unit) => x = rr) (fun (_ : Unit) => (wM m0 r cI cJ cZ cB cT hh)) := by
  intro sz
  refine gM_start (y := yX9_undo) (av := [.ref m0]) (ws := (wM m0 r cI cJ cZ cB cT h)) (Qf := fun A => va_Qi (fun x (_ : Unit) => x = rr) (gB G (fun (_ : Unit) => (wM m0 r cI cJ cZ cB cT hh)) A) A) (cc := cX9_undo) (maxL := 2) (ret := (some .int)) (by decide) (Nat.le_of_ble_eq_true rfl) ?_
  intro p e s m args below meth c A ls H hx hb hr hts hown hin hlocks hml hP hK hD hA hS hl hE
  have hl : lv_has ls 2 [(0, .ref m0)] := hl
  have hJ_23 : ∀ (n_23 : Nat) (h : HS) (x1 : Int32), f_X9_undo_23 n_23 h x1 = some (rr, hh) → ∀ (H : Heap) (locs : List Loc) (ls : Array Slot), va_P G vwCl (wM m0 r cI cJ cZ cB cT h) H → va_D A (wM m0 r cI cJ cZ cB cT h) → va_S A s.heap H locs → lv_has ls 2 [(0, .ref m0), (1, .int x1)] → W p l e (gRm 1) s m args below meth c H locs 0 0 (MQ below (va_Qi (fun x (_ : Unit) => x = rr) (gB G (fun (_ : Unit) => (wM m0 r cI cJ cZ cB cT hh)) A) A) args s 0 0 A) (F0 m 23 ls []) := by
    intro n_23
    induction n_23 with
    | zero =>
      intro h x1 hF
      exact absurd hF (by simp [f_X9_undo_23])
    | succ n_23 ih_23 =>
      intro h x1 hF H locs ls hP hD hS hl
      rw [f_X9_undo_23_s] at hF
      refine lv_iload_n hx hb dX9_undo_23 rfl (lv_at hl 1 rfl) ?_
      refine lv_bipush (v := 93) hx hb dX9_undo_24 (by decide) ?_
      refine lv_icmp_ge (tgt := 64) hx hb dX9_undo_26 (by decide) (fun c_2 => ?_) (fun c_2 => ?_)
      · have hF := ob_pos c_2 hF
        refine lv_aload_n hx hb dX9_undo_64 rfl (lv_at hl 0 rfl) ?_
        refine va_get (D := G) (ci := 9) (v := .ref (r 0)) (C := RX9) (T := TX9) (N := 53) hx hb hts iX9 hown hK hP 0 wM_at0 rfl 0 (by decide) (hts _ m_92) (fun _ h9 => h9) rfl dX9_undo_65 ?_
        refine lv_iconst (v := 5) hx hb dX9_undo_68 (by decide) ?_
        refine va_iald (D := G) hx hb hK hP 1 0 wM_at1 rfl (vp_in_nI (n := 5) (by decide) (by decide)) dX9_undo_69 ?_
        refine gw_topi (y := ((eA h 0 0) 5)) rfl ?_
        obtain ⟨rfl, rfl⟩ := ob_pair hF
        exact gw_iret () hx hb hr hlocks hP hD hS rfl dX9_undo_70
      · have hF := ob_neg c_2 hF
        refine lv_aload_n hx hb dX9_undo_29 rfl (lv_at hl 0 rfl) ?_
        refine va_get (D := G) (ci := 9) (v := .ref (r 0)) (C := RX9) (T := TX9) (N := 53) hx hb hts iX9 hown hK hP 0 wM_at0 rfl 0 (by decide) (hts _ m_92) (fun _ h9 => h9) rfl dX9_undo_30 ?_
        refine lv_bipush (v := 30) hx hb dX9_undo_33 (by decide) ?_
        refine lv_iload_n hx hb dX9_undo_35 rfl (lv_at hl 1 rfl) ?_
        refine lv_iadd hx hb dX9_undo_36 ?_
        refine lv_aload_n hx hb dX9_undo_37 rfl (lv_at hl 0 rfl) ?_
        refine va_get (D := G) (ci := 9) (v := .ref (r 0)) (C := RX9) (T := TX9) (N := 53) hx hb hts iX9 hown hK hP 0 wM_at0 rfl 0 (by decide) (hts _ m_92) (fun _ h9 => h9) rfl dX9_undo_38 ?_
        refine lv_sipush (v := 130) hx hb dX9_undo_41 (by decide) ?_
        refine lv_bipush (v := 93) hx hb dX9_undo_44 (by decide) ?_
        refine lv_aload_n hx hb dX9_undo_46 rfl (lv_at hl 0 rfl) ?_
        refine va_get (D := G) (ci := 9) (v := .ref (r 0)) (C := RX9) (T := TX9) (N := 53) hx hb hts iX9 hown hK hP 0 wM_at0 rfl 0 (by decide) (hts _ m_92) (fun _ h9 => h9) rfl dX9_undo_47 ?_
        refine lv_iconst (v := 5) hx hb dX9_undo_50 (by decide) ?_
        refine va_iald (D := G) hx hb hK hP 1 0 wM_at1 rfl (vp_in_nI (n := 5) (by decide) (by decide)) dX9_undo_51 ?_
        refine gw_topi (y := ((eA h 0 0) 5)) rfl ?_
        refine lv_imul hx hb dX9_undo_52 ?_
        refine lv_iadd hx hb dX9_undo_53 ?_
        refine lv_iload_n hx hb dX9_undo_54 rfl (lv_at hl 1 rfl) ?_
        refine lv_iadd hx hb dX9_undo_55 ?_
        obtain ⟨hi_3, hF⟩ := ob_if hF
        refine va_iald (D := G) hx hb hK hP 1 0 wM_at1 rfl (vp_in_iff.mpr hi_3) dX9_undo_56 ?_
        refine gw_topi (y := ((eA h 0 0) ((((130 + (93 * ((eA h 0 0) 5))) + x1)).toNatClampNeg))) rfl ?_
        obtain ⟨hi_4, hF⟩ := ob_if hF
        refine va_iast (D := G) hx hb hK hP hD hS 1 0 wM_at1 rfl (vp_in_iff.mpr hi_4) dX9_undo_57 (fun H locs hP hD hS => ?_)
        rw [wM_sA1] at hP hD
        have hP : va_P G vwCl (wM m0 r cI cJ cZ cB cT (sA h 0 0 (upd (eA h 0 0) (((30 + x1)).toNatClampNeg) ((eA h 0 0) ((((130 + (93 * ((eA h 0 0) 5))) + x1)).toNatClampNeg))))) H := hP
        have hD : va_D A (wM m0 r cI cJ cZ cB cT (sA h 0 0 (upd (eA h 0 0) (((30 + x1)).toNatClampNeg) ((eA h 0 0) ((((130 + (93 * ((eA h 0 0) 5))) + x1)).toNatClampNeg))))) := hD
        refine lv_iinc (v := (x1 + 1)) (lv' := [(1, .int (x1 + 1)), (0, .ref m0)]) hx hb dX9_undo_58 hl (k := 1) rfl rfl (by decide) rfl (fun ls hl => ?_)
        refine lv_goto (tgt := 23) hx hb dX9_undo_61 (by decide) ?_
        exact ih_23 (sA h 0 0 (upd (eA h 0 0) (((30 + x1)).toNatClampNeg) ((eA h 0 0) ((((130 + (93 * ((eA h 0 0) 5))) + x1)).toNatClampNeg)))) (x1 + 1) hF H _ ls hP hD hS (lv_sub hl [1, 0] rfl)
  unfold f_X9_undo at hF
  refine lv_aload_n hx hb dX9_undo_0 rfl (lv_at hl 0 rfl) ?_
  refine va_get (D := G) (ci := 9) (v := .ref (r 0)) (C := RX9) (T := TX9) (N := 53) hx hb hts iX9 hown hK hP 0 wM_at0 rfl 0 (by decide) (hts _ m_92) (fun _ h9 => h9) rfl dX9_undo_1 ?_
  refine lv_iconst (v := 5) hx hb dX9_undo_4 (by decide) ?_
  refine va_iald (D := G) hx hb hK hP 1 0 wM_at1 rfl (vp_in_nI (n := 5) (by decide) (by decide)) dX9_undo_5 ?_
  refine gw_topi (y := ((eA h 0 0) 5)) rfl ?_
  refine lv_if_ne (tgt := 11) hx hb dX9_undo_6 (by decide) (fun c_1 => ?_) (fun c_1 => ?_)
  · have hF := ob_neg c_1 hF
    refine lv_aload_n hx hb dX9_undo_11 rfl (lv_at hl 0 rfl) ?_
    refine va_get (D := G) (ci := 9) (v := .ref (r 0)) (C := RX9) (T := TX9) (N := 53) hx hb hts iX9 hown hK hP 0 wM_at0 rfl 0 (by decide) (hts _ m_92) (fun _ h9 => h9) rfl dX9_undo_12 ?_
    refine lv_iconst (v := 5) hx hb dX9_undo_15 (by decide) ?_
    refine lv_dup2_11 hx hb dX9_undo_16 rfl rfl ?_
    refine va_iald (D := G) hx hb hK hP 1 0 wM_at1 rfl (vp_in_nI (n := 5) (by decide) (by decide)) dX9_undo_17 ?_
    refine gw_topi (y := ((eA h 0 0) 5)) rfl ?_
    refine lv_iconst (v := 1) hx hb dX9_undo_18 (by decide) ?_
    refine lv_isub hx hb dX9_undo_19 ?_
    refine va_iast (D := G) hx hb hK hP hD hS 1 0 wM_at1 rfl (vp_in_nI (n := 5) (by decide) (by decide)) dX9_undo_20 (fun H locs hP hD hS => ?_)
    rw [wM_sA1] at hP hD
    have hP : va_P G vwCl (wM m0 r cI cJ cZ cB cT (sA h 0 0 (upd (eA h 0 0) 5 (((eA h 0 0) 5) - 1)))) H := hP
    have hD : va_D A (wM m0 r cI cJ cZ cB cT (sA h 0 0 (upd (eA h 0 0) 5 (((eA h 0 0) 5) - 1)))) := hD
    refine lv_iconst (v := 0) hx hb dX9_undo_21 (by decide) ?_
    refine lv_istore_n (lv' := [(1, .int 0), (0, .ref m0)]) hx hb dX9_undo_22 rfl hl (by decide) rfl (fun ls hl => ?_)
    exact hJ_23 8589934592 (sA h 0 0 (upd (eA h 0 0) 5 (((eA h 0 0) 5) - 1))) 0 hF H _ ls hP hD hS (lv_sub hl [1, 0] rfl)
  · have hF := ob_pos c_1 hF
    refine lv_iconst (v := (-1)) hx hb dX9_undo_9 (by decide) ?_
    obtain ⟨rfl, rfl⟩ := ob_pair hF
    exact gw_iret () hx hb hr hlocks hP hD hS rfl dX9_undo_10
def f_X9_isHome_22 (h : HS) (y0 : Int32) : Option (Int32 × HS) := (if y0 = 0 ∨ y0 = 1 then (some (y0, h)) else none)
def f_X9_isHome_21 (h : HS) : Option (Int32 × HS) := (f_X9_isHome_22 h 0)
def f_X9_isHome (h : HS) (p1 : Int32) : Option (Int32 × HS) := (ob2 (f_X9_isGoose h p1) (fun r_1 h_1 => (if r_1 = 0 then (f_X9_isHome_21 h_1) else (ob2 (f_X9_ofGoose h_1 p1 4) (fun r_3 h_3 => (if r_3 = 0 then (f_X9_isHome_22 h_3 1) else (f_X9_isHome_21 h_3)))))))
theorem e_X9_isGoose : yX9_isGoose.cls = RX9 ∧ yX9_isGoose.cls ≠ "java/lang/invoke/MethodHandle" ∧ yX9_isGoose.cls ≠ "java/lang/invoke/VarHandle" ∧ (parseMethodDescriptor yX9_isGoose.desc).map (fun d => d.parameters.length) = some 1 := by decide +kernel
theorem e_X9_ofGoose : yX9_ofGoose.cls = RX9 ∧ yX9_ofGoose.cls ≠ "java/lang/invoke/MethodHandle" ∧ yX9_ofGoose.cls ≠ "java/lang/invoke/VarHandle" ∧ (parseMethodDescriptor yX9_ofGoose.desc).map (fun d => d.parameters.length) = some 2 := by decide +kernel
set_option maxHeartbeats 4000000 in
set_option maxRecDepth 100000 in
theorem c_X9_isHome (l : Launch) (G : va_G) (cI cJ cZ cB cT : ClassId) (m0 : Nat) (r : Nat → Nat) (h : HS) (p1 : Int32) (rr : Int32) (hh : HS) (hF : f_X9_isHome h p1 = some (rr, hh)) : gMi l yX9_isHome (gws yX9_isHome cX9_isHome 2 (some .boolean)) 3 G (gT cI cJ cZ cB cT) [.ref m0, .int p1] (wM m0 r cI cJ cZ cB cT h) (fun x (_ : Unit) => x = rr) (fun (_ : Unit) => (wM m0 r cI cJ cZ cB cT hh)) := by
  intro sz
  refine gM_start (y := yX9_isHome) (av := [.ref m0, .int p1]) (ws := (wM m0 r cI cJ cZ cB cT h)) (Qf := fun A => va_Qi (fun x (_ : Unit) => x = rr) (gB G (fun (_ : Unit) => (wM m0 r cI cJ cZ cB cT hh)) A) A) (cc := cX9_isHome) (maxL := 2) (ret := (some .boolean)) (by decide) (Nat.le_of_ble_eq_true rfl) ?_
  intro p e s m args below meth c A ls H hx hb hr hts hown hin hlocks hml hP hK hD hA hS hl hE
  have hl : lv_has ls 2 [(0, .ref m0), (1, .int p1)] := hl
  have hJ_22 : ∀ (h : HS) (y0 : Int32), f_X9_isHome_22 h y0 = some (rr, hh) → ∀ (H : Heap) (locs : List Loc) (ls : Array Slot), va_P G vwCl (wM m0 r cI cJ cZ cB cT h) H → va_D A (wM m0 r cI cJ cZ cB cT h) → va_S A s.heap H locs → lv_has ls 2 [] → W p l e (gRm 3) s m args below meth c H locs 0 0 (MQ below (va_Qi (fun x (_ : Unit) => x = rr) (gB G (fun (_ : Unit) => (wM m0 r cI cJ cZ cB cT hh)) A) A) args s 0 0 A) (F0 m 22 ls [.int y0]) := by
    intro h y0 hF H locs ls hP hD hS hl
    unfold f_X9_isHome_22 at hF
    obtain ⟨hz_5, hF⟩ := ob_if hF
    obtain ⟨rfl, rfl⟩ := ob_pair hF
    exact gw_zret () hx hb hr hlocks (gz hz_5) hP hD hS rfl dX9_isHome_22
  have hJ_21 : ∀ (h : HS), f_X9_isHome_21 h = some (rr, hh) → ∀ (H : Heap) (locs : List Loc) (ls : Array Slot), va_P G vwCl (wM m0 r cI cJ cZ cB cT h) H → va_D A (wM m0 r cI cJ cZ cB cT h) → va_S A s.heap H locs → lv_has ls 2 [] → W p l e (gRm 3) s m args below meth c H locs 0 0 (MQ below (va_Qi (fun x (_ : Unit) => x = rr) (gB G (fun (_ : Unit) => (wM m0 r cI cJ cZ cB cT hh)) A) A) args s 0 0 A) (F0 m 21 ls []) := by
    intro h hF H locs ls hP hD hS hl
    unfold f_X9_isHome_21 at hF
    refine lv_iconst (v := 0) hx hb dX9_isHome_21 (by decide) ?_
    exact hJ_22 h 0 hF H _ ls hP hD hS (lv_sub hl [] rfl)
  unfold f_X9_isHome at hF
  refine lv_aload_n hx hb dX9_isHome_0 rfl (lv_at hl 0 rfl) ?_
  refine lv_iload_n hx hb dX9_isHome_1 rfl (lv_at hl 1 rfl) ?_
  obtain ⟨r_1, h_1, e_1, hF⟩ := ob2_some hF
  refine gx_calli (gx_runV (As := [.int p1]) (rest := []) ⟨hx, hb, hml, hown, hts⟩ (c_X9_isGoose l G cI cJ cZ cB cT m0 r h p1 r_1 h_1 e_1 H.size) (gG_V m_99 m_100 m_101 m_64 m_98) rfl e_X9_isGoose ⟨Nat.le_of_ble_eq_true rfl, Nat.le_of_ble_eq_true rfl⟩ hK hP hD hE hS hA 0 wM_at0 rfl rfl hl.1 rfl (Nat.le_of_ble_eq_true rfl) dX9_isHome_2 ⟨Nat.le_refl _, Nat.le_refl _⟩) hP hD hS hA (fun x_1 u_1 H locs hw_1 hP hD hS => ?_)
  subst x_1
  refine lv_if_eq (tgt := 21) hx hb dX9_isHome_5 (by decide) (fun c_2 => ?_) (fun c_2 => ?_)
  · have hF := ob_pos c_2 hF
    exact hJ_21 h_1 hF H _ ls hP hD hS (lv_sub hl [] rfl)
  · have hF := ob_neg c_2 hF
    refine lv_aload_n hx hb dX9_isHome_8 rfl (lv_at hl 0 rfl) ?_
    refine lv_iload_n hx hb dX9_isHome_9 rfl (lv_at hl 1 rfl) ?_
    refine lv_iconst (v := 4) hx hb dX9_isHome_10 (by decide) ?_
    obtain ⟨r_3, h_3, e_3, hF⟩ := ob2_some hF
    refine gx_calli (gx_runV (As := [.int p1, .int 4]) (rest := []) ⟨hx, hb, hml, hown, hts⟩ (c_X9_ofGoose l G cI cJ cZ cB cT m0 r h_1 p1 4 r_3 h_3 e_3 H.size) (gG_V m_103 m_104 m_105 m_64 m_102) rfl e_X9_ofGoose ⟨Nat.le_of_ble_eq_true rfl, Nat.le_of_ble_eq_true rfl⟩ hK hP hD hE hS hA 0 wM_at0 rfl rfl hl.1 rfl (Nat.le_of_ble_eq_true rfl) dX9_isHome_11 ⟨Nat.le_refl _, Nat.le_refl _⟩) hP hD hS hA (fun x_3 u_3 H locs hw_3 hP hD hS => ?_)
    subst x_3
    refine lv_if_ne (tgt := 21) hx hb dX9_isHome_14 (by decide) (fun c_4 => ?_) (fun c_4 => ?_)
    · have hF := ob_neg c_4 hF
      exact hJ_21 h_3 hF H _ ls hP hD hS (lv_sub hl [] rfl)
    · have hF := ob_pos c_4 hF
      refine lv_iconst (v := 1) hx hb dX9_isHome_17 (by decide) ?_
      refine lv_goto (tgt := 22) hx hb dX9_isHome_18 (by decide) ?_
      exact hJ_22 h_3 1 hF H _ ls hP hD hS (lv_sub hl [] rfl)
def f_X9_put_3 : Nat → HS → Int32 → Int32 → Option HS
  | 0, _, _, _ => none
  | n + 1, h, x1, x2 => (if x2 < 0 then (some h) else (if 0 ≤ ((eI h 0 3)).toInt ∧ ((eI h 0 3)).toInt < 300 then ((f_X9_put_3 n) (sI (sA h 0 2 (upd (eA h 0 2) (((eI h 0 3)).toNatClampNeg) (vp_nar .byte (((x1 >>> (x2 &&& 31))).toInt8.toInt32)))) 0 3 ((eI h 0 3) + 1)) x1 (x2 - 8)) else none))
theorem f_X9_put_3_s (n : Nat) (h : HS) (x1 : Int32) (x2 : Int32) : f_X9_put_3 (n + 1) h x1 x2 = (if x2 < 0 then (some h) else (if 0 ≤ ((eI h 0 3)).toInt ∧ ((eI h 0 3)).toInt < 300 then ((f_X9_put_3 n) (sI (sA h 0 2 (upd (eA h 0 2) (((eI h 0 3)).toNatClampNeg) (vp_nar .byte (((x1 >>> (x2 &&& 31))).toInt8.toInt32)))) 0 3 ((eI h 0 3) + 1)) x1 (x2 - 8)) else none)) := rfl
def f_X9_put (h : HS) (p1 : Int32) : Option HS := (f_X9_put_3 8589934592 h p1 24)
set_option maxHeartbeats 4000000 in
set_option maxRecDepth 100000 in
theorem c_X9_put (l : Launch) (G : va_G) (cI cJ cZ cB cT : ClassId) (m0 : Nat) (r : Nat → Nat) (h : HS) (p1 : Int32) (hh : HS) (hF : f_X9_put h p1 = some hh) : gMv l yX9_put (gws yX9_put cX9_put 3 none) 1 G (gT cI cJ cZ cB cT) [.ref m0, .int p1] (wM m0 r cI cJ cZ cB cT h) (fun (_ : Unit) => True) (fun (_ : Unit) => (wM m0 r cI cJ cZ cB cT hh)) := by
  intro sz
  refine gM_start (y := yX9_put) (av := [.ref m0, .int p1]) (ws := (wM m0 r cI cJ cZ cB cT h)) (Qf := fun A => va_Qv (fun (_ : Unit) => True) (gB G (fun (_ : Unit) => (wM m0 r cI cJ cZ cB cT hh)) A) A) (cc := cX9_put) (maxL := 3) (ret := none) (by decide) (Nat.le_of_ble_eq_true rfl) ?_
  intro p e s m args below meth c A ls H hx hb hr hts hown hin hlocks hml hP hK hD hA hS hl hE
  have hl : lv_has ls 3 [(0, .ref m0), (1, .int p1)] := hl
  have hJ_3 : ∀ (n_3 : Nat) (h : HS) (x1 : Int32) (x2 : Int32), f_X9_put_3 n_3 h x1 x2 = some hh → ∀ (H : Heap) (locs : List Loc) (ls : Array Slot), va_P G vwCl (wM m0 r cI cJ cZ cB cT h) H → va_D A (wM m0 r cI cJ cZ cB cT h) → va_S A s.heap H locs → lv_has ls 3 [(0, .ref m0), (1, .int x1), (2, .int x2)] → W p l e (gRm 1) s m args below meth c H locs 0 0 (MQ below (va_Qv (fun (_ : Unit) => True) (gB G (fun (_ : Unit) => (wM m0 r cI cJ cZ cB cT hh)) A) A) args s 0 0 A) (F0 m 3 ls []) := by
    intro n_3
    induction n_3 with
    | zero =>
      intro h x1 x2 hF
      exact absurd hF (by simp [f_X9_put_3])
    | succ n_3 ih_3 =>
      intro h x1 x2 hF H locs ls hP hD hS hl
      rw [f_X9_put_3_s] at hF
      refine lv_iload_n hx hb dX9_put_3 rfl (lv_at hl 2 rfl) ?_
      refine lv_if_lt (tgt := 38) hx hb dX9_put_4 (by decide) (fun c_1 => ?_) (fun c_1 => ?_)
      · have hF := ob_pos c_1 hF
        obtain rfl := ob_one hF
        exact gw_vret () hx hb hr hlocks hP hD hS trivial dX9_put_38
      · have hF := ob_neg c_1 hF
        refine lv_aload_n hx hb dX9_put_7 rfl (lv_at hl 0 rfl) ?_
        refine va_get (D := G) (ci := 9) (v := .ref (r 2)) (C := RX9) (T := TX9) (N := 53) hx hb hts iX9 hown hK hP 0 wM_at0 rfl 2 (by decide) (hts _ m_106) (fun _ h9 => h9) rfl dX9_put_8 ?_
        refine lv_aload_n hx hb dX9_put_11 rfl (lv_at hl 0 rfl) ?_
        refine va_get (D := G) (ci := 9) (v := .int (eI h 0 3)) (C := RX9) (T := TX9) (N := 53) hx hb hts iX9 hown hK hP 0 wM_at0 rfl 3 (by decide) (hts _ m_107) (fun _ h9 => h9) rfl dX9_put_12 ?_
        refine lv_iload_n hx hb dX9_put_15 rfl (lv_at hl 1 rfl) ?_
        refine lv_iload_n hx hb dX9_put_16 rfl (lv_at hl 2 rfl) ?_
        refine lv_ishr hx hb dX9_put_17 ?_
        refine lv_i2b (v := (((x1 >>> (x2 &&& 31))).toInt8.toInt32)) hx hb dX9_put_18 rfl ?_
        obtain ⟨hi_2, hF⟩ := ob_if hF
        refine va_bast (D := G) hx hb hK hP hD hS 3 3 wM_at3 rfl (vp_in_iff.mpr hi_2) dX9_put_19 (fun H locs hP hD hS => ?_)
        rw [wM_sA3] at hP hD
        have hP : va_P G vwCl (wM m0 r cI cJ cZ cB cT (sA h 0 2 (upd (eA h 0 2) (((eI h 0 3)).toNatClampNeg) (vp_nar .byte (((x1 >>> (x2 &&& 31))).toInt8.toInt32))))) H := hP
        have hD : va_D A (wM m0 r cI cJ cZ cB cT (sA h 0 2 (upd (eA h 0 2) (((eI h 0 3)).toNatClampNeg) (vp_nar .byte (((x1 >>> (x2 &&& 31))).toInt8.toInt32))))) := hD
        refine lv_aload_n hx hb dX9_put_20 rfl (lv_at hl 0 rfl) ?_
        refine lv_dup hx hb dX9_put_21 rfl ?_
        refine va_get (D := G) (ci := 9) (v := .int (eI h 0 3)) (C := RX9) (T := TX9) (N := 53) hx hb hts iX9 hown hK hP 0 wM_at0 rfl 3 (by decide) (hts _ m_107) (fun _ h9 => h9) rfl dX9_put_22 ?_
        refine lv_iconst (v := 1) hx hb dX9_put_25 (by decide) ?_
        refine lv_iadd hx hb dX9_put_26 ?_
        refine va_put (D := G) (ci := 9) (v := .int ((eI h 0 3) + 1)) (ty := .int) (C := RX9) (T := TX9) (N := 53) hx hb hts iX9 tyX9 tyX9_ok nmX9 hown hK hP hD hS 0 wM_at0 rfl 3 (by decide) (hts _ m_107) (fun _ h9 => h9) rfl (tyX9_ok 3 (by decide)) rfl rfl (Nat.le_of_ble_eq_true rfl) dX9_put_27 (fun H locs hP hD hS => ?_)
        rw [wM_sI0_3] at hP hD
        refine lv_iload_n hx hb dX9_put_30 rfl (lv_at hl 2 rfl) ?_
        refine lv_bipush (v := 8) hx hb dX9_put_31 (by decide) ?_
        refine lv_isub hx hb dX9_put_33 ?_
        refine lv_istore_n (lv' := [(2, .int (x2 - 8)), (0, .ref m0), (1, .int x1)]) hx hb dX9_put_34 rfl hl (by decide) rfl (fun ls hl => ?_)
        refine lv_goto (tgt := 3) hx hb dX9_put_35 (by decide) ?_
        exact ih_3 (sI (sA h 0 2 (upd (eA h 0 2) (((eI h 0 3)).toNatClampNeg) (vp_nar .byte (((x1 >>> (x2 &&& 31))).toInt8.toInt32)))) 0 3 ((eI h 0 3) + 1)) x1 (x2 - 8) hF H _ ls hP hD hS (lv_sub hl [1, 2, 0] rfl)
  unfold f_X9_put at hF
  refine lv_bipush (v := 24) hx hb dX9_put_0 (by decide) ?_
  refine lv_istore_n (lv' := [(2, .int 24), (0, .ref m0), (1, .int p1)]) hx hb dX9_put_2 rfl hl (by decide) rfl (fun ls hl => ?_)
  exact hJ_3 8589934592 h p1 24 hF H _ ls hP hD hS (lv_sub hl [1, 2, 0] rfl)
def f_X9_feed (h : HS) (p1 : Int32) (p2 : Int32) (p3 : Int32) (p4 : Int32) (p5 : Int32) : Option (Int32 × HS) := (if ((eI h 0 3) + 20) ≤ 300 then (ob1 (f_X9_put h p1) (fun h_2 => (ob1 (f_X9_put h_2 p2) (fun h_3 => (ob1 (f_X9_put h_3 p3) (fun h_4 => (ob1 (f_X9_put h_4 p4) (fun h_5 => (ob1 (f_X9_put h_5 p5) (fun h_6 => (some ((eI h_6 0 3), h_6)))))))))))) else (some ((-1), h)))
theorem e_X9_put : yX9_put.cls = RX9 ∧ yX9_put.cls ≠ "java/lang/invoke/MethodHandle" ∧ yX9_put.cls ≠ "java/lang/invoke/VarHandle" ∧ (parseMethodDescriptor yX9_put.desc).map (fun d => d.parameters.length) = some 1 := by decide +kernel
set_option maxHeartbeats 4000000 in
set_option maxRecDepth 100000 in
theorem c_X9_feed (l : Launch) (G : va_G) (cI cJ cZ cB cT : ClassId) (m0 : Nat) (r : Nat → Nat) (h : HS) (p1 : Int32) (p2 : Int32) (p3 : Int32) (p4 : Int32) (p5 : Int32) (rr : Int32) (hh : HS) (hF : f_X9_feed h p1 p2 p3 p4 p5 = some (rr, hh)) : gMi l yX9_feed (gws yX9_feed cX9_feed 6 (some .int)) 2 G (gT cI cJ cZ cB cT) [.ref m0, .int p1, .int p2, .int p3, .int p4, .int p5] (wM m0 r cI cJ cZ cB cT h) (fun x (_ : Unit) => x = rr) (fun (_ : Unit) => (wM m0 r cI cJ cZ cB cT hh)) := by
  intro sz
  refine gM_start (y := yX9_feed) (av := [.ref m0, .int p1, .int p2, .int p3, .int p4, .int p5]) (ws := (wM m0 r cI cJ cZ cB cT h)) (Qf := fun A => va_Qi (fun x (_ : Unit) => x = rr) (gB G (fun (_ : Unit) => (wM m0 r cI cJ cZ cB cT hh)) A) A) (cc := cX9_feed) (maxL := 6) (ret := (some .int)) (by decide) (Nat.le_of_ble_eq_true rfl) ?_
  intro p e s m args below meth c A ls H hx hb hr hts hown hin hlocks hml hP hK hD hA hS hl hE
  have hl : lv_has ls 6 [(0, .ref m0), (1, .int p1), (2, .int p2), (3, .int p3), (4, .int p4), (5, .int p5)] := hl
  unfold f_X9_feed at hF
  refine lv_aload_n hx hb dX9_feed_0 rfl (lv_at hl 0 rfl) ?_
  refine va_get (D := G) (ci := 9) (v := .int (eI h 0 3)) (C := RX9) (T := TX9) (N := 53) hx hb hts iX9 hown hK hP 0 wM_at0 rfl 3 (by decide) (hts _ m_107) (fun _ h9 => h9) rfl dX9_feed_1 ?_
  refine lv_bipush (v := 20) hx hb dX9_feed_4 (by decide) ?_
  refine lv_iadd hx hb dX9_feed_6 ?_
  refine lv_sipush (v := 300) hx hb dX9_feed_7 (by decide) ?_
  refine lv_icmp_le (tgt := 15) hx hb dX9_feed_10 (by decide) (fun c_1 => ?_) (fun c_1 => ?_)
  · have hF := ob_pos c_1 hF
    refine lv_aload_n hx hb dX9_feed_15 rfl (lv_at hl 0 rfl) ?_
    refine lv_iload_n hx hb dX9_feed_16 rfl (lv_at hl 1 rfl) ?_
    obtain ⟨h_2, e_2, hF⟩ := ob1_some hF
    refine gx_callv (gx_runV (As := [.int p1]) (rest := []) ⟨hx, hb, hml, hown, hts⟩ (c_X9_put l G cI cJ cZ cB cT m0 r h p1 h_2 e_2 H.size) (gG_V m_109 m_110 m_111 m_64 m_108) rfl e_X9_put ⟨Nat.le_of_ble_eq_true rfl, Nat.le_of_ble_eq_true rfl⟩ hK hP hD hE hS hA 0 wM_at0 rfl rfl hl.1 rfl (Nat.le_of_ble_eq_true rfl) dX9_feed_17 ⟨Nat.le_refl _, Nat.le_refl _⟩) hP hD hS hA (fun u_2 H locs hw_2 hP hD hS => ?_)
    refine lv_aload_n hx hb dX9_feed_20 rfl (lv_at hl 0 rfl) ?_
    refine lv_iload_n hx hb dX9_feed_21 rfl (lv_at hl 2 rfl) ?_
    obtain ⟨h_3, e_3, hF⟩ := ob1_some hF
    refine gx_callv (gx_runV (As := [.int p2]) (rest := []) ⟨hx, hb, hml, hown, hts⟩ (c_X9_put l G cI cJ cZ cB cT m0 r h_2 p2 h_3 e_3 H.size) (gG_V m_109 m_110 m_111 m_64 m_108) rfl e_X9_put ⟨Nat.le_of_ble_eq_true rfl, Nat.le_of_ble_eq_true rfl⟩ hK hP hD hE hS hA 0 wM_at0 rfl rfl hl.1 rfl (Nat.le_of_ble_eq_true rfl) dX9_feed_22 ⟨Nat.le_refl _, Nat.le_refl _⟩) hP hD hS hA (fun u_3 H locs hw_3 hP hD hS => ?_)
    refine lv_aload_n hx hb dX9_feed_25 rfl (lv_at hl 0 rfl) ?_
    refine lv_iload_n hx hb dX9_feed_26 rfl (lv_at hl 3 rfl) ?_
    obtain ⟨h_4, e_4, hF⟩ := ob1_some hF
    refine gx_callv (gx_runV (As := [.int p3]) (rest := []) ⟨hx, hb, hml, hown, hts⟩ (c_X9_put l G cI cJ cZ cB cT m0 r h_3 p3 h_4 e_4 H.size) (gG_V m_109 m_110 m_111 m_64 m_108) rfl e_X9_put ⟨Nat.le_of_ble_eq_true rfl, Nat.le_of_ble_eq_true rfl⟩ hK hP hD hE hS hA 0 wM_at0 rfl rfl hl.1 rfl (Nat.le_of_ble_eq_true rfl) dX9_feed_27 ⟨Nat.le_refl _, Nat.le_refl _⟩) hP hD hS hA (fun u_4 H locs hw_4 hP hD hS => ?_)
    refine lv_aload_n hx hb dX9_feed_30 rfl (lv_at hl 0 rfl) ?_
    refine lv_iload hx hb dX9_feed_31 (lv_at hl 4 rfl) ?_
    obtain ⟨h_5, e_5, hF⟩ := ob1_some hF
    refine gx_callv (gx_runV (As := [.int p4]) (rest := []) ⟨hx, hb, hml, hown, hts⟩ (c_X9_put l G cI cJ cZ cB cT m0 r h_4 p4 h_5 e_5 H.size) (gG_V m_109 m_110 m_111 m_64 m_108) rfl e_X9_put ⟨Nat.le_of_ble_eq_true rfl, Nat.le_of_ble_eq_true rfl⟩ hK hP hD hE hS hA 0 wM_at0 rfl rfl hl.1 rfl (Nat.le_of_ble_eq_true rfl) dX9_feed_33 ⟨Nat.le_refl _, Nat.le_refl _⟩) hP hD hS hA (fun u_5 H locs hw_5 hP hD hS => ?_)
    refine lv_aload_n hx hb dX9_feed_36 rfl (lv_at hl 0 rfl) ?_
    refine lv_iload hx hb dX9_feed_37 (lv_at hl 5 rfl) ?_
    obtain ⟨h_6, e_6, hF⟩ := ob1_some hF
    refine gx_callv (gx_runV (As := [.int p5]) (rest := []) ⟨hx, hb, hml, hown, hts⟩ (c_X9_put l G cI cJ cZ cB cT m0 r h_5 p5 h_6 e_6 H.size) (gG_V m_109 m_110 m_111 m_64 m_108) rfl e_X9_put ⟨Nat.le_of_ble_eq_true rfl, Nat.le_of_ble_eq_true rfl⟩ hK hP hD hE hS hA 0 wM_at0 rfl rfl hl.1 rfl (Nat.le_of_ble_eq_true rfl) dX9_feed_39 ⟨Nat.le_refl _, Nat.le_refl _⟩) hP hD hS hA (fun u_6 H locs hw_6 hP hD hS => ?_)
    refine lv_aload_n hx hb dX9_feed_42 rfl (lv_at hl 0 rfl) ?_
    refine va_get (D := G) (ci := 9) (v := .int (eI h_6 0 3)) (C := RX9) (T := TX9) (N := 53) hx hb hts iX9 hown hK hP 0 wM_at0 rfl 3 (by decide) (hts _ m_107) (fun _ h9 => h9) rfl dX9_feed_43 ?_
    obtain ⟨rfl, rfl⟩ := ob_pair hF
    exact gw_iret () hx hb hr hlocks hP hD hS rfl dX9_feed_46
  · have hF := ob_neg c_1 hF
    refine lv_iconst (v := (-1)) hx hb dX9_feed_13 (by decide) ?_
    obtain ⟨rfl, rfl⟩ := ob_pair hF
    exact gw_iret () hx hb hr hlocks hP hD hS rfl dX9_feed_14
def f_X9_end (h : HS) (p1 : Int32) : Option (Int32 × HS) := (ob1 (f_X9_in p1 0 (eI h 0 3)) (fun r_1 => (if r_1 = 0 then (some ((-1), h)) else (some (p1, (sI h 0 3 p1))))))
set_option maxHeartbeats 4000000 in
set_option maxRecDepth 100000 in
theorem c_X9_end (l : Launch) (G : va_G) (cI cJ cZ cB cT : ClassId) (m0 : Nat) (r : Nat → Nat) (h : HS) (p1 : Int32) (rr : Int32) (hh : HS) (hF : f_X9_end h p1 = some (rr, hh)) : gMi l yX9_end (gws yX9_end cX9_end 2 (some .int)) 2 G (gT cI cJ cZ cB cT) [.ref m0, .int p1] (wM m0 r cI cJ cZ cB cT h) (fun x (_ : Unit) => x = rr) (fun (_ : Unit) => (wM m0 r cI cJ cZ cB cT hh)) := by
  intro sz
  refine gM_start (y := yX9_end) (av := [.ref m0, .int p1]) (ws := (wM m0 r cI cJ cZ cB cT h)) (Qf := fun A => va_Qi (fun x (_ : Unit) => x = rr) (gB G (fun (_ : Unit) => (wM m0 r cI cJ cZ cB cT hh)) A) A) (cc := cX9_end) (maxL := 2) (ret := (some .int)) (by decide) (Nat.le_of_ble_eq_true rfl) ?_
  intro p e s m args below meth c A ls H hx hb hr hts hown hin hlocks hml hP hK hD hA hS hl hE
  have hl : lv_has ls 2 [(0, .ref m0), (1, .int p1)] := hl
  unfold f_X9_end at hF
  refine lv_iload_n hx hb dX9_end_0 rfl (lv_at hl 1 rfl) ?_
  refine lv_iconst (v := 0) hx hb dX9_end_1 (by decide) ?_
  refine lv_aload_n hx hb dX9_end_2 rfl (lv_at hl 0 rfl) ?_
  refine va_get (D := G) (ci := 9) (v := .int (eI h 0 3)) (C := RX9) (T := TX9) (N := 53) hx hb hts iX9 hown hK hP 0 wM_at0 rfl 3 (by decide) (hts _ m_107) (fun _ h9 => h9) rfl dX9_end_3 ?_
  obtain ⟨r_1, e_1, hF⟩ := ob1_some hF
  refine gx_calli0 (gx_runS0 (As := [.int p1, .int 0, .int (eI h 0 3)]) (rest := []) ⟨hx, hb, hml, hown, hts⟩ (c_X9_in l G cI cJ cZ cB cT   p1 0 (eI h 0 3) r_1 e_1 H.size) (gG_S m_62 m_63 m_64 m_61) rfl e_X9_in ⟨Nat.le_of_ble_eq_true rfl, Nat.le_of_ble_eq_true rfl⟩ hK hE hS hA rfl hl.1 rfl (Nat.le_of_ble_eq_true rfl) dX9_end_6 ⟨Nat.le_refl _, Nat.le_refl _⟩) hP hD hS hA (fun x_1 u_1 H locs hw_1 hP hD hS => ?_)
  subst x_1
  refine lv_if_ne (tgt := 14) hx hb dX9_end_9 (by decide) (fun c_2 => ?_) (fun c_2 => ?_)
  · have hF := ob_neg c_2 hF
    refine lv_aload_n hx hb dX9_end_14 rfl (lv_at hl 0 rfl) ?_
    refine lv_iload_n hx hb dX9_end_15 rfl (lv_at hl 1 rfl) ?_
    refine va_put (D := G) (ci := 9) (v := .int p1) (ty := .int) (C := RX9) (T := TX9) (N := 53) hx hb hts iX9 tyX9 tyX9_ok nmX9 hown hK hP hD hS 0 wM_at0 rfl 3 (by decide) (hts _ m_107) (fun _ h9 => h9) rfl (tyX9_ok 3 (by decide)) rfl rfl (Nat.le_of_ble_eq_true rfl) dX9_end_16 (fun H locs hP hD hS => ?_)
    rw [wM_sI0_3] at hP hD
    refine lv_iload_n hx hb dX9_end_19 rfl (lv_at hl 1 rfl) ?_
    obtain ⟨rfl, rfl⟩ := ob_pair hF
    exact gw_iret () hx hb hr hlocks hP hD hS rfl dX9_end_20
  · have hF := ob_pos c_2 hF
    refine lv_iconst (v := (-1)) hx hb dX9_end_12 (by decide) ?_
    obtain ⟨rfl, rfl⟩ := ob_pair hF
    exact gw_iret () hx hb hr hlocks hP hD hS rfl dX9_end_13
def f_X9_draw (h : HS) : Option (Int32 × HS) := (some ((((eA h 0 0) 122) - ((eA h 0 0) 122) / 10 * 10), (sA h 0 0 (upd (eA h 0 0) 122 (((((eA h 0 0) 122) * 157) + 61) - ((((eA h 0 0) 122) * 157) + 61) / 30071 * 30071)))))
set_option maxHeartbeats 4000000 in
set_option maxRecDepth 100000 in
theorem c_X9_draw (l : Launch) (G : va_G) (cI cJ cZ cB cT : ClassId) (m0 : Nat) (r : Nat → Nat) (h : HS)  (rr : Int32) (hh : HS) (hF : f_X9_draw h = some (rr, hh)) : gMi l yX9_draw (gws yX9_draw cX9_draw 2 (some .int)) 1 G (gT cI cJ cZ cB cT) [.ref m0] (wM m0 r cI cJ cZ cB cT h) (fun x (_ : Unit) => x = rr) (fun (_ : Unit) => (wM m0 r cI cJ cZ cB cT hh)) := by
  intro sz
  refine gM_start (y := yX9_draw) (av := [.ref m0]) (ws := (wM m0 r cI cJ cZ cB cT h)) (Qf := fun A => va_Qi (fun x (_ : Unit) => x = rr) (gB G (fun (_ : Unit) => (wM m0 r cI cJ cZ cB cT hh)) A) A) (cc := cX9_draw) (maxL := 2) (ret := (some .int)) (by decide) (Nat.le_of_ble_eq_true rfl) ?_
  intro p e s m args below meth c A ls H hx hb hr hts hown hin hlocks hml hP hK hD hA hS hl hE
  have hl : lv_has ls 2 [(0, .ref m0)] := hl
  unfold f_X9_draw at hF
  refine lv_aload_n hx hb dX9_draw_0 rfl (lv_at hl 0 rfl) ?_
  refine va_get (D := G) (ci := 9) (v := .ref (r 0)) (C := RX9) (T := TX9) (N := 53) hx hb hts iX9 hown hK hP 0 wM_at0 rfl 0 (by decide) (hts _ m_92) (fun _ h9 => h9) rfl dX9_draw_1 ?_
  refine lv_bipush (v := 122) hx hb dX9_draw_4 (by decide) ?_
  refine va_iald (D := G) hx hb hK hP 1 0 wM_at1 rfl (vp_in_nI (n := 122) (by decide) (by decide)) dX9_draw_6 ?_
  refine gw_topi (y := ((eA h 0 0) 122)) rfl ?_
  refine lv_bipush (v := 10) hx hb dX9_draw_7 (by decide) ?_
  refine lv_irem hx hb dX9_draw_9 (by decide) ?_
  refine lv_istore_n (lv' := [(1, .int (((eA h 0 0) 122) - ((eA h 0 0) 122) / 10 * 10)), (0, .ref m0)]) hx hb dX9_draw_10 rfl hl (by decide) rfl (fun ls hl => ?_)
  refine lv_aload_n hx hb dX9_draw_11 rfl (lv_at hl 1 rfl) ?_
  refine va_get (D := G) (ci := 9) (v := .ref (r 0)) (C := RX9) (T := TX9) (N := 53) hx hb hts iX9 hown hK hP 0 wM_at0 rfl 0 (by decide) (hts _ m_92) (fun _ h9 => h9) rfl dX9_draw_12 ?_
  refine lv_bipush (v := 122) hx hb dX9_draw_15 (by decide) ?_
  refine lv_aload_n hx hb dX9_draw_17 rfl (lv_at hl 1 rfl) ?_
  refine va_get (D := G) (ci := 9) (v := .ref (r 0)) (C := RX9) (T := TX9) (N := 53) hx hb hts iX9 hown hK hP 0 wM_at0 rfl 0 (by decide) (hts _ m_92) (fun _ h9 => h9) rfl dX9_draw_18 ?_
  refine lv_bipush (v := 122) hx hb dX9_draw_21 (by decide) ?_
  refine va_iald (D := G) hx hb hK hP 1 0 wM_at1 rfl (vp_in_nI (n := 122) (by decide) (by decide)) dX9_draw_23 ?_
  refine gw_topi (y := ((eA h 0 0) 122)) rfl ?_
  refine lv_sipush (v := 157) hx hb dX9_draw_24 (by decide) ?_
  refine lv_imul hx hb dX9_draw_27 ?_
  refine lv_bipush (v := 61) hx hb dX9_draw_28 (by decide) ?_
  refine lv_iadd hx hb dX9_draw_30 ?_
  refine lv_sipush (v := 30071) hx hb dX9_draw_31 (by decide) ?_
  refine lv_irem hx hb dX9_draw_34 (by decide) ?_
  refine va_iast (D := G) hx hb hK hP hD hS 1 0 wM_at1 rfl (vp_in_nI (n := 122) (by decide) (by decide)) dX9_draw_35 (fun H locs hP hD hS => ?_)
  rw [wM_sA1] at hP hD
  have hP : va_P G vwCl (wM m0 r cI cJ cZ cB cT (sA h 0 0 (upd (eA h 0 0) 122 (((((eA h 0 0) 122) * 157) + 61) - ((((eA h 0 0) 122) * 157) + 61) / 30071 * 30071)))) H := hP
  have hD : va_D A (wM m0 r cI cJ cZ cB cT (sA h 0 0 (upd (eA h 0 0) 122 (((((eA h 0 0) 122) * 157) + 61) - ((((eA h 0 0) 122) * 157) + 61) / 30071 * 30071)))) := hD
  refine lv_iload_n hx hb dX9_draw_36 rfl (lv_at hl 0 rfl) ?_
  obtain ⟨rfl, rfl⟩ := ob_pair hF
  exact gw_iret () hx hb hr hlocks hP hD hS rfl dX9_draw_37
def f_X9_geeseOf_30 (k4 : HS → Int32 → Int32 → Int32 → Option (Int32 × HS)) (h : HS) (x1 : Int32) (x3 : Int32) (y0 : Int32) (y1 : Int32) : Option (Int32 × HS) := (k4 h x1 (y1 + y0) (x3 + 1))
def f_X9_geeseOf_4 : Nat → HS → Int32 → Int32 → Int32 → Option (Int32 × HS)
  | 0, _, _, _, _ => none
  | n + 1, h, x1, x2, x3 => (if ((eA h 0 0) 1) ≤ x3 then (some (x2, h)) else (ob2 (f_X9_ofGoose h x3 4) (fun r_2 h_2 => (if r_2 = x1 then (f_X9_geeseOf_30 (f_X9_geeseOf_4 n) h_2 x1 x3 1 x2) else (f_X9_geeseOf_30 (f_X9_geeseOf_4 n) h_2 x1 x3 0 x2)))))
theorem f_X9_geeseOf_4_s (n : Nat) (h : HS) (x1 : Int32) (x2 : Int32) (x3 : Int32) : f_X9_geeseOf_4 (n + 1) h x1 x2 x3 = (if ((eA h 0 0) 1) ≤ x3 then (some (x2, h)) else (ob2 (f_X9_ofGoose h x3 4) (fun r_2 h_2 => (if r_2 = x1 then (f_X9_geeseOf_30 (f_X9_geeseOf_4 n) h_2 x1 x3 1 x2) else (f_X9_geeseOf_30 (f_X9_geeseOf_4 n) h_2 x1 x3 0 x2))))) := rfl
def f_X9_geeseOf (h : HS) (p1 : Int32) : Option (Int32 × HS) := (f_X9_geeseOf_4 8589934592 h p1 0 0)
set_option maxHeartbeats 4000000 in
set_option maxRecDepth 100000 in
theorem c_X9_geeseOf (l : Launch) (G : va_G) (cI cJ cZ cB cT : ClassId) (m0 : Nat) (r : Nat → Nat) (h : HS) (p1 : Int32) (rr : Int32) (hh : HS) (hF : f_X9_geeseOf h p1 = some (rr, hh)) : gMi l yX9_geeseOf (gws yX9_geeseOf cX9_geeseOf 4 (some .int)) 2 G (gT cI cJ cZ cB cT) [.ref m0, .int p1] (wM m0 r cI cJ cZ cB cT h) (fun x (_ : Unit) => x = rr) (fun (_ : Unit) => (wM m0 r cI cJ cZ cB cT hh)) := by
  intro sz
  refine gM_start (y := yX9_geeseOf) (av := [.ref m0, .int p1]) (ws := (wM m0 r cI cJ cZ cB cT h)) (Qf := fun A => va_Qi (fun x (_ : Unit) => x = rr) (gB G (fun (_ : Unit) => (wM m0 r cI cJ cZ cB cT hh)) A) A) (cc := cX9_geeseOf) (maxL := 4) (ret := (some .int)) (by decide) (Nat.le_of_ble_eq_true rfl) ?_
  intro p e s m args below meth c A ls H hx hb hr hts hown hin hlocks hml hP hK hD hA hS hl hE
  have hl : lv_has ls 4 [(0, .ref m0), (1, .int p1)] := hl
  have hJ_4 : ∀ (n_4 : Nat) (h : HS) (x1 : Int32) (x2 : Int32) (x3 : Int32), f_X9_geeseOf_4 n_4 h x1 x2 x3 = some (rr, hh) → ∀ (H : Heap) (locs : List Loc) (ls : Array Slot), va_P G vwCl (wM m0 r cI cJ cZ cB cT h) H → va_D A (wM m0 r cI cJ cZ cB cT h) → va_S A s.heap H locs → lv_has ls 4 [(0, .ref m0), (1, .int x1), (2, .int x2), (3, .int x3)] → W p l e (gRm 2) s m args below meth c H locs 0 0 (MQ below (va_Qi (fun x (_ : Unit) => x = rr) (gB G (fun (_ : Unit) => (wM m0 r cI cJ cZ cB cT hh)) A) A) args s 0 0 A) (F0 m 4 ls []) := by
    intro n_4
    induction n_4 with
    | zero =>
      intro h x1 x2 x3 hF
      exact absurd hF (by simp [f_X9_geeseOf_4])
    | succ n_4 ih_4 =>
      have hJ_30 : ∀ (h : HS) (x1 : Int32) (x3 : Int32) (y0 : Int32) (y1 : Int32), f_X9_geeseOf_30 (f_X9_geeseOf_4 n_4) h x1 x3 y0 y1 = some (rr, hh) → ∀ (H : Heap) (locs : List Loc) (ls : Array Slot), va_P G vwCl (wM m0 r cI cJ cZ cB cT h) H → va_D A (wM m0 r cI cJ cZ cB cT h) → va_S A s.heap H locs → lv_has ls 4 [(0, .ref m0), (1, .int x1), (3, .int x3)] → W p l e (gRm 2) s m args below meth c H locs 0 0 (MQ below (va_Qi (fun x (_ : Unit) => x = rr) (gB G (fun (_ : Unit) => (wM m0 r cI cJ cZ cB cT hh)) A) A) args s 0 0 A) (F0 m 30 ls [.int y0, .int y1]) := by
        intro h x1 x3 y0 y1 hF H locs ls hP hD hS hl
        unfold f_X9_geeseOf_30 at hF
        refine lv_iadd hx hb dX9_geeseOf_30 ?_
        refine lv_istore_n (lv' := [(2, .int (y1 + y0)), (0, .ref m0), (1, .int x1), (3, .int x3)]) hx hb dX9_geeseOf_31 rfl hl (by decide) rfl (fun ls hl => ?_)
        refine lv_iinc (v := (x3 + 1)) (lv' := [(3, .int (x3 + 1)), (2, .int (y1 + y0)), (0, .ref m0), (1, .int x1)]) hx hb dX9_geeseOf_32 hl (k := 3) rfl rfl (by decide) rfl (fun ls hl => ?_)
        refine lv_goto (tgt := 4) hx hb dX9_geeseOf_35 (by decide) ?_
        exact ih_4 h x1 (y1 + y0) (x3 + 1) hF H _ ls hP hD hS (lv_sub hl [2, 3, 1, 0] rfl)
      intro h x1 x2 x3 hF H locs ls hP hD hS hl
      rw [f_X9_geeseOf_4_s] at hF
      refine lv_iload_n hx hb dX9_geeseOf_4 rfl (lv_at hl 3 rfl) ?_
      refine lv_aload_n hx hb dX9_geeseOf_5 rfl (lv_at hl 0 rfl) ?_
      refine va_get (D := G) (ci := 9) (v := .ref (r 0)) (C := RX9) (T := TX9) (N := 53) hx hb hts iX9 hown hK hP 0 wM_at0 rfl 0 (by decide) (hts _ m_92) (fun _ h9 => h9) rfl dX9_geeseOf_6 ?_
      refine lv_iconst (v := 1) hx hb dX9_geeseOf_9 (by decide) ?_
      refine va_iald (D := G) hx hb hK hP 1 0 wM_at1 rfl (vp_in_nI (n := 1) (by decide) (by decide)) dX9_geeseOf_10 ?_
      refine gw_topi (y := ((eA h 0 0) 1)) rfl ?_
      refine lv_icmp_ge (tgt := 38) hx hb dX9_geeseOf_11 (by decide) (fun c_1 => ?_) (fun c_1 => ?_)
      · have hF := ob_pos c_1 hF
        refine lv_iload_n hx hb dX9_geeseOf_38 rfl (lv_at hl 2 rfl) ?_
        obtain ⟨rfl, rfl⟩ := ob_pair hF
        exact gw_iret () hx hb hr hlocks hP hD hS rfl dX9_geeseOf_39
      · have hF := ob_neg c_1 hF
        refine lv_iload_n hx hb dX9_geeseOf_14 rfl (lv_at hl 2 rfl) ?_
        refine lv_aload_n hx hb dX9_geeseOf_15 rfl (lv_at hl 0 rfl) ?_
        refine lv_iload_n hx hb dX9_geeseOf_16 rfl (lv_at hl 3 rfl) ?_
        refine lv_iconst (v := 4) hx hb dX9_geeseOf_17 (by decide) ?_
        obtain ⟨r_2, h_2, e_2, hF⟩ := ob2_some hF
        refine gx_calli (gx_runV (As := [.int x3, .int 4]) (rest := [.int x2]) ⟨hx, hb, hml, hown, hts⟩ (c_X9_ofGoose l G cI cJ cZ cB cT m0 r h x3 4 r_2 h_2 e_2 H.size) (gG_V m_103 m_104 m_105 m_64 m_102) rfl e_X9_ofGoose ⟨Nat.le_of_ble_eq_true rfl, Nat.le_of_ble_eq_true rfl⟩ hK hP hD hE hS hA 0 wM_at0 rfl rfl hl.1 rfl (Nat.le_of_ble_eq_true rfl) dX9_geeseOf_18 ⟨Nat.le_refl _, Nat.le_refl _⟩) hP hD hS hA (fun x_2 u_2 H locs hw_2 hP hD hS => ?_)
        subst x_2
        refine lv_iload_n hx hb dX9_geeseOf_21 rfl (lv_at hl 1 rfl) ?_
        refine lv_icmp_ne (tgt := 29) hx hb dX9_geeseOf_22 (by decide) (fun c_3 => ?_) (fun c_3 => ?_)
        · have hF := ob_neg c_3 hF
          refine lv_iconst (v := 0) hx hb dX9_geeseOf_29 (by decide) ?_
          exact hJ_30 h_2 x1 x3 0 x2 hF H _ ls hP hD hS (lv_sub hl [0, 1, 3] rfl)
        · have hF := ob_pos c_3 hF
          refine lv_iconst (v := 1) hx hb dX9_geeseOf_25 (by decide) ?_
          refine lv_goto (tgt := 30) hx hb dX9_geeseOf_26 (by decide) ?_
          exact hJ_30 h_2 x1 x3 1 x2 hF H _ ls hP hD hS (lv_sub hl [0, 1, 3] rfl)
  unfold f_X9_geeseOf at hF
  refine lv_iconst (v := 0) hx hb dX9_geeseOf_0 (by decide) ?_
  refine lv_istore_n (lv' := [(2, .int 0), (0, .ref m0), (1, .int p1)]) hx hb dX9_geeseOf_1 rfl hl (by decide) rfl (fun ls hl => ?_)
  refine lv_iconst (v := 0) hx hb dX9_geeseOf_2 (by decide) ?_
  refine lv_istore_n (lv' := [(3, .int 0), (2, .int 0), (0, .ref m0), (1, .int p1)]) hx hb dX9_geeseOf_3 rfl hl (by decide) rfl (fun ls hl => ?_)
  exact hJ_4 8589934592 h p1 0 0 hF H _ ls hP hD hS (lv_sub hl [2, 3, 1, 0] rfl)
def f_X9_image (h : HS) : Option (Int32 × HS) := (ob1 (f_X9_copies h 1) (fun h_1 => (some (((eA h_1 0 0) 121), h_1))))
theorem e_X9_copies : yX9_copies.cls = RX9 ∧ yX9_copies.cls ≠ "java/lang/invoke/MethodHandle" ∧ yX9_copies.cls ≠ "java/lang/invoke/VarHandle" ∧ (parseMethodDescriptor yX9_copies.desc).map (fun d => d.parameters.length) = some 1 := by decide +kernel
set_option maxHeartbeats 4000000 in
set_option maxRecDepth 100000 in
theorem c_X9_image (l : Launch) (G : va_G) (cI cJ cZ cB cT : ClassId) (m0 : Nat) (r : Nat → Nat) (h : HS)  (rr : Int32) (hh : HS) (hF : f_X9_image h = some (rr, hh)) : gMi l yX9_image (gws yX9_image cX9_image 1 (some .int)) 2 G (gT cI cJ cZ cB cT) [.ref m0] (wM m0 r cI cJ cZ cB cT h) (fun x (_ : Unit) => x = rr) (fun (_ : Unit) => (wM m0 r cI cJ cZ cB cT hh)) := by
  intro sz
  refine gM_start (y := yX9_image) (av := [.ref m0]) (ws := (wM m0 r cI cJ cZ cB cT h)) (Qf := fun A => va_Qi (fun x (_ : Unit) => x = rr) (gB G (fun (_ : Unit) => (wM m0 r cI cJ cZ cB cT hh)) A) A) (cc := cX9_image) (maxL := 1) (ret := (some .int)) (by decide) (Nat.le_of_ble_eq_true rfl) ?_
  intro p e s m args below meth c A ls H hx hb hr hts hown hin hlocks hml hP hK hD hA hS hl hE
  have hl : lv_has ls 1 [(0, .ref m0)] := hl
  unfold f_X9_image at hF
  refine lv_aload_n hx hb dX9_image_0 rfl (lv_at hl 0 rfl) ?_
  refine lv_iconst (v := 1) hx hb dX9_image_1 (by decide) ?_
  obtain ⟨h_1, e_1, hF⟩ := ob1_some hF
  refine gx_callv (gx_runV (As := [.int 1]) (rest := []) ⟨hx, hb, hml, hown, hts⟩ (c_X9_copies l G cI cJ cZ cB cT m0 r h 1 h_1 e_1 H.size) (gG_V m_113 m_114 m_115 m_64 m_112) rfl e_X9_copies ⟨Nat.le_of_ble_eq_true rfl, Nat.le_of_ble_eq_true rfl⟩ hK hP hD hE hS hA 0 wM_at0 rfl rfl hl.1 rfl (Nat.le_of_ble_eq_true rfl) dX9_image_2 ⟨Nat.le_refl _, Nat.le_refl _⟩) hP hD hS hA (fun u_1 H locs hw_1 hP hD hS => ?_)
  refine lv_aload_n hx hb dX9_image_5 rfl (lv_at hl 0 rfl) ?_
  refine va_get (D := G) (ci := 9) (v := .ref (r 0)) (C := RX9) (T := TX9) (N := 53) hx hb hts iX9 hown hK hP 0 wM_at0 rfl 0 (by decide) (hts _ m_92) (fun _ h9 => h9) rfl dX9_image_6 ?_
  refine lv_bipush (v := 121) hx hb dX9_image_9 (by decide) ?_
  refine va_iald (D := G) hx hb hK hP 1 0 wM_at1 rfl (vp_in_nI (n := 121) (by decide) (by decide)) dX9_image_11 ?_
  refine gw_topi (y := ((eA h_1 0 0) 121)) rfl ?_
  obtain ⟨rfl, rfl⟩ := ob_pair hF
  exact gw_iret () hx hb hr hlocks hP hD hS rfl dX9_image_12
def f_X9_back (h : HS) : Option (Int32 × HS) := (ob1 (f_X9_copies h 0) (fun h_1 => (some (((eA h_1 0 0) 121), h_1))))
set_option maxHeartbeats 4000000 in
set_option maxRecDepth 100000 in
theorem c_X9_back (l : Launch) (G : va_G) (cI cJ cZ cB cT : ClassId) (m0 : Nat) (r : Nat → Nat) (h : HS)  (rr : Int32) (hh : HS) (hF : f_X9_back h = some (rr, hh)) : gMi l yX9_back (gws yX9_back cX9_back 1 (some .int)) 2 G (gT cI cJ cZ cB cT) [.ref m0] (wM m0 r cI cJ cZ cB cT h) (fun x (_ : Unit) => x = rr) (fun (_ : Unit) => (wM m0 r cI cJ cZ cB cT hh)) := by
  intro sz
  refine gM_start (y := yX9_back) (av := [.ref m0]) (ws := (wM m0 r cI cJ cZ cB cT h)) (Qf := fun A => va_Qi (fun x (_ : Unit) => x = rr) (gB G (fun (_ : Unit) => (wM m0 r cI cJ cZ cB cT hh)) A) A) (cc := cX9_back) (maxL := 1) (ret := (some .int)) (by decide) (Nat.le_of_ble_eq_true rfl) ?_
  intro p e s m args below meth c A ls H hx hb hr hts hown hin hlocks hml hP hK hD hA hS hl hE
  have hl : lv_has ls 1 [(0, .ref m0)] := hl
  unfold f_X9_back at hF
  refine lv_aload_n hx hb dX9_back_0 rfl (lv_at hl 0 rfl) ?_
  refine lv_iconst (v := 0) hx hb dX9_back_1 (by decide) ?_
  obtain ⟨h_1, e_1, hF⟩ := ob1_some hF
  refine gx_callv (gx_runV (As := [.int 0]) (rest := []) ⟨hx, hb, hml, hown, hts⟩ (c_X9_copies l G cI cJ cZ cB cT m0 r h 0 h_1 e_1 H.size) (gG_V m_113 m_114 m_115 m_64 m_112) rfl e_X9_copies ⟨Nat.le_of_ble_eq_true rfl, Nat.le_of_ble_eq_true rfl⟩ hK hP hD hE hS hA 0 wM_at0 rfl rfl hl.1 rfl (Nat.le_of_ble_eq_true rfl) dX9_back_2 ⟨Nat.le_refl _, Nat.le_refl _⟩) hP hD hS hA (fun u_1 H locs hw_1 hP hD hS => ?_)
  refine lv_aload_n hx hb dX9_back_5 rfl (lv_at hl 0 rfl) ?_
  refine va_get (D := G) (ci := 9) (v := .ref (r 0)) (C := RX9) (T := TX9) (N := 53) hx hb hts iX9 hown hK hP 0 wM_at0 rfl 0 (by decide) (hts _ m_92) (fun _ h9 => h9) rfl dX9_back_6 ?_
  refine lv_bipush (v := 121) hx hb dX9_back_9 (by decide) ?_
  refine va_iald (D := G) hx hb hK hP 1 0 wM_at1 rfl (vp_in_nI (n := 121) (by decide) (by decide)) dX9_back_11 ?_
  refine gw_topi (y := ((eA h_1 0 0) 121)) rfl ?_
  obtain ⟨rfl, rfl⟩ := ob_pair hF
  exact gw_iret () hx hb hr hlocks hP hD hS rfl dX9_back_12
def f_X9_about_203 (h : HS) (y0 : Int32) : Option (Int32 × HS) := (some (y0, h))
def f_X9_about (h : HS) (p1 : Int32) : Option (Int32 × HS) := (if p1 = 0 then (some (((eA h 0 0) 0), h)) else (if p1 = 1 then (some (((eA h 0 0) 1), h)) else (if p1 = 2 then (some (((eA h 0 0) 120), h)) else (if p1 = 3 then (some (((eA h 0 0) 2), h)) else (if p1 = 4 then (some (((eA h 0 0) 121), h)) else (if p1 = 5 then (some (((eA h 0 0) 122), h)) else (if p1 = 6 then (some (((eA h 0 0) 3), h)) else (if p1 = 7 then (some (((eA h 0 0) 4), h)) else (if p1 = 8 then (some (((eA h 0 0) 5), h)) else (if p1 = 9 then (some ((eI h 0 3), h)) else (ob2 (f_X9_isMarket h (p1 - 10)) (fun r_11 h_11 => (if r_11 = 0 then (ob1 (f_X9_in p1 20 25) (fun r_13 => (if r_13 = 0 then (f_X9_about_203 h_11 (-2)) else (ob2 (f_X9_geeseOf h_11 (p1 - 20)) (fun r_15 h_15 => (f_X9_about_203 h_15 r_15)))))) else (if 0 ≤ ((10 + (3 * (p1 - 10)))).toInt ∧ ((10 + (3 * (p1 - 10)))).toInt < 1990 then (if 0 ≤ (((10 + (3 * (p1 - 10))) + 1)).toInt ∧ (((10 + (3 * (p1 - 10))) + 1)).toInt < 1990 then (if 0 ≤ (((10 + (3 * (p1 - 10))) + 2)).toInt ∧ (((10 + (3 * (p1 - 10))) + 2)).toInt < 1990 then (some ((((100 * ((eA h_11 0 0) (((10 + (3 * (p1 - 10)))).toNatClampNeg))) + (10 * ((eA h_11 0 0) ((((10 + (3 * (p1 - 10))) + 1)).toNatClampNeg)))) + ((eA h_11 0 0) ((((10 + (3 * (p1 - 10))) + 2)).toNatClampNeg))), h_11)) else none) else none) else none))))))))))))))
theorem e_X9_geeseOf : yX9_geeseOf.cls = RX9 ∧ yX9_geeseOf.cls ≠ "java/lang/invoke/MethodHandle" ∧ yX9_geeseOf.cls ≠ "java/lang/invoke/VarHandle" ∧ (parseMethodDescriptor yX9_geeseOf.desc).map (fun d => d.parameters.length) = some 1 := by decide +kernel
theorem e_X9_isMarket : yX9_isMarket.cls = RX9 ∧ yX9_isMarket.cls ≠ "java/lang/invoke/MethodHandle" ∧ yX9_isMarket.cls ≠ "java/lang/invoke/VarHandle" ∧ (parseMethodDescriptor yX9_isMarket.desc).map (fun d => d.parameters.length) = some 1 := by decide +kernel
set_option maxHeartbeats 4000000 in
set_option maxRecDepth 100000 in
theorem c_X9_about (l : Launch) (G : va_G) (cI cJ cZ cB cT : ClassId) (m0 : Nat) (r : Nat → Nat) (h : HS) (p1 : Int32) (rr : Int32) (hh : HS) (hF : f_X9_about h p1 = some (rr, hh)) : gMi l yX9_about (gws yX9_about cX9_about 3 (some .int)) 3 G (gT cI cJ cZ cB cT) [.ref m0, .int p1] (wM m0 r cI cJ cZ cB cT h) (fun x (_ : Unit) => x = rr) (fun (_ : Unit) => (wM m0 r cI cJ cZ cB cT hh)) := by
  intro sz
  refine gM_start (y := yX9_about) (av := [.ref m0, .int p1]) (ws := (wM m0 r cI cJ cZ cB cT h)) (Qf := fun A => va_Qi (fun x (_ : Unit) => x = rr) (gB G (fun (_ : Unit) => (wM m0 r cI cJ cZ cB cT hh)) A) A) (cc := cX9_about) (maxL := 3) (ret := (some .int)) (by decide) (Nat.le_of_ble_eq_true rfl) ?_
  intro p e s m args below meth c A ls H hx hb hr hts hown hin hlocks hml hP hK hD hA hS hl hE
  have hl : lv_has ls 3 [(0, .ref m0), (1, .int p1)] := hl
  have hJ_203 : ∀ (h : HS) (y0 : Int32), f_X9_about_203 h y0 = some (rr, hh) → ∀ (H : Heap) (locs : List Loc) (ls : Array Slot), va_P G vwCl (wM m0 r cI cJ cZ cB cT h) H → va_D A (wM m0 r cI cJ cZ cB cT h) → va_S A s.heap H locs → lv_has ls 3 [] → W p l e (gRm 3) s m args below meth c H locs 0 0 (MQ below (va_Qi (fun x (_ : Unit) => x = rr) (gB G (fun (_ : Unit) => (wM m0 r cI cJ cZ cB cT hh)) A) A) args s 0 0 A) (F0 m 203 ls [.int y0]) := by
    intro h y0 hF H locs ls hP hD hS hl
    unfold f_X9_about_203 at hF
    obtain ⟨rfl, rfl⟩ := ob_pair hF
    exact gw_iret () hx hb hr hlocks hP hD hS rfl dX9_about_203
  unfold f_X9_about at hF
  refine lv_iload_n hx hb dX9_about_0 rfl (lv_at hl 1 rfl) ?_
  by_cases c_1 : p1 = 0
  · have hF := ob_pos c_1 hF
    refine lv_tableIn (tgt := 56) (off := 55) hx hb dX9_about_1 (by rw [c_1]; decide) (by rw [c_1]; decide) (by rw [c_1]; decide) (by decide) ?_
    refine lv_aload_n hx hb dX9_about_56 rfl (lv_at hl 0 rfl) ?_
    refine va_get (D := G) (ci := 9) (v := .ref (r 0)) (C := RX9) (T := TX9) (N := 53) hx hb hts iX9 hown hK hP 0 wM_at0 rfl 0 (by decide) (hts _ m_92) (fun _ h9 => h9) rfl dX9_about_57 ?_
    refine lv_iconst (v := 0) hx hb dX9_about_60 (by decide) ?_
    refine va_iald (D := G) hx hb hK hP 1 0 wM_at1 rfl (vp_in_nI (n := 0) (by decide) (by decide)) dX9_about_61 ?_
    refine gw_topi (y := ((eA h 0 0) 0)) rfl ?_
    obtain ⟨rfl, rfl⟩ := ob_pair hF
    exact gw_iret () hx hb hr hlocks hP hD hS rfl dX9_about_62
  have hF := ob_neg c_1 hF
  by_cases c_2 : p1 = 1
  · have hF := ob_pos c_2 hF
    refine lv_tableIn (tgt := 63) (off := 62) hx hb dX9_about_1 (by rw [c_2]; decide) (by rw [c_2]; decide) (by rw [c_2]; decide) (by decide) ?_
    refine lv_aload_n hx hb dX9_about_63 rfl (lv_at hl 0 rfl) ?_
    refine va_get (D := G) (ci := 9) (v := .ref (r 0)) (C := RX9) (T := TX9) (N := 53) hx hb hts iX9 hown hK hP 0 wM_at0 rfl 0 (by decide) (hts _ m_92) (fun _ h9 => h9) rfl dX9_about_64 ?_
    refine lv_iconst (v := 1) hx hb dX9_about_67 (by decide) ?_
    refine va_iald (D := G) hx hb hK hP 1 0 wM_at1 rfl (vp_in_nI (n := 1) (by decide) (by decide)) dX9_about_68 ?_
    refine gw_topi (y := ((eA h 0 0) 1)) rfl ?_
    obtain ⟨rfl, rfl⟩ := ob_pair hF
    exact gw_iret () hx hb hr hlocks hP hD hS rfl dX9_about_69
  have hF := ob_neg c_2 hF
  by_cases c_3 : p1 = 2
  · have hF := ob_pos c_3 hF
    refine lv_tableIn (tgt := 70) (off := 69) hx hb dX9_about_1 (by rw [c_3]; decide) (by rw [c_3]; decide) (by rw [c_3]; decide) (by decide) ?_
    refine lv_aload_n hx hb dX9_about_70 rfl (lv_at hl 0 rfl) ?_
    refine va_get (D := G) (ci := 9) (v := .ref (r 0)) (C := RX9) (T := TX9) (N := 53) hx hb hts iX9 hown hK hP 0 wM_at0 rfl 0 (by decide) (hts _ m_92) (fun _ h9 => h9) rfl dX9_about_71 ?_
    refine lv_bipush (v := 120) hx hb dX9_about_74 (by decide) ?_
    refine va_iald (D := G) hx hb hK hP 1 0 wM_at1 rfl (vp_in_nI (n := 120) (by decide) (by decide)) dX9_about_76 ?_
    refine gw_topi (y := ((eA h 0 0) 120)) rfl ?_
    obtain ⟨rfl, rfl⟩ := ob_pair hF
    exact gw_iret () hx hb hr hlocks hP hD hS rfl dX9_about_77
  have hF := ob_neg c_3 hF
  by_cases c_4 : p1 = 3
  · have hF := ob_pos c_4 hF
    refine lv_tableIn (tgt := 78) (off := 77) hx hb dX9_about_1 (by rw [c_4]; decide) (by rw [c_4]; decide) (by rw [c_4]; decide) (by decide) ?_
    refine lv_aload_n hx hb dX9_about_78 rfl (lv_at hl 0 rfl) ?_
    refine va_get (D := G) (ci := 9) (v := .ref (r 0)) (C := RX9) (T := TX9) (N := 53) hx hb hts iX9 hown hK hP 0 wM_at0 rfl 0 (by decide) (hts _ m_92) (fun _ h9 => h9) rfl dX9_about_79 ?_
    refine lv_iconst (v := 2) hx hb dX9_about_82 (by decide) ?_
    refine va_iald (D := G) hx hb hK hP 1 0 wM_at1 rfl (vp_in_nI (n := 2) (by decide) (by decide)) dX9_about_83 ?_
    refine gw_topi (y := ((eA h 0 0) 2)) rfl ?_
    obtain ⟨rfl, rfl⟩ := ob_pair hF
    exact gw_iret () hx hb hr hlocks hP hD hS rfl dX9_about_84
  have hF := ob_neg c_4 hF
  by_cases c_5 : p1 = 4
  · have hF := ob_pos c_5 hF
    refine lv_tableIn (tgt := 85) (off := 84) hx hb dX9_about_1 (by rw [c_5]; decide) (by rw [c_5]; decide) (by rw [c_5]; decide) (by decide) ?_
    refine lv_aload_n hx hb dX9_about_85 rfl (lv_at hl 0 rfl) ?_
    refine va_get (D := G) (ci := 9) (v := .ref (r 0)) (C := RX9) (T := TX9) (N := 53) hx hb hts iX9 hown hK hP 0 wM_at0 rfl 0 (by decide) (hts _ m_92) (fun _ h9 => h9) rfl dX9_about_86 ?_
    refine lv_bipush (v := 121) hx hb dX9_about_89 (by decide) ?_
    refine va_iald (D := G) hx hb hK hP 1 0 wM_at1 rfl (vp_in_nI (n := 121) (by decide) (by decide)) dX9_about_91 ?_
    refine gw_topi (y := ((eA h 0 0) 121)) rfl ?_
    obtain ⟨rfl, rfl⟩ := ob_pair hF
    exact gw_iret () hx hb hr hlocks hP hD hS rfl dX9_about_92
  have hF := ob_neg c_5 hF
  by_cases c_6 : p1 = 5
  · have hF := ob_pos c_6 hF
    refine lv_tableIn (tgt := 93) (off := 92) hx hb dX9_about_1 (by rw [c_6]; decide) (by rw [c_6]; decide) (by rw [c_6]; decide) (by decide) ?_
    refine lv_aload_n hx hb dX9_about_93 rfl (lv_at hl 0 rfl) ?_
    refine va_get (D := G) (ci := 9) (v := .ref (r 0)) (C := RX9) (T := TX9) (N := 53) hx hb hts iX9 hown hK hP 0 wM_at0 rfl 0 (by decide) (hts _ m_92) (fun _ h9 => h9) rfl dX9_about_94 ?_
    refine lv_bipush (v := 122) hx hb dX9_about_97 (by decide) ?_
    refine va_iald (D := G) hx hb hK hP 1 0 wM_at1 rfl (vp_in_nI (n := 122) (by decide) (by decide)) dX9_about_99 ?_
    refine gw_topi (y := ((eA h 0 0) 122)) rfl ?_
    obtain ⟨rfl, rfl⟩ := ob_pair hF
    exact gw_iret () hx hb hr hlocks hP hD hS rfl dX9_about_100
  have hF := ob_neg c_6 hF
  by_cases c_7 : p1 = 6
  · have hF := ob_pos c_7 hF
    refine lv_tableIn (tgt := 101) (off := 100) hx hb dX9_about_1 (by rw [c_7]; decide) (by rw [c_7]; decide) (by rw [c_7]; decide) (by decide) ?_
    refine lv_aload_n hx hb dX9_about_101 rfl (lv_at hl 0 rfl) ?_
    refine va_get (D := G) (ci := 9) (v := .ref (r 0)) (C := RX9) (T := TX9) (N := 53) hx hb hts iX9 hown hK hP 0 wM_at0 rfl 0 (by decide) (hts _ m_92) (fun _ h9 => h9) rfl dX9_about_102 ?_
    refine lv_iconst (v := 3) hx hb dX9_about_105 (by decide) ?_
    refine va_iald (D := G) hx hb hK hP 1 0 wM_at1 rfl (vp_in_nI (n := 3) (by decide) (by decide)) dX9_about_106 ?_
    refine gw_topi (y := ((eA h 0 0) 3)) rfl ?_
    obtain ⟨rfl, rfl⟩ := ob_pair hF
    exact gw_iret () hx hb hr hlocks hP hD hS rfl dX9_about_107
  have hF := ob_neg c_7 hF
  by_cases c_8 : p1 = 7
  · have hF := ob_pos c_8 hF
    refine lv_tableIn (tgt := 108) (off := 107) hx hb dX9_about_1 (by rw [c_8]; decide) (by rw [c_8]; decide) (by rw [c_8]; decide) (by decide) ?_
    refine lv_aload_n hx hb dX9_about_108 rfl (lv_at hl 0 rfl) ?_
    refine va_get (D := G) (ci := 9) (v := .ref (r 0)) (C := RX9) (T := TX9) (N := 53) hx hb hts iX9 hown hK hP 0 wM_at0 rfl 0 (by decide) (hts _ m_92) (fun _ h9 => h9) rfl dX9_about_109 ?_
    refine lv_iconst (v := 4) hx hb dX9_about_112 (by decide) ?_
    refine va_iald (D := G) hx hb hK hP 1 0 wM_at1 rfl (vp_in_nI (n := 4) (by decide) (by decide)) dX9_about_113 ?_
    refine gw_topi (y := ((eA h 0 0) 4)) rfl ?_
    obtain ⟨rfl, rfl⟩ := ob_pair hF
    exact gw_iret () hx hb hr hlocks hP hD hS rfl dX9_about_114
  have hF := ob_neg c_8 hF
  by_cases c_9 : p1 = 8
  · have hF := ob_pos c_9 hF
    refine lv_tableIn (tgt := 115) (off := 114) hx hb dX9_about_1 (by rw [c_9]; decide) (by rw [c_9]; decide) (by rw [c_9]; decide) (by decide) ?_
    refine lv_aload_n hx hb dX9_about_115 rfl (lv_at hl 0 rfl) ?_
    refine va_get (D := G) (ci := 9) (v := .ref (r 0)) (C := RX9) (T := TX9) (N := 53) hx hb hts iX9 hown hK hP 0 wM_at0 rfl 0 (by decide) (hts _ m_92) (fun _ h9 => h9) rfl dX9_about_116 ?_
    refine lv_iconst (v := 5) hx hb dX9_about_119 (by decide) ?_
    refine va_iald (D := G) hx hb hK hP 1 0 wM_at1 rfl (vp_in_nI (n := 5) (by decide) (by decide)) dX9_about_120 ?_
    refine gw_topi (y := ((eA h 0 0) 5)) rfl ?_
    obtain ⟨rfl, rfl⟩ := ob_pair hF
    exact gw_iret () hx hb hr hlocks hP hD hS rfl dX9_about_121
  have hF := ob_neg c_9 hF
  by_cases c_10 : p1 = 9
  · have hF := ob_pos c_10 hF
    refine lv_tableIn (tgt := 122) (off := 121) hx hb dX9_about_1 (by rw [c_10]; decide) (by rw [c_10]; decide) (by rw [c_10]; decide) (by decide) ?_
    refine lv_aload_n hx hb dX9_about_122 rfl (lv_at hl 0 rfl) ?_
    refine va_get (D := G) (ci := 9) (v := .int (eI h 0 3)) (C := RX9) (T := TX9) (N := 53) hx hb hts iX9 hown hK hP 0 wM_at0 rfl 3 (by decide) (hts _ m_107) (fun _ h9 => h9) rfl dX9_about_123 ?_
    obtain ⟨rfl, rfl⟩ := ob_pair hF
    exact gw_iret () hx hb hr hlocks hP hD hS rfl dX9_about_126
  have hF := ob_neg c_10 hF
  have hq : (p1).toInt < 0 ∨ 9 < (p1).toInt := by
    have e_c_1 := lv_neT (a := 0) c_1 (by decide)
    have e_c_2 := lv_neT (a := 1) c_2 (by decide)
    have e_c_3 := lv_neT (a := 2) c_3 (by decide)
    have e_c_4 := lv_neT (a := 3) c_4 (by decide)
    have e_c_5 := lv_neT (a := 4) c_5 (by decide)
    have e_c_6 := lv_neT (a := 5) c_6 (by decide)
    have e_c_7 := lv_neT (a := 6) c_7 (by decide)
    have e_c_8 := lv_neT (a := 7) c_8 (by decide)
    have e_c_9 := lv_neT (a := 8) c_9 (by decide)
    have e_c_10 := lv_neT (a := 9) c_10 (by decide)
    omega
  refine lv_tableOut (tgt := 127) hx hb dX9_about_1 hq (by decide) ?_
  refine lv_aload_n hx hb dX9_about_127 rfl (lv_at hl 0 rfl) ?_
  refine lv_iload_n hx hb dX9_about_128 rfl (lv_at hl 1 rfl) ?_
  refine lv_bipush (v := 10) hx hb dX9_about_129 (by decide) ?_
  refine lv_isub hx hb dX9_about_131 ?_
  obtain ⟨r_11, h_11, e_11, hF⟩ := ob2_some hF
  refine gx_calli (gx_runV (As := [.int (p1 - 10)]) (rest := []) ⟨hx, hb, hml, hown, hts⟩ (c_X9_isMarket l G cI cJ cZ cB cT m0 r h (p1 - 10) r_11 h_11 e_11 H.size) (gG_V m_117 m_118 m_119 m_64 m_116) rfl e_X9_isMarket ⟨Nat.le_of_ble_eq_true rfl, Nat.le_of_ble_eq_true rfl⟩ hK hP hD hE hS hA 0 wM_at0 rfl rfl hl.1 rfl (Nat.le_of_ble_eq_true rfl) dX9_about_132 ⟨Nat.le_refl _, Nat.le_refl _⟩) hP hD hS hA (fun x_11 u_11 H locs hw_11 hP hD hS => ?_)
  subst x_11
  refine lv_if_eq (tgt := 179) hx hb dX9_about_135 (by decide) (fun c_12 => ?_) (fun c_12 => ?_)
  · have hF := ob_pos c_12 hF
    refine lv_iload_n hx hb dX9_about_179 rfl (lv_at hl 1 rfl) ?_
    refine lv_bipush (v := 20) hx hb dX9_about_180 (by decide) ?_
    refine lv_bipush (v := 25) hx hb dX9_about_182 (by decide) ?_
    obtain ⟨r_13, e_13, hF⟩ := ob1_some hF
    refine gx_calli0 (gx_runS0 (As := [.int p1, .int 20, .int 25]) (rest := []) ⟨hx, hb, hml, hown, hts⟩ (c_X9_in l G cI cJ cZ cB cT   p1 20 25 r_13 e_13 H.size) (gG_S m_62 m_63 m_64 m_61) rfl e_X9_in ⟨Nat.le_of_ble_eq_true rfl, Nat.le_of_ble_eq_true rfl⟩ hK hE hS hA rfl hl.1 rfl (Nat.le_of_ble_eq_true rfl) dX9_about_184 ⟨Nat.le_refl _, Nat.le_refl _⟩) hP hD hS hA (fun x_13 u_13 H locs hw_13 hP hD hS => ?_)
    subst x_13
    refine lv_if_eq (tgt := 201) hx hb dX9_about_187 (by decide) (fun c_14 => ?_) (fun c_14 => ?_)
    · have hF := ob_pos c_14 hF
      refine lv_bipush (v := (-2)) hx hb dX9_about_201 (by decide) ?_
      exact hJ_203 h_11 (-2) hF H _ ls hP hD hS (lv_sub hl [] rfl)
    · have hF := ob_neg c_14 hF
      refine lv_aload_n hx hb dX9_about_190 rfl (lv_at hl 0 rfl) ?_
      refine lv_iload_n hx hb dX9_about_191 rfl (lv_at hl 1 rfl) ?_
      refine lv_bipush (v := 20) hx hb dX9_about_192 (by decide) ?_
      refine lv_isub hx hb dX9_about_194 ?_
      obtain ⟨r_15, h_15, e_15, hF⟩ := ob2_some hF
      refine gx_calli (gx_runV (As := [.int (p1 - 20)]) (rest := []) ⟨hx, hb, hml, hown, hts⟩ (c_X9_geeseOf l G cI cJ cZ cB cT m0 r h_11 (p1 - 20) r_15 h_15 e_15 H.size) (gG_V m_121 m_122 m_123 m_64 m_120) rfl e_X9_geeseOf ⟨Nat.le_of_ble_eq_true rfl, Nat.le_of_ble_eq_true rfl⟩ hK hP hD hE hS hA 0 wM_at0 rfl rfl hl.1 rfl (Nat.le_of_ble_eq_true rfl) dX9_about_195 ⟨Nat.le_refl _, Nat.le_refl _⟩) hP hD hS hA (fun x_15 u_15 H locs hw_15 hP hD hS => ?_)
      subst x_15
      refine lv_goto (tgt := 203) hx hb dX9_about_198 (by decide) ?_
      exact hJ_203 h_15 r_15 hF H _ ls hP hD hS (lv_sub hl [] rfl)
  · have hF := ob_neg c_12 hF
    refine lv_bipush (v := 10) hx hb dX9_about_138 (by decide) ?_
    refine lv_iconst (v := 3) hx hb dX9_about_140 (by decide) ?_
    refine lv_iload_n hx hb dX9_about_141 rfl (lv_at hl 1 rfl) ?_
    refine lv_bipush (v := 10) hx hb dX9_about_142 (by decide) ?_
    refine lv_isub hx hb dX9_about_144 ?_
    refine lv_imul hx hb dX9_about_145 ?_
    refine lv_iadd hx hb dX9_about_146 ?_
    refine lv_istore_n (lv' := [(2, .int (10 + (3 * (p1 - 10)))), (0, .ref m0), (1, .int p1)]) hx hb dX9_about_147 rfl hl (by decide) rfl (fun ls hl => ?_)
    refine lv_bipush (v := 100) hx hb dX9_about_148 (by decide) ?_
    refine lv_aload_n hx hb dX9_about_150 rfl (lv_at hl 1 rfl) ?_
    refine va_get (D := G) (ci := 9) (v := .ref (r 0)) (C := RX9) (T := TX9) (N := 53) hx hb hts iX9 hown hK hP 0 wM_at0 rfl 0 (by decide) (hts _ m_92) (fun _ h9 => h9) rfl dX9_about_151 ?_
    refine lv_iload_n hx hb dX9_about_154 rfl (lv_at hl 0 rfl) ?_
    obtain ⟨hi_16, hF⟩ := ob_if hF
    refine va_iald (D := G) hx hb hK hP 1 0 wM_at1 rfl (vp_in_iff.mpr hi_16) dX9_about_155 ?_
    refine gw_topi (y := ((eA h_11 0 0) (((10 + (3 * (p1 - 10)))).toNatClampNeg))) rfl ?_
    refine lv_imul hx hb dX9_about_156 ?_
    refine lv_bipush (v := 10) hx hb dX9_about_157 (by decide) ?_
    refine lv_aload_n hx hb dX9_about_159 rfl (lv_at hl 1 rfl) ?_
    refine va_get (D := G) (ci := 9) (v := .ref (r 0)) (C := RX9) (T := TX9) (N := 53) hx hb hts iX9 hown hK hP 0 wM_at0 rfl 0 (by decide) (hts _ m_92) (fun _ h9 => h9) rfl dX9_about_160 ?_
    refine lv_iload_n hx hb dX9_about_163 rfl (lv_at hl 0 rfl) ?_
    refine lv_iconst (v := 1) hx hb dX9_about_164 (by decide) ?_
    refine lv_iadd hx hb dX9_about_165 ?_
    obtain ⟨hi_17, hF⟩ := ob_if hF
    refine va_iald (D := G) hx hb hK hP 1 0 wM_at1 rfl (vp_in_iff.mpr hi_17) dX9_about_166 ?_
    refine gw_topi (y := ((eA h_11 0 0) ((((10 + (3 * (p1 - 10))) + 1)).toNatClampNeg))) rfl ?_
    refine lv_imul hx hb dX9_about_167 ?_
    refine lv_iadd hx hb dX9_about_168 ?_
    refine lv_aload_n hx hb dX9_about_169 rfl (lv_at hl 1 rfl) ?_
    refine va_get (D := G) (ci := 9) (v := .ref (r 0)) (C := RX9) (T := TX9) (N := 53) hx hb hts iX9 hown hK hP 0 wM_at0 rfl 0 (by decide) (hts _ m_92) (fun _ h9 => h9) rfl dX9_about_170 ?_
    refine lv_iload_n hx hb dX9_about_173 rfl (lv_at hl 0 rfl) ?_
    refine lv_iconst (v := 2) hx hb dX9_about_174 (by decide) ?_
    refine lv_iadd hx hb dX9_about_175 ?_
    obtain ⟨hi_18, hF⟩ := ob_if hF
    refine va_iald (D := G) hx hb hK hP 1 0 wM_at1 rfl (vp_in_iff.mpr hi_18) dX9_about_176 ?_
    refine gw_topi (y := ((eA h_11 0 0) ((((10 + (3 * (p1 - 10))) + 2)).toNatClampNeg))) rfl ?_
    refine lv_iadd hx hb dX9_about_177 ?_
    obtain ⟨rfl, rfl⟩ := ob_pair hF
    exact gw_iret () hx hb hr hlocks hP hD hS rfl dX9_about_178
def f_X9_holds_45 (h : HS) (y0 : Int32) : Option (Int32 × HS) := (some (y0, h))
def f_X9_holds (h : HS) : Option (Int32 × HS) := (ob2 (f_X9_geeseOf h 0) (fun r_1 h_1 => (if (((eA h 0 0) 2) + r_1) = 0 then (some (999, h_1)) else (if ¬ (((eA h 0 0) 2) + r_1) = 0 then (if (((eA h_1 0 0) 120) / (((eA h 0 0) 2) + r_1)) ≤ 999 then (f_X9_holds_45 h_1 (((eA h_1 0 0) 120) / (((eA h 0 0) 2) + r_1))) else (f_X9_holds_45 h_1 999)) else none))))
set_option maxHeartbeats 4000000 in
set_option maxRecDepth 100000 in
theorem c_X9_holds (l : Launch) (G : va_G) (cI cJ cZ cB cT : ClassId) (m0 : Nat) (r : Nat → Nat) (h : HS)  (rr : Int32) (hh : HS) (hF : f_X9_holds h = some (rr, hh)) : gMi l yX9_holds (gws yX9_holds cX9_holds 3 (some .int)) 3 G (gT cI cJ cZ cB cT) [.ref m0] (wM m0 r cI cJ cZ cB cT h) (fun x (_ : Unit) => x = rr) (fun (_ : Unit) => (wM m0 r cI cJ cZ cB cT hh)) := by
  intro sz
  refine gM_start (y := yX9_holds) (av := [.ref m0]) (ws := (wM m0 r cI cJ cZ cB cT h)) (Qf := fun A => va_Qi (fun x (_ : Unit) => x = rr) (gB G (fun (_ : Unit) => (wM m0 r cI cJ cZ cB cT hh)) A) A) (cc := cX9_holds) (maxL := 3) (ret := (some .int)) (by decide) (Nat.le_of_ble_eq_true rfl) ?_
  intro p e s m args below meth c A ls H hx hb hr hts hown hin hlocks hml hP hK hD hA hS hl hE
  have hl : lv_has ls 3 [(0, .ref m0)] := hl
  have hJ_45 : ∀ (h : HS) (y0 : Int32), f_X9_holds_45 h y0 = some (rr, hh) → ∀ (H : Heap) (locs : List Loc) (ls : Array Slot), va_P G vwCl (wM m0 r cI cJ cZ cB cT h) H → va_D A (wM m0 r cI cJ cZ cB cT h) → va_S A s.heap H locs → lv_has ls 3 [] → W p l e (gRm 3) s m args below meth c H locs 0 0 (MQ below (va_Qi (fun x (_ : Unit) => x = rr) (gB G (fun (_ : Unit) => (wM m0 r cI cJ cZ cB cT hh)) A) A) args s 0 0 A) (F0 m 45 ls [.int y0]) := by
    intro h y0 hF H locs ls hP hD hS hl
    unfold f_X9_holds_45 at hF
    obtain ⟨rfl, rfl⟩ := ob_pair hF
    exact gw_iret () hx hb hr hlocks hP hD hS rfl dX9_holds_45
  unfold f_X9_holds at hF
  refine lv_aload_n hx hb dX9_holds_0 rfl (lv_at hl 0 rfl) ?_
  refine va_get (D := G) (ci := 9) (v := .ref (r 0)) (C := RX9) (T := TX9) (N := 53) hx hb hts iX9 hown hK hP 0 wM_at0 rfl 0 (by decide) (hts _ m_92) (fun _ h9 => h9) rfl dX9_holds_1 ?_
  refine lv_iconst (v := 2) hx hb dX9_holds_4 (by decide) ?_
  refine va_iald (D := G) hx hb hK hP 1 0 wM_at1 rfl (vp_in_nI (n := 2) (by decide) (by decide)) dX9_holds_5 ?_
  refine gw_topi (y := ((eA h 0 0) 2)) rfl ?_
  refine lv_aload_n hx hb dX9_holds_6 rfl (lv_at hl 0 rfl) ?_
  refine lv_iconst (v := 0) hx hb dX9_holds_7 (by decide) ?_
  obtain ⟨r_1, h_1, e_1, hF⟩ := ob2_some hF
  refine gx_calli (gx_runV (As := [.int 0]) (rest := [.int ((eA h 0 0) 2)]) ⟨hx, hb, hml, hown, hts⟩ (c_X9_geeseOf l G cI cJ cZ cB cT m0 r h 0 r_1 h_1 e_1 H.size) (gG_V m_121 m_122 m_123 m_64 m_120) rfl e_X9_geeseOf ⟨Nat.le_of_ble_eq_true rfl, Nat.le_of_ble_eq_true rfl⟩ hK hP hD hE hS hA 0 wM_at0 rfl rfl hl.1 rfl (Nat.le_of_ble_eq_true rfl) dX9_holds_8 ⟨Nat.le_refl _, Nat.le_refl _⟩) hP hD hS hA (fun x_1 u_1 H locs hw_1 hP hD hS => ?_)
  subst x_1
  refine lv_iadd hx hb dX9_holds_11 ?_
  refine lv_istore_n (lv' := [(1, .int (((eA h 0 0) 2) + r_1)), (0, .ref m0)]) hx hb dX9_holds_12 rfl hl (by decide) rfl (fun ls hl => ?_)
  refine lv_iload_n hx hb dX9_holds_13 rfl (lv_at hl 0 rfl) ?_
  refine lv_if_ne (tgt := 21) hx hb dX9_holds_14 (by decide) (fun c_2 => ?_) (fun c_2 => ?_)
  · have hF := ob_neg c_2 hF
    refine lv_aload_n hx hb dX9_holds_21 rfl (lv_at hl 1 rfl) ?_
    refine va_get (D := G) (ci := 9) (v := .ref (r 0)) (C := RX9) (T := TX9) (N := 53) hx hb hts iX9 hown hK hP 0 wM_at0 rfl 0 (by decide) (hts _ m_92) (fun _ h9 => h9) rfl dX9_holds_22 ?_
    refine lv_bipush (v := 120) hx hb dX9_holds_25 (by decide) ?_
    refine va_iald (D := G) hx hb hK hP 1 0 wM_at1 rfl (vp_in_nI (n := 120) (by decide) (by decide)) dX9_holds_27 ?_
    refine gw_topi (y := ((eA h_1 0 0) 120)) rfl ?_
    refine lv_iload_n hx hb dX9_holds_28 rfl (lv_at hl 0 rfl) ?_
    obtain ⟨hd_3, hF⟩ := ob_if hF
    refine lv_idiv hx hb dX9_holds_29 hd_3 ?_
    refine lv_istore_n (lv' := [(2, .int (((eA h_1 0 0) 120) / (((eA h 0 0) 2) + r_1))), (1, .int (((eA h 0 0) 2) + r_1)), (0, .ref m0)]) hx hb dX9_holds_30 rfl hl (by decide) rfl (fun ls hl => ?_)
    refine lv_iload_n hx hb dX9_holds_31 rfl (lv_at hl 0 rfl) ?_
    refine lv_sipush (v := 999) hx hb dX9_holds_32 (by decide) ?_
    refine lv_icmp_le (tgt := 44) hx hb dX9_holds_35 (by decide) (fun c_4 => ?_) (fun c_4 => ?_)
    · have hF := ob_pos c_4 hF
      refine lv_iload_n hx hb dX9_holds_44 rfl (lv_at hl 0 rfl) ?_
      exact hJ_45 h_1 (((eA h_1 0 0) 120) / (((eA h 0 0) 2) + r_1)) hF H _ ls hP hD hS (lv_sub hl [] rfl)
    · have hF := ob_neg c_4 hF
      refine lv_sipush (v := 999) hx hb dX9_holds_38 (by decide) ?_
      refine lv_goto (tgt := 45) hx hb dX9_holds_41 (by decide) ?_
      exact hJ_45 h_1 999 hF H _ ls hP hD hS (lv_sub hl [] rfl)
  · have hF := ob_pos c_2 hF
    refine lv_sipush (v := 999) hx hb dX9_holds_17 (by decide) ?_
    obtain ⟨rfl, rfl⟩ := ob_pair hF
    exact gw_iret () hx hb hr hlocks hP hD hS rfl dX9_holds_20
def f_X9_next_439 (h : HS) : Option HS := (some h)
def f_X9_next_426 (h : HS) (y0 : Int32) : Option HS := (f_X9_next_439 (sI (sI h 0 18 y0) 0 15 ((eI h 0 15) + 1)))
def f_X9_next_385 (h : HS) (x1 : Int32) : Option HS := (if (eI h 0 14) ≤ (eI h 0 15) then (f_X9_next_439 h) else (if 0 ≤ ((eI h 0 15)).toInt ∧ ((eI h 0 15)).toInt < 300 then (if ((eA h 0 2) (((eI h 0 15)).toNatClampNeg)) = 61 then (if x1 = 60 then (f_X9_next_426 h 300) else (f_X9_next_426 h 301)) else (f_X9_next_439 h)) else none))
def f_X9_next_370 (h : HS) (x1 : Int32) (y0 : Int32) : Option HS := (if x1 = 60 then (f_X9_next_385 (sI h 0 17 y0) x1) else (if x1 = 62 then (f_X9_next_385 (sI h 0 17 y0) x1) else (f_X9_next_439 (sI h 0 17 y0))))
def f_X9_next_365 (h : HS) (x1 : Int32) : Option HS := (f_X9_next_370 h x1 3)
def f_X9_next_299 (k232 : HS → Option HS) (h : HS) (y0 : Int32) : Option HS := (k232 (sI (sI h 0 18 y0) 0 15 ((eI h 0 15) + 1)))
def f_X9_next_232 : Nat → HS → Option HS
  | 0, _ => none
  | n + 1, h => (if (eI h 0 14) ≤ (eI h 0 15) then (f_X9_next_439 h) else (if 0 ≤ ((eI h 0 15)).toInt ∧ ((eI h 0 15)).toInt < 300 then (ob1 (f_X9_in ((eA h 0 2) (((eI h 0 15)).toNatClampNeg)) 48 57) (fun r_22 => (if r_22 = 0 then (f_X9_next_439 h) else (if (eI h 0 18) ≤ 99999 then (if 0 ≤ ((eI h 0 15)).toInt ∧ ((eI h 0 15)).toInt < 300 then (f_X9_next_299 (f_X9_next_232 n) h (((10 * (eI h 0 18)) + ((eA h 0 2) (((eI h 0 15)).toNatClampNeg))) - 48)) else none) else (f_X9_next_299 (f_X9_next_232 n) h (eI h 0 18)))))) else none))
theorem f_X9_next_232_s (n : Nat) (h : HS) : f_X9_next_232 (n + 1) h = (if (eI h 0 14) ≤ (eI h 0 15) then (f_X9_next_439 h) else (if 0 ≤ ((eI h 0 15)).toInt ∧ ((eI h 0 15)).toInt < 300 then (ob1 (f_X9_in ((eA h 0 2) (((eI h 0 15)).toNatClampNeg)) 48 57) (fun r_22 => (if r_22 = 0 then (f_X9_next_439 h) else (if (eI h 0 18) ≤ 99999 then (if 0 ≤ ((eI h 0 15)).toInt ∧ ((eI h 0 15)).toInt < 300 then (f_X9_next_299 (f_X9_next_232 n) h (((10 * (eI h 0 18)) + ((eA h 0 2) (((eI h 0 15)).toNatClampNeg))) - 48)) else none) else (f_X9_next_299 (f_X9_next_232 n) h (eI h 0 18)))))) else none)) := rfl
def f_X9_next_205 (h : HS) (y0 : Int32) : Option HS := (f_X9_next_439 (sI h 0 17 y0))
def f_X9_next_189 (h : HS) (y0 : Int32) : Option HS := (if 0 ≤ y0 then (f_X9_next_205 (sI h 0 18 y0) 1) else (f_X9_next_205 (sI h 0 18 y0) 4))
def f_X9_next_173 (h : HS) (x2 : Int64) (x4 : Int32) : Option HS := (if x4 ≤ 8 then (ob1 (f_X9_wordOf x2) (fun r_37 => (f_X9_next_189 h r_37))) else (f_X9_next_189 h (-1)))
def f_X9_next_156 (k99 : HS → Int64 → Int32 → Option HS) (h : HS) (x4 : Int32) (y0 : Int64) : Option HS := (k99 (sI h 0 15 ((eI h 0 15) + 1)) y0 (x4 + 1))
def f_X9_next_99 : Nat → HS → Int64 → Int32 → Option HS
  | 0, _, _, _ => none
  | n + 1, h, x2, x4 => (if (eI h 0 14) ≤ (eI h 0 15) then (f_X9_next_173 h x2 x4) else (if 0 ≤ ((eI h 0 15)).toInt ∧ ((eI h 0 15)).toInt < 300 then (ob1 (f_X9_isLetter ((eA h 0 2) (((eI h 0 15)).toNatClampNeg))) (fun r_28 => (if r_28 = 0 then (f_X9_next_173 h x2 x4) else (if 9 ≤ x4 then (f_X9_next_156 (f_X9_next_99 n) h x4 x2) else (if 0 ≤ ((eI h 0 15)).toInt ∧ ((eI h 0 15)).toInt < 300 then (f_X9_next_156 (f_X9_next_99 n) h x4 (((64 * x2) + ((((eA h 0 2) (((eI h 0 15)).toNatClampNeg))).toInt64)) - 64)) else none))))) else none))
theorem f_X9_next_99_s (n : Nat) (h : HS) (x2 : Int64) (x4 : Int32) : f_X9_next_99 (n + 1) h x2 x4 = (if (eI h 0 14) ≤ (eI h 0 15) then (f_X9_next_173 h x2 x4) else (if 0 ≤ ((eI h 0 15)).toInt ∧ ((eI h 0 15)).toInt < 300 then (ob1 (f_X9_isLetter ((eA h 0 2) (((eI h 0 15)).toNatClampNeg))) (fun r_28 => (if r_28 = 0 then (f_X9_next_173 h x2 x4) else (if 9 ≤ x4 then (f_X9_next_156 (f_X9_next_99 n) h x4 x2) else (if 0 ≤ ((eI h 0 15)).toInt ∧ ((eI h 0 15)).toInt < 300 then (f_X9_next_156 (f_X9_next_99 n) h x4 (((64 * x2) + ((((eA h 0 2) (((eI h 0 15)).toNatClampNeg))).toInt64)) - 64)) else none))))) else none)) := rfl
def f_X9_next_52 (h : HS) : Option HS := (if (eI h 0 15) = (eI h 0 14) then (some (sI (sI h 0 16 (eI h 0 15)) 0 17 0)) else (if 0 ≤ ((eI h 0 15)).toInt ∧ ((eI h 0 15)).toInt < 300 then (ob1 (f_X9_isLetter ((eA h 0 2) (((eI h 0 15)).toNatClampNeg))) (fun r_8 => (if r_8 = 0 then (ob1 (f_X9_in ((eA h 0 2) (((eI h 0 15)).toNatClampNeg)) 48 57) (fun r_10 => (if r_10 = 0 then (ob1 (f_X9_in ((eA h 0 2) (((eI h 0 15)).toNatClampNeg)) 59 62) (fun r_12 => (if r_12 = 0 then (ob1 (f_X9_in ((eA h 0 2) (((eI h 0 15)).toNatClampNeg)) 40 45) (fun r_14 => (if r_14 = 0 then (if ((eA h 0 2) (((eI h 0 15)).toNatClampNeg)) = 47 then (f_X9_next_365 (sI (sI (sI h 0 16 (eI h 0 15)) 0 15 ((eI h 0 15) + 1)) 0 18 ((eA h 0 2) (((eI h 0 15)).toNatClampNeg))) ((eA h 0 2) (((eI h 0 15)).toNatClampNeg))) else (if ((eA h 0 2) (((eI h 0 15)).toNatClampNeg)) = 35 then (f_X9_next_365 (sI (sI (sI h 0 16 (eI h 0 15)) 0 15 ((eI h 0 15) + 1)) 0 18 ((eA h 0 2) (((eI h 0 15)).toNatClampNeg))) ((eA h 0 2) (((eI h 0 15)).toNatClampNeg))) else (f_X9_next_370 (sI (sI (sI h 0 16 (eI h 0 15)) 0 15 ((eI h 0 15) + 1)) 0 18 ((eA h 0 2) (((eI h 0 15)).toNatClampNeg))) ((eA h 0 2) (((eI h 0 15)).toNatClampNeg)) 4))) else (f_X9_next_365 (sI (sI (sI h 0 16 (eI h 0 15)) 0 15 ((eI h 0 15) + 1)) 0 18 ((eA h 0 2) (((eI h 0 15)).toNatClampNeg))) ((eA h 0 2) (((eI h 0 15)).toNatClampNeg)))))) else (f_X9_next_365 (sI (sI (sI h 0 16 (eI h 0 15)) 0 15 ((eI h 0 15) + 1)) 0 18 ((eA h 0 2) (((eI h 0 15)).toNatClampNeg))) ((eA h 0 2) (((eI h 0 15)).toNatClampNeg)))))) else (f_X9_next_232 8589934592 (sI (sI (sI h 0 16 (eI h 0 15)) 0 17 2) 0 18 0))))) else (f_X9_next_99 8589934592 (sI h 0 16 (eI h 0 15)) 0 0)))) else none))
def f_X9_next_39 (k0 : HS → Option HS) (h : HS) : Option HS := (k0 (sI h 0 15 ((eI h 0 15) + 1)))
def f_X9_next_0 : Nat → HS → Option HS
  | 0, _ => none
  | n + 1, h => (if (eI h 0 14) ≤ (eI h 0 15) then (f_X9_next_52 h) else (if 0 ≤ ((eI h 0 15)).toInt ∧ ((eI h 0 15)).toInt < 300 then (if ((eA h 0 2) (((eI h 0 15)).toNatClampNeg)) = 32 then (f_X9_next_39 (f_X9_next_0 n) h) else (if 0 ≤ ((eI h 0 15)).toInt ∧ ((eI h 0 15)).toInt < 300 then (if ((eA h 0 2) (((eI h 0 15)).toNatClampNeg)) = 10 then (f_X9_next_39 (f_X9_next_0 n) h) else (f_X9_next_52 h)) else none)) else none))
theorem f_X9_next_0_s (n : Nat) (h : HS) : f_X9_next_0 (n + 1) h = (if (eI h 0 14) ≤ (eI h 0 15) then (f_X9_next_52 h) else (if 0 ≤ ((eI h 0 15)).toInt ∧ ((eI h 0 15)).toInt < 300 then (if ((eA h 0 2) (((eI h 0 15)).toNatClampNeg)) = 32 then (f_X9_next_39 (f_X9_next_0 n) h) else (if 0 ≤ ((eI h 0 15)).toInt ∧ ((eI h 0 15)).toInt < 300 then (if ((eA h 0 2) (((eI h 0 15)).toNatClampNeg)) = 10 then (f_X9_next_39 (f_X9_next_0 n) h) else (f_X9_next_52 h)) else none)) else none)) := rfl
def f_X9_next (h : HS) : Option HS := (f_X9_next_0 8589934592 h)
theorem e_X9_isLetter : yX9_isLetter.cls = RX9 ∧ yX9_isLetter.cls ≠ "java/lang/invoke/MethodHandle" ∧ yX9_isLetter.cls ≠ "java/lang/invoke/VarHandle" ∧ (parseMethodDescriptor yX9_isLetter.desc).map (fun d => d.parameters.length) = some 1 := by decide +kernel
theorem e_X9_wordOf : yX9_wordOf.cls = RX9 ∧ yX9_wordOf.cls ≠ "java/lang/invoke/MethodHandle" ∧ yX9_wordOf.cls ≠ "java/lang/invoke/VarHandle" ∧ (parseMethodDescriptor yX9_wordOf.desc).map (fun d => d.parameters.length) = some 1 := by decide +kernel
set_option maxHeartbeats 4000000 in
set_option maxRecDepth 100000 in
theorem c_X9_next (l : Launch) (G : va_G) (cI cJ cZ cB cT : ClassId) (m0 : Nat) (r : Nat → Nat) (h : HS)  (hh : HS) (hF : f_X9_next h = some hh) : gMv l yX9_next (gws yX9_next cX9_next 5 none) 3 G (gT cI cJ cZ cB cT) [.ref m0] (wM m0 r cI cJ cZ cB cT h) (fun (_ : Unit) => True) (fun (_ : Unit) => (wM m0 r cI cJ cZ cB cT hh)) := by
  intro sz
  refine gM_start (y := yX9_next) (av := [.ref m0]) (ws := (wM m0 r cI cJ cZ cB cT h)) (Qf := fun A => va_Qv (fun (_ : Unit) => True) (gB G (fun (_ : Unit) => (wM m0 r cI cJ cZ cB cT hh)) A) A) (cc := cX9_next) (maxL := 5) (ret := none) (by decide) (Nat.le_of_ble_eq_true rfl) ?_
  intro p e s m args below meth c A ls H hx hb hr hts hown hin hlocks hml hP hK hD hA hS hl hE
  have hl : lv_has ls 5 [(0, .ref m0)] := hl
  have hJ_439 : ∀ (h : HS), f_X9_next_439 h = some hh → ∀ (H : Heap) (locs : List Loc) (ls : Array Slot), va_P G vwCl (wM m0 r cI cJ cZ cB cT h) H → va_D A (wM m0 r cI cJ cZ cB cT h) → va_S A s.heap H locs → lv_has ls 5 [] → W p l e (gRm 3) s m args below meth c H locs 0 0 (MQ below (va_Qv (fun (_ : Unit) => True) (gB G (fun (_ : Unit) => (wM m0 r cI cJ cZ cB cT hh)) A) A) args s 0 0 A) (F0 m 439 ls []) := by
    intro h hF H locs ls hP hD hS hl
    unfold f_X9_next_439 at hF
    obtain rfl := ob_one hF
    exact gw_vret () hx hb hr hlocks hP hD hS trivial dX9_next_439
  have hJ_426 : ∀ (h : HS) (y0 : Int32), f_X9_next_426 h y0 = some hh → ∀ (H : Heap) (locs : List Loc) (ls : Array Slot), va_P G vwCl (wM m0 r cI cJ cZ cB cT h) H → va_D A (wM m0 r cI cJ cZ cB cT h) → va_S A s.heap H locs → lv_has ls 5 [(0, .ref m0)] → W p l e (gRm 3) s m args below meth c H locs 0 0 (MQ below (va_Qv (fun (_ : Unit) => True) (gB G (fun (_ : Unit) => (wM m0 r cI cJ cZ cB cT hh)) A) A) args s 0 0 A) (F0 m 426 ls [.int y0, .ref m0]) := by
    intro h y0 hF H locs ls hP hD hS hl
    unfold f_X9_next_426 at hF
    refine va_put (D := G) (ci := 9) (v := .int y0) (ty := .int) (C := RX9) (T := TX9) (N := 53) hx hb hts iX9 tyX9 tyX9_ok nmX9 hown hK hP hD hS 0 wM_at0 rfl 18 (by decide) (hts _ m_130) (fun _ h9 => h9) rfl (tyX9_ok 18 (by decide)) rfl rfl (Nat.le_of_ble_eq_true rfl) dX9_next_426 (fun H locs hP hD hS => ?_)
    rw [wM_sI0_18] at hP hD
    refine lv_aload_n hx hb dX9_next_429 rfl (lv_at hl 0 rfl) ?_
    refine lv_dup hx hb dX9_next_430 rfl ?_
    refine va_get (D := G) (ci := 9) (v := .int (eI h 0 15)) (C := RX9) (T := TX9) (N := 53) hx hb hts iX9 hown hK hP 0 wM_at0 rfl 15 (by decide) (hts _ m_124) (fun _ h9 => h9) rfl dX9_next_431 ?_
    refine lv_iconst (v := 1) hx hb dX9_next_434 (by decide) ?_
    refine lv_iadd hx hb dX9_next_435 ?_
    refine va_put (D := G) (ci := 9) (v := .int ((eI h 0 15) + 1)) (ty := .int) (C := RX9) (T := TX9) (N := 53) hx hb hts iX9 tyX9 tyX9_ok nmX9 hown hK hP hD hS 0 wM_at0 rfl 15 (by decide) (hts _ m_124) (fun _ h9 => h9) rfl (tyX9_ok 15 (by decide)) rfl rfl (Nat.le_of_ble_eq_true rfl) dX9_next_436 (fun H locs hP hD hS => ?_)
    rw [wM_sI0_15] at hP hD
    exact hJ_439 (sI (sI h 0 18 y0) 0 15 ((eI h 0 15) + 1)) hF H _ ls hP hD hS (lv_sub hl [] rfl)
  have hJ_385 : ∀ (h : HS) (x1 : Int32), f_X9_next_385 h x1 = some hh → ∀ (H : Heap) (locs : List Loc) (ls : Array Slot), va_P G vwCl (wM m0 r cI cJ cZ cB cT h) H → va_D A (wM m0 r cI cJ cZ cB cT h) → va_S A s.heap H locs → lv_has ls 5 [(0, .ref m0), (1, .int x1)] → W p l e (gRm 3) s m args below meth c H locs 0 0 (MQ below (va_Qv (fun (_ : Unit) => True) (gB G (fun (_ : Unit) => (wM m0 r cI cJ cZ cB cT hh)) A) A) args s 0 0 A) (F0 m 385 ls []) := by
    intro h x1 hF H locs ls hP hD hS hl
    unfold f_X9_next_385 at hF
    refine lv_aload_n hx hb dX9_next_385 rfl (lv_at hl 0 rfl) ?_
    refine va_get (D := G) (ci := 9) (v := .int (eI h 0 15)) (C := RX9) (T := TX9) (N := 53) hx hb hts iX9 hown hK hP 0 wM_at0 rfl 15 (by decide) (hts _ m_124) (fun _ h9 => h9) rfl dX9_next_386 ?_
    refine lv_aload_n hx hb dX9_next_389 rfl (lv_at hl 0 rfl) ?_
    refine va_get (D := G) (ci := 9) (v := .int (eI h 0 14)) (C := RX9) (T := TX9) (N := 53) hx hb hts iX9 hown hK hP 0 wM_at0 rfl 14 (by decide) (hts _ m_125) (fun _ h9 => h9) rfl dX9_next_390 ?_
    refine lv_icmp_ge (tgt := 439) hx hb dX9_next_393 (by decide) (fun c_32 => ?_) (fun c_32 => ?_)
    · have hF := ob_pos c_32 hF
      exact hJ_439 h hF H _ ls hP hD hS (lv_sub hl [] rfl)
    · have hF := ob_neg c_32 hF
      refine lv_aload_n hx hb dX9_next_396 rfl (lv_at hl 0 rfl) ?_
      refine va_get (D := G) (ci := 9) (v := .ref (r 2)) (C := RX9) (T := TX9) (N := 53) hx hb hts iX9 hown hK hP 0 wM_at0 rfl 2 (by decide) (hts _ m_106) (fun _ h9 => h9) rfl dX9_next_397 ?_
      refine lv_aload_n hx hb dX9_next_400 rfl (lv_at hl 0 rfl) ?_
      refine va_get (D := G) (ci := 9) (v := .int (eI h 0 15)) (C := RX9) (T := TX9) (N := 53) hx hb hts iX9 hown hK hP 0 wM_at0 rfl 15 (by decide) (hts _ m_124) (fun _ h9 => h9) rfl dX9_next_401 ?_
      obtain ⟨hi_33, hF⟩ := ob_if hF
      refine va_bald (D := G) hx hb hK hP 3 3 wM_at3 rfl (vp_in_iff.mpr hi_33) dX9_next_404 ?_
      refine gw_topi (y := ((eA h 0 2) (((eI h 0 15)).toNatClampNeg))) rfl ?_
      refine lv_bipush (v := 61) hx hb dX9_next_405 (by decide) ?_
      refine lv_icmp_ne (tgt := 439) hx hb dX9_next_407 (by decide) (fun c_34 => ?_) (fun c_34 => ?_)
      · have hF := ob_neg c_34 hF
        exact hJ_439 h hF H _ ls hP hD hS (lv_sub hl [] rfl)
      · have hF := ob_pos c_34 hF
        refine lv_aload_n hx hb dX9_next_410 rfl (lv_at hl 0 rfl) ?_
        refine lv_iload_n hx hb dX9_next_411 rfl (lv_at hl 1 rfl) ?_
        refine lv_bipush (v := 60) hx hb dX9_next_412 (by decide) ?_
        refine lv_icmp_ne (tgt := 423) hx hb dX9_next_414 (by decide) (fun c_35 => ?_) (fun c_35 => ?_)
        · have hF := ob_neg c_35 hF
          refine lv_sipush (v := 301) hx hb dX9_next_423 (by decide) ?_
          exact hJ_426 h 301 hF H _ ls hP hD hS (lv_sub hl [0] rfl)
        · have hF := ob_pos c_35 hF
          refine lv_sipush (v := 300) hx hb dX9_next_417 (by decide) ?_
          refine lv_goto (tgt := 426) hx hb dX9_next_420 (by decide) ?_
          exact hJ_426 h 300 hF H _ ls hP hD hS (lv_sub hl [0] rfl)
  have hJ_370 : ∀ (h : HS) (x1 : Int32) (y0 : Int32), f_X9_next_370 h x1 y0 = some hh → ∀ (H : Heap) (locs : List Loc) (ls : Array Slot), va_P G vwCl (wM m0 r cI cJ cZ cB cT h) H → va_D A (wM m0 r cI cJ cZ cB cT h) → va_S A s.heap H locs → lv_has ls 5 [(0, .ref m0), (1, .int x1)] → W p l e (gRm 3) s m args below meth c H locs 0 0 (MQ below (va_Qv (fun (_ : Unit) => True) (gB G (fun (_ : Unit) => (wM m0 r cI cJ cZ cB cT hh)) A) A) args s 0 0 A) (F0 m 370 ls [.int y0, .ref m0]) := by
    intro h x1 y0 hF H locs ls hP hD hS hl
    unfold f_X9_next_370 at hF
    refine va_put (D := G) (ci := 9) (v := .int y0) (ty := .int) (C := RX9) (T := TX9) (N := 53) hx hb hts iX9 tyX9 tyX9_ok nmX9 hown hK hP hD hS 0 wM_at0 rfl 17 (by decide) (hts _ m_131) (fun _ h9 => h9) rfl (tyX9_ok 17 (by decide)) rfl rfl (Nat.le_of_ble_eq_true rfl) dX9_next_370 (fun H locs hP hD hS => ?_)
    rw [wM_sI0_17] at hP hD
    refine lv_iload_n hx hb dX9_next_373 rfl (lv_at hl 1 rfl) ?_
    refine lv_bipush (v := 60) hx hb dX9_next_374 (by decide) ?_
    refine lv_icmp_eq (tgt := 385) hx hb dX9_next_376 (by decide) (fun c_18 => ?_) (fun c_18 => ?_)
    · have hF := ob_pos c_18 hF
      exact hJ_385 (sI h 0 17 y0) x1 hF H _ ls hP hD hS (lv_sub hl [0, 1] rfl)
    · have hF := ob_neg c_18 hF
      refine lv_iload_n hx hb dX9_next_379 rfl (lv_at hl 1 rfl) ?_
      refine lv_bipush (v := 62) hx hb dX9_next_380 (by decide) ?_
      refine lv_icmp_ne (tgt := 439) hx hb dX9_next_382 (by decide) (fun c_19 => ?_) (fun c_19 => ?_)
      · have hF := ob_neg c_19 hF
        exact hJ_439 (sI h 0 17 y0) hF H _ ls hP hD hS (lv_sub hl [] rfl)
      · have hF := ob_pos c_19 hF
        exact hJ_385 (sI h 0 17 y0) x1 hF H _ ls hP hD hS (lv_sub hl [0, 1] rfl)
  have hJ_365 : ∀ (h : HS) (x1 : Int32), f_X9_next_365 h x1 = some hh → ∀ (H : Heap) (locs : List Loc) (ls : Array Slot), va_P G vwCl (wM m0 r cI cJ cZ cB cT h) H → va_D A (wM m0 r cI cJ cZ cB cT h) → va_S A s.heap H locs → lv_has ls 5 [(0, .ref m0), (1, .int x1)] → W p l e (gRm 3) s m args below meth c H locs 0 0 (MQ below (va_Qv (fun (_ : Unit) => True) (gB G (fun (_ : Unit) => (wM m0 r cI cJ cZ cB cT hh)) A) A) args s 0 0 A) (F0 m 365 ls [.ref m0]) := by
    intro h x1 hF H locs ls hP hD hS hl
    unfold f_X9_next_365 at hF
    refine lv_iconst (v := 3) hx hb dX9_next_365 (by decide) ?_
    refine lv_goto (tgt := 370) hx hb dX9_next_366 (by decide) ?_
    exact hJ_370 h x1 3 hF H _ ls hP hD hS (lv_sub hl [0, 1] rfl)
  have hJ_232 : ∀ (n_232 : Nat) (h : HS), f_X9_next_232 n_232 h = some hh → ∀ (H : Heap) (locs : List Loc) (ls : Array Slot), va_P G vwCl (wM m0 r cI cJ cZ cB cT h) H → va_D A (wM m0 r cI cJ cZ cB cT h) → va_S A s.heap H locs → lv_has ls 5 [(0, .ref m0)] → W p l e (gRm 3) s m args below meth c H locs 0 0 (MQ below (va_Qv (fun (_ : Unit) => True) (gB G (fun (_ : Unit) => (wM m0 r cI cJ cZ cB cT hh)) A) A) args s 0 0 A) (F0 m 232 ls []) := by
    intro n_232
    induction n_232 with
    | zero =>
      intro h hF
      exact absurd hF (by simp [f_X9_next_232])
    | succ n_232 ih_232 =>
      have hJ_299 : ∀ (h : HS) (y0 : Int32), f_X9_next_299 (f_X9_next_232 n_232) h y0 = some hh → ∀ (H : Heap) (locs : List Loc) (ls : Array Slot), va_P G vwCl (wM m0 r cI cJ cZ cB cT h) H → va_D A (wM m0 r cI cJ cZ cB cT h) → va_S A s.heap H locs → lv_has ls 5 [(0, .ref m0)] → W p l e (gRm 3) s m args below meth c H locs 0 0 (MQ below (va_Qv (fun (_ : Unit) => True) (gB G (fun (_ : Unit) => (wM m0 r cI cJ cZ cB cT hh)) A) A) args s 0 0 A) (F0 m 299 ls [.int y0, .ref m0]) := by
        intro h y0 hF H locs ls hP hD hS hl
        unfold f_X9_next_299 at hF
        refine va_put (D := G) (ci := 9) (v := .int y0) (ty := .int) (C := RX9) (T := TX9) (N := 53) hx hb hts iX9 tyX9 tyX9_ok nmX9 hown hK hP hD hS 0 wM_at0 rfl 18 (by decide) (hts _ m_130) (fun _ h9 => h9) rfl (tyX9_ok 18 (by decide)) rfl rfl (Nat.le_of_ble_eq_true rfl) dX9_next_299 (fun H locs hP hD hS => ?_)
        rw [wM_sI0_18] at hP hD
        refine lv_aload_n hx hb dX9_next_302 rfl (lv_at hl 0 rfl) ?_
        refine lv_dup hx hb dX9_next_303 rfl ?_
        refine va_get (D := G) (ci := 9) (v := .int (eI h 0 15)) (C := RX9) (T := TX9) (N := 53) hx hb hts iX9 hown hK hP 0 wM_at0 rfl 15 (by decide) (hts _ m_124) (fun _ h9 => h9) rfl dX9_next_304 ?_
        refine lv_iconst (v := 1) hx hb dX9_next_307 (by decide) ?_
        refine lv_iadd hx hb dX9_next_308 ?_
        refine va_put (D := G) (ci := 9) (v := .int ((eI h 0 15) + 1)) (ty := .int) (C := RX9) (T := TX9) (N := 53) hx hb hts iX9 tyX9 tyX9_ok nmX9 hown hK hP hD hS 0 wM_at0 rfl 15 (by decide) (hts _ m_124) (fun _ h9 => h9) rfl (tyX9_ok 15 (by decide)) rfl rfl (Nat.le_of_ble_eq_true rfl) dX9_next_309 (fun H locs hP hD hS => ?_)
        rw [wM_sI0_15] at hP hD
        refine lv_goto (tgt := 232) hx hb dX9_next_312 (by decide) ?_
        exact ih_232 (sI (sI h 0 18 y0) 0 15 ((eI h 0 15) + 1)) hF H _ ls hP hD hS (lv_sub hl [0] rfl)
      intro h hF H locs ls hP hD hS hl
      rw [f_X9_next_232_s] at hF
      refine lv_aload_n hx hb dX9_next_232 rfl (lv_at hl 0 rfl) ?_
      refine va_get (D := G) (ci := 9) (v := .int (eI h 0 15)) (C := RX9) (T := TX9) (N := 53) hx hb hts iX9 hown hK hP 0 wM_at0 rfl 15 (by decide) (hts _ m_124) (fun _ h9 => h9) rfl dX9_next_233 ?_
      refine lv_aload_n hx hb dX9_next_236 rfl (lv_at hl 0 rfl) ?_
      refine va_get (D := G) (ci := 9) (v := .int (eI h 0 14)) (C := RX9) (T := TX9) (N := 53) hx hb hts iX9 hown hK hP 0 wM_at0 rfl 14 (by decide) (hts _ m_125) (fun _ h9 => h9) rfl dX9_next_237 ?_
      refine lv_icmp_ge (tgt := 439) hx hb dX9_next_240 (by decide) (fun c_20 => ?_) (fun c_20 => ?_)
      · have hF := ob_pos c_20 hF
        exact hJ_439 h hF H _ ls hP hD hS (lv_sub hl [] rfl)
      · have hF := ob_neg c_20 hF
        refine lv_aload_n hx hb dX9_next_243 rfl (lv_at hl 0 rfl) ?_
        refine va_get (D := G) (ci := 9) (v := .ref (r 2)) (C := RX9) (T := TX9) (N := 53) hx hb hts iX9 hown hK hP 0 wM_at0 rfl 2 (by decide) (hts _ m_106) (fun _ h9 => h9) rfl dX9_next_244 ?_
        refine lv_aload_n hx hb dX9_next_247 rfl (lv_at hl 0 rfl) ?_
        refine va_get (D := G) (ci := 9) (v := .int (eI h 0 15)) (C := RX9) (T := TX9) (N := 53) hx hb hts iX9 hown hK hP 0 wM_at0 rfl 15 (by decide) (hts _ m_124) (fun _ h9 => h9) rfl dX9_next_248 ?_
        obtain ⟨hi_21, hF⟩ := ob_if hF
        refine va_bald (D := G) hx hb hK hP 3 3 wM_at3 rfl (vp_in_iff.mpr hi_21) dX9_next_251 ?_
        refine gw_topi (y := ((eA h 0 2) (((eI h 0 15)).toNatClampNeg))) rfl ?_
        refine lv_bipush (v := 48) hx hb dX9_next_252 (by decide) ?_
        refine lv_bipush (v := 57) hx hb dX9_next_254 (by decide) ?_
        obtain ⟨r_22, e_22, hF⟩ := ob1_some hF
        refine gx_calli0 (gx_runS0 (As := [.int ((eA h 0 2) (((eI h 0 15)).toNatClampNeg)), .int 48, .int 57]) (rest := []) ⟨hx, hb, hml, hown, hts⟩ (c_X9_in l G cI cJ cZ cB cT   ((eA h 0 2) (((eI h 0 15)).toNatClampNeg)) 48 57 r_22 e_22 H.size) (gG_S m_62 m_63 m_64 m_61) rfl e_X9_in ⟨Nat.le_of_ble_eq_true rfl, Nat.le_of_ble_eq_true rfl⟩ hK hE hS hA rfl hl.1 rfl (Nat.le_of_ble_eq_true rfl) dX9_next_256 ⟨Nat.le_refl _, Nat.le_refl _⟩) hP hD hS hA (fun x_22 u_22 H locs hw_22 hP hD hS => ?_)
        subst x_22
        refine lv_if_eq (tgt := 439) hx hb dX9_next_259 (by decide) (fun c_23 => ?_) (fun c_23 => ?_)
        · have hF := ob_pos c_23 hF
          exact hJ_439 h hF H _ ls hP hD hS (lv_sub hl [] rfl)
        · have hF := ob_neg c_23 hF
          refine lv_aload_n hx hb dX9_next_262 rfl (lv_at hl 0 rfl) ?_
          refine lv_aload_n hx hb dX9_next_263 rfl (lv_at hl 0 rfl) ?_
          refine va_get (D := G) (ci := 9) (v := .int (eI h 0 18)) (C := RX9) (T := TX9) (N := 53) hx hb hts iX9 hown hK hP 0 wM_at0 rfl 18 (by decide) (hts _ m_130) (fun _ h9 => h9) rfl dX9_next_264 ?_
          refine lv_ldc (v := 99999) hx hb hown (hts _ m_132) dX9_next_267 ?_
          refine lv_icmp_le (tgt := 279) hx hb dX9_next_269 (by decide) (fun c_24 => ?_) (fun c_24 => ?_)
          · have hF := ob_pos c_24 hF
            refine lv_bipush (v := 10) hx hb dX9_next_279 (by decide) ?_
            refine lv_aload_n hx hb dX9_next_281 rfl (lv_at hl 0 rfl) ?_
            refine va_get (D := G) (ci := 9) (v := .int (eI h 0 18)) (C := RX9) (T := TX9) (N := 53) hx hb hts iX9 hown hK hP 0 wM_at0 rfl 18 (by decide) (hts _ m_130) (fun _ h9 => h9) rfl dX9_next_282 ?_
            refine lv_imul hx hb dX9_next_285 ?_
            refine lv_aload_n hx hb dX9_next_286 rfl (lv_at hl 0 rfl) ?_
            refine va_get (D := G) (ci := 9) (v := .ref (r 2)) (C := RX9) (T := TX9) (N := 53) hx hb hts iX9 hown hK hP 0 wM_at0 rfl 2 (by decide) (hts _ m_106) (fun _ h9 => h9) rfl dX9_next_287 ?_
            refine lv_aload_n hx hb dX9_next_290 rfl (lv_at hl 0 rfl) ?_
            refine va_get (D := G) (ci := 9) (v := .int (eI h 0 15)) (C := RX9) (T := TX9) (N := 53) hx hb hts iX9 hown hK hP 0 wM_at0 rfl 15 (by decide) (hts _ m_124) (fun _ h9 => h9) rfl dX9_next_291 ?_
            obtain ⟨hi_25, hF⟩ := ob_if hF
            refine va_bald (D := G) hx hb hK hP 3 3 wM_at3 rfl (vp_in_iff.mpr hi_25) dX9_next_294 ?_
            refine gw_topi (y := ((eA h 0 2) (((eI h 0 15)).toNatClampNeg))) rfl ?_
            refine lv_iadd hx hb dX9_next_295 ?_
            refine lv_bipush (v := 48) hx hb dX9_next_296 (by decide) ?_
            refine lv_isub hx hb dX9_next_298 ?_
            exact hJ_299 h (((10 * (eI h 0 18)) + ((eA h 0 2) (((eI h 0 15)).toNatClampNeg))) - 48) hF H _ ls hP hD hS (lv_sub hl [0] rfl)
          · have hF := ob_neg c_24 hF
            refine lv_aload_n hx hb dX9_next_272 rfl (lv_at hl 0 rfl) ?_
            refine va_get (D := G) (ci := 9) (v := .int (eI h 0 18)) (C := RX9) (T := TX9) (N := 53) hx hb hts iX9 hown hK hP 0 wM_at0 rfl 18 (by decide) (hts _ m_130) (fun _ h9 => h9) rfl dX9_next_273 ?_
            refine lv_goto (tgt := 299) hx hb dX9_next_276 (by decide) ?_
            exact hJ_299 h (eI h 0 18) hF H _ ls hP hD hS (lv_sub hl [0] rfl)
  have hJ_205 : ∀ (h : HS) (y0 : Int32), f_X9_next_205 h y0 = some hh → ∀ (H : Heap) (locs : List Loc) (ls : Array Slot), va_P G vwCl (wM m0 r cI cJ cZ cB cT h) H → va_D A (wM m0 r cI cJ cZ cB cT h) → va_S A s.heap H locs → lv_has ls 5 [] → W p l e (gRm 3) s m args below meth c H locs 0 0 (MQ below (va_Qv (fun (_ : Unit) => True) (gB G (fun (_ : Unit) => (wM m0 r cI cJ cZ cB cT hh)) A) A) args s 0 0 A) (F0 m 205 ls [.int y0, .ref m0]) := by
    intro h y0 hF H locs ls hP hD hS hl
    unfold f_X9_next_205 at hF
    refine va_put (D := G) (ci := 9) (v := .int y0) (ty := .int) (C := RX9) (T := TX9) (N := 53) hx hb hts iX9 tyX9 tyX9_ok nmX9 hown hK hP hD hS 0 wM_at0 rfl 17 (by decide) (hts _ m_131) (fun _ h9 => h9) rfl (tyX9_ok 17 (by decide)) rfl rfl (Nat.le_of_ble_eq_true rfl) dX9_next_205 (fun H locs hP hD hS => ?_)
    rw [wM_sI0_17] at hP hD
    refine lv_goto (tgt := 439) hx hb dX9_next_208 (by decide) ?_
    exact hJ_439 (sI h 0 17 y0) hF H _ ls hP hD hS (lv_sub hl [] rfl)
  have hJ_189 : ∀ (h : HS) (y0 : Int32), f_X9_next_189 h y0 = some hh → ∀ (H : Heap) (locs : List Loc) (ls : Array Slot), va_P G vwCl (wM m0 r cI cJ cZ cB cT h) H → va_D A (wM m0 r cI cJ cZ cB cT h) → va_S A s.heap H locs → lv_has ls 5 [(0, .ref m0)] → W p l e (gRm 3) s m args below meth c H locs 0 0 (MQ below (va_Qv (fun (_ : Unit) => True) (gB G (fun (_ : Unit) => (wM m0 r cI cJ cZ cB cT hh)) A) A) args s 0 0 A) (F0 m 189 ls [.int y0, .ref m0]) := by
    intro h y0 hF H locs ls hP hD hS hl
    unfold f_X9_next_189 at hF
    refine va_put (D := G) (ci := 9) (v := .int y0) (ty := .int) (C := RX9) (T := TX9) (N := 53) hx hb hts iX9 tyX9 tyX9_ok nmX9 hown hK hP hD hS 0 wM_at0 rfl 18 (by decide) (hts _ m_130) (fun _ h9 => h9) rfl (tyX9_ok 18 (by decide)) rfl rfl (Nat.le_of_ble_eq_true rfl) dX9_next_189 (fun H locs hP hD hS => ?_)
    rw [wM_sI0_18] at hP hD
    refine lv_aload_n hx hb dX9_next_192 rfl (lv_at hl 0 rfl) ?_
    refine lv_aload_n hx hb dX9_next_193 rfl (lv_at hl 0 rfl) ?_
    refine va_get (D := G) (ci := 9) (v := .int y0) (C := RX9) (T := TX9) (N := 53) hx hb hts iX9 hown hK hP 0 wM_at0 rfl 18 (by decide) (hts _ m_130) (fun _ h9 => h9) rfl dX9_next_194 ?_
    refine lv_if_ge (tgt := 204) hx hb dX9_next_197 (by decide) (fun c_38 => ?_) (fun c_38 => ?_)
    · have hF := ob_pos c_38 hF
      refine lv_iconst (v := 1) hx hb dX9_next_204 (by decide) ?_
      exact hJ_205 (sI h 0 18 y0) 1 hF H _ ls hP hD hS (lv_sub hl [] rfl)
    · have hF := ob_neg c_38 hF
      refine lv_iconst (v := 4) hx hb dX9_next_200 (by decide) ?_
      refine lv_goto (tgt := 205) hx hb dX9_next_201 (by decide) ?_
      exact hJ_205 (sI h 0 18 y0) 4 hF H _ ls hP hD hS (lv_sub hl [] rfl)
  have hJ_173 : ∀ (h : HS) (x2 : Int64) (x4 : Int32), f_X9_next_173 h x2 x4 = some hh → ∀ (H : Heap) (locs : List Loc) (ls : Array Slot), va_P G vwCl (wM m0 r cI cJ cZ cB cT h) H → va_D A (wM m0 r cI cJ cZ cB cT h) → va_S A s.heap H locs → lv_has ls 5 [(0, .ref m0), (2, .long x2), (4, .int x4)] → W p l e (gRm 3) s m args below meth c H locs 0 0 (MQ below (va_Qv (fun (_ : Unit) => True) (gB G (fun (_ : Unit) => (wM m0 r cI cJ cZ cB cT hh)) A) A) args s 0 0 A) (F0 m 173 ls []) := by
    intro h x2 x4 hF H locs ls hP hD hS hl
    unfold f_X9_next_173 at hF
    refine lv_aload_n hx hb dX9_next_173 rfl (lv_at hl 0 rfl) ?_
    refine lv_iload hx hb dX9_next_174 (lv_at hl 2 rfl) ?_
    refine lv_bipush (v := 8) hx hb dX9_next_176 (by decide) ?_
    refine lv_icmp_le (tgt := 185) hx hb dX9_next_178 (by decide) (fun c_36 => ?_) (fun c_36 => ?_)
    · have hF := ob_pos c_36 hF
      refine lv_lload_n hx hb dX9_next_185 rfl (lv_at hl 1 rfl) ?_
      obtain ⟨r_37, e_37, hF⟩ := ob1_some hF
      refine gx_calli0 (gx_runS0 (As := [.long x2]) (rest := [.ref m0]) ⟨hx, hb, hml, hown, hts⟩ (c_X9_wordOf l G cI cJ cZ cB cT   x2 r_37 e_37 H.size) (gG_S m_135 m_136 m_64 m_134) rfl e_X9_wordOf ⟨Nat.le_of_ble_eq_true rfl, Nat.le_of_ble_eq_true rfl⟩ hK hE hS hA rfl hl.1 rfl (Nat.le_of_ble_eq_true rfl) dX9_next_186 ⟨Nat.le_refl _, Nat.le_refl _⟩) hP hD hS hA (fun x_37 u_37 H locs hw_37 hP hD hS => ?_)
      subst x_37
      exact hJ_189 h r_37 hF H _ ls hP hD hS (lv_sub hl [0] rfl)
    · have hF := ob_neg c_36 hF
      refine lv_iconst (v := (-1)) hx hb dX9_next_181 (by decide) ?_
      refine lv_goto (tgt := 189) hx hb dX9_next_182 (by decide) ?_
      exact hJ_189 h (-1) hF H _ ls hP hD hS (lv_sub hl [0] rfl)
  have hJ_99 : ∀ (n_99 : Nat) (h : HS) (x2 : Int64) (x4 : Int32), f_X9_next_99 n_99 h x2 x4 = some hh → ∀ (H : Heap) (locs : List Loc) (ls : Array Slot), va_P G vwCl (wM m0 r cI cJ cZ cB cT h) H → va_D A (wM m0 r cI cJ cZ cB cT h) → va_S A s.heap H locs → lv_has ls 5 [(0, .ref m0), (2, .long x2), (4, .int x4)] → W p l e (gRm 3) s m args below meth c H locs 0 0 (MQ below (va_Qv (fun (_ : Unit) => True) (gB G (fun (_ : Unit) => (wM m0 r cI cJ cZ cB cT hh)) A) A) args s 0 0 A) (F0 m 99 ls []) := by
    intro n_99
    induction n_99 with
    | zero =>
      intro h x2 x4 hF
      exact absurd hF (by simp [f_X9_next_99])
    | succ n_99 ih_99 =>
      have hJ_156 : ∀ (h : HS) (x4 : Int32) (y0 : Int64), f_X9_next_156 (f_X9_next_99 n_99) h x4 y0 = some hh → ∀ (H : Heap) (locs : List Loc) (ls : Array Slot), va_P G vwCl (wM m0 r cI cJ cZ cB cT h) H → va_D A (wM m0 r cI cJ cZ cB cT h) → va_S A s.heap H locs → lv_has ls 5 [(0, .ref m0), (4, .int x4)] → W p l e (gRm 3) s m args below meth c H locs 0 0 (MQ below (va_Qv (fun (_ : Unit) => True) (gB G (fun (_ : Unit) => (wM m0 r cI cJ cZ cB cT hh)) A) A) args s 0 0 A) (F0 m 156 ls [.long y0]) := by
        intro h x4 y0 hF H locs ls hP hD hS hl
        unfold f_X9_next_156 at hF
        refine lv_lstore_n (lv' := [(2, .long y0), (0, .ref m0), (4, .int x4)]) hx hb dX9_next_156 rfl hl (by decide) rfl (fun ls hl => ?_)
        refine lv_iinc (v := (x4 + 1)) (lv' := [(4, .int (x4 + 1)), (2, .long y0), (0, .ref m0)]) hx hb dX9_next_157 hl (k := 2) rfl rfl (by decide) rfl (fun ls hl => ?_)
        refine lv_aload_n hx hb dX9_next_160 rfl (lv_at hl 2 rfl) ?_
        refine lv_dup hx hb dX9_next_161 rfl ?_
        refine va_get (D := G) (ci := 9) (v := .int (eI h 0 15)) (C := RX9) (T := TX9) (N := 53) hx hb hts iX9 hown hK hP 0 wM_at0 rfl 15 (by decide) (hts _ m_124) (fun _ h9 => h9) rfl dX9_next_162 ?_
        refine lv_iconst (v := 1) hx hb dX9_next_165 (by decide) ?_
        refine lv_iadd hx hb dX9_next_166 ?_
        refine va_put (D := G) (ci := 9) (v := .int ((eI h 0 15) + 1)) (ty := .int) (C := RX9) (T := TX9) (N := 53) hx hb hts iX9 tyX9 tyX9_ok nmX9 hown hK hP hD hS 0 wM_at0 rfl 15 (by decide) (hts _ m_124) (fun _ h9 => h9) rfl (tyX9_ok 15 (by decide)) rfl rfl (Nat.le_of_ble_eq_true rfl) dX9_next_167 (fun H locs hP hD hS => ?_)
        rw [wM_sI0_15] at hP hD
        refine lv_goto (tgt := 99) hx hb dX9_next_170 (by decide) ?_
        exact ih_99 (sI h 0 15 ((eI h 0 15) + 1)) y0 (x4 + 1) hF H _ ls hP hD hS (lv_sub hl [2, 1, 0] rfl)
      intro h x2 x4 hF H locs ls hP hD hS hl
      rw [f_X9_next_99_s] at hF
      refine lv_aload_n hx hb dX9_next_99 rfl (lv_at hl 0 rfl) ?_
      refine va_get (D := G) (ci := 9) (v := .int (eI h 0 15)) (C := RX9) (T := TX9) (N := 53) hx hb hts iX9 hown hK hP 0 wM_at0 rfl 15 (by decide) (hts _ m_124) (fun _ h9 => h9) rfl dX9_next_100 ?_
      refine lv_aload_n hx hb dX9_next_103 rfl (lv_at hl 0 rfl) ?_
      refine va_get (D := G) (ci := 9) (v := .int (eI h 0 14)) (C := RX9) (T := TX9) (N := 53) hx hb hts iX9 hown hK hP 0 wM_at0 rfl 14 (by decide) (hts _ m_125) (fun _ h9 => h9) rfl dX9_next_104 ?_
      refine lv_icmp_ge (tgt := 173) hx hb dX9_next_107 (by decide) (fun c_26 => ?_) (fun c_26 => ?_)
      · have hF := ob_pos c_26 hF
        exact hJ_173 h x2 x4 hF H _ ls hP hD hS (lv_sub hl [0, 1, 2] rfl)
      · have hF := ob_neg c_26 hF
        refine lv_aload_n hx hb dX9_next_110 rfl (lv_at hl 0 rfl) ?_
        refine va_get (D := G) (ci := 9) (v := .ref (r 2)) (C := RX9) (T := TX9) (N := 53) hx hb hts iX9 hown hK hP 0 wM_at0 rfl 2 (by decide) (hts _ m_106) (fun _ h9 => h9) rfl dX9_next_111 ?_
        refine lv_aload_n hx hb dX9_next_114 rfl (lv_at hl 0 rfl) ?_
        refine va_get (D := G) (ci := 9) (v := .int (eI h 0 15)) (C := RX9) (T := TX9) (N := 53) hx hb hts iX9 hown hK hP 0 wM_at0 rfl 15 (by decide) (hts _ m_124) (fun _ h9 => h9) rfl dX9_next_115 ?_
        obtain ⟨hi_27, hF⟩ := ob_if hF
        refine va_bald (D := G) hx hb hK hP 3 3 wM_at3 rfl (vp_in_iff.mpr hi_27) dX9_next_118 ?_
        refine gw_topi (y := ((eA h 0 2) (((eI h 0 15)).toNatClampNeg))) rfl ?_
        obtain ⟨r_28, e_28, hF⟩ := ob1_some hF
        refine gx_calli0 (gx_runS0 (As := [.int ((eA h 0 2) (((eI h 0 15)).toNatClampNeg))]) (rest := []) ⟨hx, hb, hml, hown, hts⟩ (c_X9_isLetter l G cI cJ cZ cB cT   ((eA h 0 2) (((eI h 0 15)).toNatClampNeg)) r_28 e_28 H.size) (gG_S m_128 m_129 m_64 m_127) rfl e_X9_isLetter ⟨Nat.le_of_ble_eq_true rfl, Nat.le_of_ble_eq_true rfl⟩ hK hE hS hA rfl hl.1 rfl (Nat.le_of_ble_eq_true rfl) dX9_next_119 ⟨Nat.le_refl _, Nat.le_refl _⟩) hP hD hS hA (fun x_28 u_28 H locs hw_28 hP hD hS => ?_)
        subst x_28
        refine lv_if_eq (tgt := 173) hx hb dX9_next_122 (by decide) (fun c_29 => ?_) (fun c_29 => ?_)
        · have hF := ob_pos c_29 hF
          exact hJ_173 h x2 x4 hF H _ ls hP hD hS (lv_sub hl [0, 1, 2] rfl)
        · have hF := ob_neg c_29 hF
          refine lv_iload hx hb dX9_next_125 (lv_at hl 2 rfl) ?_
          refine lv_bipush (v := 9) hx hb dX9_next_127 (by decide) ?_
          refine lv_icmp_ge (tgt := 155) hx hb dX9_next_129 (by decide) (fun c_30 => ?_) (fun c_30 => ?_)
          · have hF := ob_pos c_30 hF
            refine lv_lload_n hx hb dX9_next_155 rfl (lv_at hl 1 rfl) ?_
            exact hJ_156 h x4 x2 hF H _ ls hP hD hS (lv_sub hl [0, 2] rfl)
          · have hF := ob_neg c_30 hF
            refine lv_ldc2 (v := 64) hx hb hown (hts _ m_133) dX9_next_132 ?_
            refine lv_lload_n hx hb dX9_next_135 rfl (lv_at hl 1 rfl) ?_
            refine lv_lmul hx hb dX9_next_136 ?_
            refine lv_aload_n hx hb dX9_next_137 rfl (lv_at hl 0 rfl) ?_
            refine va_get (D := G) (ci := 9) (v := .ref (r 2)) (C := RX9) (T := TX9) (N := 53) hx hb hts iX9 hown hK hP 0 wM_at0 rfl 2 (by decide) (hts _ m_106) (fun _ h9 => h9) rfl dX9_next_138 ?_
            refine lv_aload_n hx hb dX9_next_141 rfl (lv_at hl 0 rfl) ?_
            refine va_get (D := G) (ci := 9) (v := .int (eI h 0 15)) (C := RX9) (T := TX9) (N := 53) hx hb hts iX9 hown hK hP 0 wM_at0 rfl 15 (by decide) (hts _ m_124) (fun _ h9 => h9) rfl dX9_next_142 ?_
            obtain ⟨hi_31, hF⟩ := ob_if hF
            refine va_bald (D := G) hx hb hK hP 3 3 wM_at3 rfl (vp_in_iff.mpr hi_31) dX9_next_145 ?_
            refine gw_topi (y := ((eA h 0 2) (((eI h 0 15)).toNatClampNeg))) rfl ?_
            refine lv_i2l (v := (((eA h 0 2) (((eI h 0 15)).toNatClampNeg))).toInt64) hx hb dX9_next_146 rfl ?_
            refine lv_ladd hx hb dX9_next_147 ?_
            refine lv_ldc2 (v := 64) hx hb hown (hts _ m_133) dX9_next_148 ?_
            refine lv_lsub hx hb dX9_next_151 ?_
            refine lv_goto (tgt := 156) hx hb dX9_next_152 (by decide) ?_
            exact hJ_156 h x4 (((64 * x2) + ((((eA h 0 2) (((eI h 0 15)).toNatClampNeg))).toInt64)) - 64) hF H _ ls hP hD hS (lv_sub hl [0, 2] rfl)
  have hJ_52 : ∀ (h : HS), f_X9_next_52 h = some hh → ∀ (H : Heap) (locs : List Loc) (ls : Array Slot), va_P G vwCl (wM m0 r cI cJ cZ cB cT h) H → va_D A (wM m0 r cI cJ cZ cB cT h) → va_S A s.heap H locs → lv_has ls 5 [(0, .ref m0)] → W p l e (gRm 3) s m args below meth c H locs 0 0 (MQ below (va_Qv (fun (_ : Unit) => True) (gB G (fun (_ : Unit) => (wM m0 r cI cJ cZ cB cT hh)) A) A) args s 0 0 A) (F0 m 52 ls []) := by
    intro h hF H locs ls hP hD hS hl
    unfold f_X9_next_52 at hF
    refine lv_aload_n hx hb dX9_next_52 rfl (lv_at hl 0 rfl) ?_
    refine lv_aload_n hx hb dX9_next_53 rfl (lv_at hl 0 rfl) ?_
    refine va_get (D := G) (ci := 9) (v := .int (eI h 0 15)) (C := RX9) (T := TX9) (N := 53) hx hb hts iX9 hown hK hP 0 wM_at0 rfl 15 (by decide) (hts _ m_124) (fun _ h9 => h9) rfl dX9_next_54 ?_
    refine va_put (D := G) (ci := 9) (v := .int (eI h 0 15)) (ty := .int) (C := RX9) (T := TX9) (N := 53) hx hb hts iX9 tyX9 tyX9_ok nmX9 hown hK hP hD hS 0 wM_at0 rfl 16 (by decide) (hts _ m_126) (fun _ h9 => h9) rfl (tyX9_ok 16 (by decide)) rfl rfl (Nat.le_of_ble_eq_true rfl) dX9_next_57 (fun H locs hP hD hS => ?_)
    rw [wM_sI0_16] at hP hD
    refine lv_aload_n hx hb dX9_next_60 rfl (lv_at hl 0 rfl) ?_
    refine va_get (D := G) (ci := 9) (v := .int (eI h 0 15)) (C := RX9) (T := TX9) (N := 53) hx hb hts iX9 hown hK hP 0 wM_at0 rfl 15 (by decide) (hts _ m_124) (fun _ h9 => h9) rfl dX9_next_61 ?_
    refine lv_aload_n hx hb dX9_next_64 rfl (lv_at hl 0 rfl) ?_
    refine va_get (D := G) (ci := 9) (v := .int (eI h 0 14)) (C := RX9) (T := TX9) (N := 53) hx hb hts iX9 hown hK hP 0 wM_at0 rfl 14 (by decide) (hts _ m_125) (fun _ h9 => h9) rfl dX9_next_65 ?_
    refine lv_icmp_ne (tgt := 77) hx hb dX9_next_68 (by decide) (fun c_6 => ?_) (fun c_6 => ?_)
    · have hF := ob_neg c_6 hF
      refine lv_aload_n hx hb dX9_next_77 rfl (lv_at hl 0 rfl) ?_
      refine va_get (D := G) (ci := 9) (v := .ref (r 2)) (C := RX9) (T := TX9) (N := 53) hx hb hts iX9 hown hK hP 0 wM_at0 rfl 2 (by decide) (hts _ m_106) (fun _ h9 => h9) rfl dX9_next_78 ?_
      refine lv_aload_n hx hb dX9_next_81 rfl (lv_at hl 0 rfl) ?_
      refine va_get (D := G) (ci := 9) (v := .int (eI h 0 15)) (C := RX9) (T := TX9) (N := 53) hx hb hts iX9 hown hK hP 0 wM_at0 rfl 15 (by decide) (hts _ m_124) (fun _ h9 => h9) rfl dX9_next_82 ?_
      obtain ⟨hi_7, hF⟩ := ob_if hF
      refine va_bald (D := G) hx hb hK hP 3 3 wM_at3 rfl (vp_in_iff.mpr hi_7) dX9_next_85 ?_
      refine gw_topi (y := ((eA h 0 2) (((eI h 0 15)).toNatClampNeg))) rfl ?_
      refine lv_istore_n (lv' := [(1, .int ((eA h 0 2) (((eI h 0 15)).toNatClampNeg))), (0, .ref m0)]) hx hb dX9_next_86 rfl hl (by decide) rfl (fun ls hl => ?_)
      refine lv_iload_n hx hb dX9_next_87 rfl (lv_at hl 0 rfl) ?_
      obtain ⟨r_8, e_8, hF⟩ := ob1_some hF
      refine gx_calli0 (gx_runS0 (As := [.int ((eA h 0 2) (((eI h 0 15)).toNatClampNeg))]) (rest := []) ⟨hx, hb, hml, hown, hts⟩ (c_X9_isLetter l G cI cJ cZ cB cT   ((eA h 0 2) (((eI h 0 15)).toNatClampNeg)) r_8 e_8 H.size) (gG_S m_128 m_129 m_64 m_127) rfl e_X9_isLetter ⟨Nat.le_of_ble_eq_true rfl, Nat.le_of_ble_eq_true rfl⟩ hK hE hS hA rfl hl.1 rfl (Nat.le_of_ble_eq_true rfl) dX9_next_88 ⟨Nat.le_refl _, Nat.le_refl _⟩) hP hD hS hA (fun x_8 u_8 H locs hw_8 hP hD hS => ?_)
      subst x_8
      refine lv_if_eq (tgt := 211) hx hb dX9_next_91 (by decide) (fun c_9 => ?_) (fun c_9 => ?_)
      · have hF := ob_pos c_9 hF
        refine lv_iload_n hx hb dX9_next_211 rfl (lv_at hl 0 rfl) ?_
        refine lv_bipush (v := 48) hx hb dX9_next_212 (by decide) ?_
        refine lv_bipush (v := 57) hx hb dX9_next_214 (by decide) ?_
        obtain ⟨r_10, e_10, hF⟩ := ob1_some hF
        refine gx_calli0 (gx_runS0 (As := [.int ((eA h 0 2) (((eI h 0 15)).toNatClampNeg)), .int 48, .int 57]) (rest := []) ⟨hx, hb, hml, hown, hts⟩ (c_X9_in l G cI cJ cZ cB cT   ((eA h 0 2) (((eI h 0 15)).toNatClampNeg)) 48 57 r_10 e_10 H.size) (gG_S m_62 m_63 m_64 m_61) rfl e_X9_in ⟨Nat.le_of_ble_eq_true rfl, Nat.le_of_ble_eq_true rfl⟩ hK hE hS hA rfl hl.1 rfl (Nat.le_of_ble_eq_true rfl) dX9_next_216 ⟨Nat.le_refl _, Nat.le_refl _⟩) hP hD hS hA (fun x_10 u_10 H locs hw_10 hP hD hS => ?_)
        subst x_10
        refine lv_if_eq (tgt := 315) hx hb dX9_next_219 (by decide) (fun c_11 => ?_) (fun c_11 => ?_)
        · have hF := ob_pos c_11 hF
          refine lv_aload_n hx hb dX9_next_315 rfl (lv_at hl 1 rfl) ?_
          refine lv_dup hx hb dX9_next_316 rfl ?_
          refine va_get (D := G) (ci := 9) (v := .int (eI h 0 15)) (C := RX9) (T := TX9) (N := 53) hx hb hts iX9 hown hK hP 0 wM_at0 rfl 15 (by decide) (hts _ m_124) (fun _ h9 => h9) rfl dX9_next_317 ?_
          refine lv_iconst (v := 1) hx hb dX9_next_320 (by decide) ?_
          refine lv_iadd hx hb dX9_next_321 ?_
          refine va_put (D := G) (ci := 9) (v := .int ((eI h 0 15) + 1)) (ty := .int) (C := RX9) (T := TX9) (N := 53) hx hb hts iX9 tyX9 tyX9_ok nmX9 hown hK hP hD hS 0 wM_at0 rfl 15 (by decide) (hts _ m_124) (fun _ h9 => h9) rfl (tyX9_ok 15 (by decide)) rfl rfl (Nat.le_of_ble_eq_true rfl) dX9_next_322 (fun H locs hP hD hS => ?_)
          rw [wM_sI0_15] at hP hD
          refine lv_aload_n hx hb dX9_next_325 rfl (lv_at hl 1 rfl) ?_
          refine lv_iload_n hx hb dX9_next_326 rfl (lv_at hl 0 rfl) ?_
          refine va_put (D := G) (ci := 9) (v := .int ((eA h 0 2) (((eI h 0 15)).toNatClampNeg))) (ty := .int) (C := RX9) (T := TX9) (N := 53) hx hb hts iX9 tyX9 tyX9_ok nmX9 hown hK hP hD hS 0 wM_at0 rfl 18 (by decide) (hts _ m_130) (fun _ h9 => h9) rfl (tyX9_ok 18 (by decide)) rfl rfl (Nat.le_of_ble_eq_true rfl) dX9_next_327 (fun H locs hP hD hS => ?_)
          rw [wM_sI0_18] at hP hD
          refine lv_aload_n hx hb dX9_next_330 rfl (lv_at hl 1 rfl) ?_
          refine lv_iload_n hx hb dX9_next_331 rfl (lv_at hl 0 rfl) ?_
          refine lv_bipush (v := 59) hx hb dX9_next_332 (by decide) ?_
          refine lv_bipush (v := 62) hx hb dX9_next_334 (by decide) ?_
          obtain ⟨r_12, e_12, hF⟩ := ob1_some hF
          refine gx_calli0 (gx_runS0 (As := [.int ((eA h 0 2) (((eI h 0 15)).toNatClampNeg)), .int 59, .int 62]) (rest := [.ref m0]) ⟨hx, hb, hml, hown, hts⟩ (c_X9_in l G cI cJ cZ cB cT   ((eA h 0 2) (((eI h 0 15)).toNatClampNeg)) 59 62 r_12 e_12 H.size) (gG_S m_62 m_63 m_64 m_61) rfl e_X9_in ⟨Nat.le_of_ble_eq_true rfl, Nat.le_of_ble_eq_true rfl⟩ hK hE hS hA rfl hl.1 rfl (Nat.le_of_ble_eq_true rfl) dX9_next_336 ⟨Nat.le_refl _, Nat.le_refl _⟩) hP hD hS hA (fun x_12 u_12 H locs hw_12 hP hD hS => ?_)
          subst x_12
          refine lv_if_ne (tgt := 365) hx hb dX9_next_339 (by decide) (fun c_13 => ?_) (fun c_13 => ?_)
          · have hF := ob_neg c_13 hF
            exact hJ_365 (sI (sI (sI h 0 16 (eI h 0 15)) 0 15 ((eI h 0 15) + 1)) 0 18 ((eA h 0 2) (((eI h 0 15)).toNatClampNeg))) ((eA h 0 2) (((eI h 0 15)).toNatClampNeg)) hF H _ ls hP hD hS (lv_sub hl [1, 0] rfl)
          · have hF := ob_pos c_13 hF
            refine lv_iload_n hx hb dX9_next_342 rfl (lv_at hl 0 rfl) ?_
            refine lv_bipush (v := 40) hx hb dX9_next_343 (by decide) ?_
            refine lv_bipush (v := 45) hx hb dX9_next_345 (by decide) ?_
            obtain ⟨r_14, e_14, hF⟩ := ob1_some hF
            refine gx_calli0 (gx_runS0 (As := [.int ((eA h 0 2) (((eI h 0 15)).toNatClampNeg)), .int 40, .int 45]) (rest := [.ref m0]) ⟨hx, hb, hml, hown, hts⟩ (c_X9_in l G cI cJ cZ cB cT   ((eA h 0 2) (((eI h 0 15)).toNatClampNeg)) 40 45 r_14 e_14 H.size) (gG_S m_62 m_63 m_64 m_61) rfl e_X9_in ⟨Nat.le_of_ble_eq_true rfl, Nat.le_of_ble_eq_true rfl⟩ hK hE hS hA rfl hl.1 rfl (Nat.le_of_ble_eq_true rfl) dX9_next_347 ⟨Nat.le_refl _, Nat.le_refl _⟩) hP hD hS hA (fun x_14 u_14 H locs hw_14 hP hD hS => ?_)
            subst x_14
            refine lv_if_ne (tgt := 365) hx hb dX9_next_350 (by decide) (fun c_15 => ?_) (fun c_15 => ?_)
            · have hF := ob_neg c_15 hF
              exact hJ_365 (sI (sI (sI h 0 16 (eI h 0 15)) 0 15 ((eI h 0 15) + 1)) 0 18 ((eA h 0 2) (((eI h 0 15)).toNatClampNeg))) ((eA h 0 2) (((eI h 0 15)).toNatClampNeg)) hF H _ ls hP hD hS (lv_sub hl [1, 0] rfl)
            · have hF := ob_pos c_15 hF
              refine lv_iload_n hx hb dX9_next_353 rfl (lv_at hl 0 rfl) ?_
              refine lv_bipush (v := 47) hx hb dX9_next_354 (by decide) ?_
              refine lv_icmp_eq (tgt := 365) hx hb dX9_next_356 (by decide) (fun c_16 => ?_) (fun c_16 => ?_)
              · have hF := ob_pos c_16 hF
                exact hJ_365 (sI (sI (sI h 0 16 (eI h 0 15)) 0 15 ((eI h 0 15) + 1)) 0 18 ((eA h 0 2) (((eI h 0 15)).toNatClampNeg))) ((eA h 0 2) (((eI h 0 15)).toNatClampNeg)) hF H _ ls hP hD hS (lv_sub hl [1, 0] rfl)
              · have hF := ob_neg c_16 hF
                refine lv_iload_n hx hb dX9_next_359 rfl (lv_at hl 0 rfl) ?_
                refine lv_bipush (v := 35) hx hb dX9_next_360 (by decide) ?_
                refine lv_icmp_ne (tgt := 369) hx hb dX9_next_362 (by decide) (fun c_17 => ?_) (fun c_17 => ?_)
                · have hF := ob_neg c_17 hF
                  refine lv_iconst (v := 4) hx hb dX9_next_369 (by decide) ?_
                  exact hJ_370 (sI (sI (sI h 0 16 (eI h 0 15)) 0 15 ((eI h 0 15) + 1)) 0 18 ((eA h 0 2) (((eI h 0 15)).toNatClampNeg))) ((eA h 0 2) (((eI h 0 15)).toNatClampNeg)) 4 hF H _ ls hP hD hS (lv_sub hl [1, 0] rfl)
                · have hF := ob_pos c_17 hF
                  exact hJ_365 (sI (sI (sI h 0 16 (eI h 0 15)) 0 15 ((eI h 0 15) + 1)) 0 18 ((eA h 0 2) (((eI h 0 15)).toNatClampNeg))) ((eA h 0 2) (((eI h 0 15)).toNatClampNeg)) hF H _ ls hP hD hS (lv_sub hl [1, 0] rfl)
        · have hF := ob_neg c_11 hF
          refine lv_aload_n hx hb dX9_next_222 rfl (lv_at hl 1 rfl) ?_
          refine lv_iconst (v := 2) hx hb dX9_next_223 (by decide) ?_
          refine va_put (D := G) (ci := 9) (v := .int 2) (ty := .int) (C := RX9) (T := TX9) (N := 53) hx hb hts iX9 tyX9 tyX9_ok nmX9 hown hK hP hD hS 0 wM_at0 rfl 17 (by decide) (hts _ m_131) (fun _ h9 => h9) rfl (tyX9_ok 17 (by decide)) rfl rfl (Nat.le_of_ble_eq_true rfl) dX9_next_224 (fun H locs hP hD hS => ?_)
          rw [wM_sI0_17] at hP hD
          refine lv_aload_n hx hb dX9_next_227 rfl (lv_at hl 1 rfl) ?_
          refine lv_iconst (v := 0) hx hb dX9_next_228 (by decide) ?_
          refine va_put (D := G) (ci := 9) (v := .int 0) (ty := .int) (C := RX9) (T := TX9) (N := 53) hx hb hts iX9 tyX9 tyX9_ok nmX9 hown hK hP hD hS 0 wM_at0 rfl 18 (by decide) (hts _ m_130) (fun _ h9 => h9) rfl (tyX9_ok 18 (by decide)) rfl rfl (Nat.le_of_ble_eq_true rfl) dX9_next_229 (fun H locs hP hD hS => ?_)
          rw [wM_sI0_18] at hP hD
          exact hJ_232 8589934592 (sI (sI (sI h 0 16 (eI h 0 15)) 0 17 2) 0 18 0) hF H _ ls hP hD hS (lv_sub hl [1] rfl)
      · have hF := ob_neg c_9 hF
        refine lv_lconst (v := 0) hx hb dX9_next_94 (by decide) ?_
        refine lv_lstore_n (lv' := [(2, .long 0), (1, .int ((eA h 0 2) (((eI h 0 15)).toNatClampNeg))), (0, .ref m0)]) hx hb dX9_next_95 rfl hl (by decide) rfl (fun ls hl => ?_)
        refine lv_iconst (v := 0) hx hb dX9_next_96 (by decide) ?_
        refine lv_istore (lv' := [(4, .int 0), (2, .long 0), (1, .int ((eA h 0 2) (((eI h 0 15)).toNatClampNeg))), (0, .ref m0)]) hx hb dX9_next_97 hl (by decide) rfl (fun ls hl => ?_)
        exact hJ_99 8589934592 (sI h 0 16 (eI h 0 15)) 0 0 hF H _ ls hP hD hS (lv_sub hl [3, 1, 0] rfl)
    · have hF := ob_pos c_6 hF
      refine lv_aload_n hx hb dX9_next_71 rfl (lv_at hl 0 rfl) ?_
      refine lv_iconst (v := 0) hx hb dX9_next_72 (by decide) ?_
      refine va_put (D := G) (ci := 9) (v := .int 0) (ty := .int) (C := RX9) (T := TX9) (N := 53) hx hb hts iX9 tyX9 tyX9_ok nmX9 hown hK hP hD hS 0 wM_at0 rfl 17 (by decide) (hts _ m_131) (fun _ h9 => h9) rfl (tyX9_ok 17 (by decide)) rfl rfl (Nat.le_of_ble_eq_true rfl) dX9_next_73 (fun H locs hP hD hS => ?_)
      rw [wM_sI0_17] at hP hD
      obtain rfl := ob_one hF
      exact gw_vret () hx hb hr hlocks hP hD hS trivial dX9_next_76
  have hJ_0 : ∀ (n_0 : Nat) (h : HS), f_X9_next_0 n_0 h = some hh → ∀ (H : Heap) (locs : List Loc) (ls : Array Slot), va_P G vwCl (wM m0 r cI cJ cZ cB cT h) H → va_D A (wM m0 r cI cJ cZ cB cT h) → va_S A s.heap H locs → lv_has ls 5 [(0, .ref m0)] → W p l e (gRm 3) s m args below meth c H locs 0 0 (MQ below (va_Qv (fun (_ : Unit) => True) (gB G (fun (_ : Unit) => (wM m0 r cI cJ cZ cB cT hh)) A) A) args s 0 0 A) (F0 m 0 ls []) := by
    intro n_0
    induction n_0 with
    | zero =>
      intro h hF
      exact absurd hF (by simp [f_X9_next_0])
    | succ n_0 ih_0 =>
      have hJ_39 : ∀ (h : HS), f_X9_next_39 (f_X9_next_0 n_0) h = some hh → ∀ (H : Heap) (locs : List Loc) (ls : Array Slot), va_P G vwCl (wM m0 r cI cJ cZ cB cT h) H → va_D A (wM m0 r cI cJ cZ cB cT h) → va_S A s.heap H locs → lv_has ls 5 [(0, .ref m0)] → W p l e (gRm 3) s m args below meth c H locs 0 0 (MQ below (va_Qv (fun (_ : Unit) => True) (gB G (fun (_ : Unit) => (wM m0 r cI cJ cZ cB cT hh)) A) A) args s 0 0 A) (F0 m 39 ls []) := by
        intro h hF H locs ls hP hD hS hl
        unfold f_X9_next_39 at hF
        refine lv_aload_n hx hb dX9_next_39 rfl (lv_at hl 0 rfl) ?_
        refine lv_dup hx hb dX9_next_40 rfl ?_
        refine va_get (D := G) (ci := 9) (v := .int (eI h 0 15)) (C := RX9) (T := TX9) (N := 53) hx hb hts iX9 hown hK hP 0 wM_at0 rfl 15 (by decide) (hts _ m_124) (fun _ h9 => h9) rfl dX9_next_41 ?_
        refine lv_iconst (v := 1) hx hb dX9_next_44 (by decide) ?_
        refine lv_iadd hx hb dX9_next_45 ?_
        refine va_put (D := G) (ci := 9) (v := .int ((eI h 0 15) + 1)) (ty := .int) (C := RX9) (T := TX9) (N := 53) hx hb hts iX9 tyX9 tyX9_ok nmX9 hown hK hP hD hS 0 wM_at0 rfl 15 (by decide) (hts _ m_124) (fun _ h9 => h9) rfl (tyX9_ok 15 (by decide)) rfl rfl (Nat.le_of_ble_eq_true rfl) dX9_next_46 (fun H locs hP hD hS => ?_)
        rw [wM_sI0_15] at hP hD
        refine lv_goto (tgt := 0) hx hb dX9_next_49 (by decide) ?_
        exact ih_0 (sI h 0 15 ((eI h 0 15) + 1)) hF H _ ls hP hD hS (lv_sub hl [0] rfl)
      intro h hF H locs ls hP hD hS hl
      rw [f_X9_next_0_s] at hF
      refine lv_aload_n hx hb dX9_next_0 rfl (lv_at hl 0 rfl) ?_
      refine va_get (D := G) (ci := 9) (v := .int (eI h 0 15)) (C := RX9) (T := TX9) (N := 53) hx hb hts iX9 hown hK hP 0 wM_at0 rfl 15 (by decide) (hts _ m_124) (fun _ h9 => h9) rfl dX9_next_1 ?_
      refine lv_aload_n hx hb dX9_next_4 rfl (lv_at hl 0 rfl) ?_
      refine va_get (D := G) (ci := 9) (v := .int (eI h 0 14)) (C := RX9) (T := TX9) (N := 53) hx hb hts iX9 hown hK hP 0 wM_at0 rfl 14 (by decide) (hts _ m_125) (fun _ h9 => h9) rfl dX9_next_5 ?_
      refine lv_icmp_ge (tgt := 52) hx hb dX9_next_8 (by decide) (fun c_1 => ?_) (fun c_1 => ?_)
      · have hF := ob_pos c_1 hF
        exact hJ_52 h hF H _ ls hP hD hS (lv_sub hl [0] rfl)
      · have hF := ob_neg c_1 hF
        refine lv_aload_n hx hb dX9_next_11 rfl (lv_at hl 0 rfl) ?_
        refine va_get (D := G) (ci := 9) (v := .ref (r 2)) (C := RX9) (T := TX9) (N := 53) hx hb hts iX9 hown hK hP 0 wM_at0 rfl 2 (by decide) (hts _ m_106) (fun _ h9 => h9) rfl dX9_next_12 ?_
        refine lv_aload_n hx hb dX9_next_15 rfl (lv_at hl 0 rfl) ?_
        refine va_get (D := G) (ci := 9) (v := .int (eI h 0 15)) (C := RX9) (T := TX9) (N := 53) hx hb hts iX9 hown hK hP 0 wM_at0 rfl 15 (by decide) (hts _ m_124) (fun _ h9 => h9) rfl dX9_next_16 ?_
        obtain ⟨hi_2, hF⟩ := ob_if hF
        refine va_bald (D := G) hx hb hK hP 3 3 wM_at3 rfl (vp_in_iff.mpr hi_2) dX9_next_19 ?_
        refine gw_topi (y := ((eA h 0 2) (((eI h 0 15)).toNatClampNeg))) rfl ?_
        refine lv_bipush (v := 32) hx hb dX9_next_20 (by decide) ?_
        refine lv_icmp_eq (tgt := 39) hx hb dX9_next_22 (by decide) (fun c_3 => ?_) (fun c_3 => ?_)
        · have hF := ob_pos c_3 hF
          exact hJ_39 h hF H _ ls hP hD hS (lv_sub hl [0] rfl)
        · have hF := ob_neg c_3 hF
          refine lv_aload_n hx hb dX9_next_25 rfl (lv_at hl 0 rfl) ?_
          refine va_get (D := G) (ci := 9) (v := .ref (r 2)) (C := RX9) (T := TX9) (N := 53) hx hb hts iX9 hown hK hP 0 wM_at0 rfl 2 (by decide) (hts _ m_106) (fun _ h9 => h9) rfl dX9_next_26 ?_
          refine lv_aload_n hx hb dX9_next_29 rfl (lv_at hl 0 rfl) ?_
          refine va_get (D := G) (ci := 9) (v := .int (eI h 0 15)) (C := RX9) (T := TX9) (N := 53) hx hb hts iX9 hown hK hP 0 wM_at0 rfl 15 (by decide) (hts _ m_124) (fun _ h9 => h9) rfl dX9_next_30 ?_
          obtain ⟨hi_4, hF⟩ := ob_if hF
          refine va_bald (D := G) hx hb hK hP 3 3 wM_at3 rfl (vp_in_iff.mpr hi_4) dX9_next_33 ?_
          refine gw_topi (y := ((eA h 0 2) (((eI h 0 15)).toNatClampNeg))) rfl ?_
          refine lv_bipush (v := 10) hx hb dX9_next_34 (by decide) ?_
          refine lv_icmp_ne (tgt := 52) hx hb dX9_next_36 (by decide) (fun c_5 => ?_) (fun c_5 => ?_)
          · have hF := ob_neg c_5 hF
            exact hJ_52 h hF H _ ls hP hD hS (lv_sub hl [0] rfl)
          · have hF := ob_pos c_5 hF
            exact hJ_39 h hF H _ ls hP hD hS (lv_sub hl [0] rfl)
  unfold f_X9_next at hF
  exact hJ_0 8589934592 h hF H _ ls hP hD hS (lv_sub hl [0] rfl)
def f_X9_isSign_21 (h : HS) (y0 : Int32) : Option (Int32 × HS) := (if y0 = 0 ∨ y0 = 1 then (some (y0, h)) else none)
def f_X9_isSign_20 (h : HS) : Option (Int32 × HS) := (f_X9_isSign_21 h 0)
def f_X9_isSign (h : HS) (p1 : Int32) : Option (Int32 × HS) := (if (eI h 0 17) = 3 then (if (eI h 0 18) = p1 then (f_X9_isSign_21 h 1) else (f_X9_isSign_20 h)) else (f_X9_isSign_20 h))
set_option maxHeartbeats 4000000 in
set_option maxRecDepth 100000 in
theorem c_X9_isSign (l : Launch) (G : va_G) (cI cJ cZ cB cT : ClassId) (m0 : Nat) (r : Nat → Nat) (h : HS) (p1 : Int32) (rr : Int32) (hh : HS) (hF : f_X9_isSign h p1 = some (rr, hh)) : gMi l yX9_isSign (gws yX9_isSign cX9_isSign 2 (some .boolean)) 1 G (gT cI cJ cZ cB cT) [.ref m0, .int p1] (wM m0 r cI cJ cZ cB cT h) (fun x (_ : Unit) => x = rr) (fun (_ : Unit) => (wM m0 r cI cJ cZ cB cT hh)) := by
  intro sz
  refine gM_start (y := yX9_isSign) (av := [.ref m0, .int p1]) (ws := (wM m0 r cI cJ cZ cB cT h)) (Qf := fun A => va_Qi (fun x (_ : Unit) => x = rr) (gB G (fun (_ : Unit) => (wM m0 r cI cJ cZ cB cT hh)) A) A) (cc := cX9_isSign) (maxL := 2) (ret := (some .boolean)) (by decide) (Nat.le_of_ble_eq_true rfl) ?_
  intro p e s m args below meth c A ls H hx hb hr hts hown hin hlocks hml hP hK hD hA hS hl hE
  have hl : lv_has ls 2 [(0, .ref m0), (1, .int p1)] := hl
  have hJ_21 : ∀ (h : HS) (y0 : Int32), f_X9_isSign_21 h y0 = some (rr, hh) → ∀ (H : Heap) (locs : List Loc) (ls : Array Slot), va_P G vwCl (wM m0 r cI cJ cZ cB cT h) H → va_D A (wM m0 r cI cJ cZ cB cT h) → va_S A s.heap H locs → lv_has ls 2 [] → W p l e (gRm 1) s m args below meth c H locs 0 0 (MQ below (va_Qi (fun x (_ : Unit) => x = rr) (gB G (fun (_ : Unit) => (wM m0 r cI cJ cZ cB cT hh)) A) A) args s 0 0 A) (F0 m 21 ls [.int y0]) := by
    intro h y0 hF H locs ls hP hD hS hl
    unfold f_X9_isSign_21 at hF
    obtain ⟨hz_3, hF⟩ := ob_if hF
    obtain ⟨rfl, rfl⟩ := ob_pair hF
    exact gw_zret () hx hb hr hlocks (gz hz_3) hP hD hS rfl dX9_isSign_21
  have hJ_20 : ∀ (h : HS), f_X9_isSign_20 h = some (rr, hh) → ∀ (H : Heap) (locs : List Loc) (ls : Array Slot), va_P G vwCl (wM m0 r cI cJ cZ cB cT h) H → va_D A (wM m0 r cI cJ cZ cB cT h) → va_S A s.heap H locs → lv_has ls 2 [] → W p l e (gRm 1) s m args below meth c H locs 0 0 (MQ below (va_Qi (fun x (_ : Unit) => x = rr) (gB G (fun (_ : Unit) => (wM m0 r cI cJ cZ cB cT hh)) A) A) args s 0 0 A) (F0 m 20 ls []) := by
    intro h hF H locs ls hP hD hS hl
    unfold f_X9_isSign_20 at hF
    refine lv_iconst (v := 0) hx hb dX9_isSign_20 (by decide) ?_
    exact hJ_21 h 0 hF H _ ls hP hD hS (lv_sub hl [] rfl)
  unfold f_X9_isSign at hF
  refine lv_aload_n hx hb dX9_isSign_0 rfl (lv_at hl 0 rfl) ?_
  refine va_get (D := G) (ci := 9) (v := .int (eI h 0 17)) (C := RX9) (T := TX9) (N := 53) hx hb hts iX9 hown hK hP 0 wM_at0 rfl 17 (by decide) (hts _ m_131) (fun _ h9 => h9) rfl dX9_isSign_1 ?_
  refine lv_iconst (v := 3) hx hb dX9_isSign_4 (by decide) ?_
  refine lv_icmp_ne (tgt := 20) hx hb dX9_isSign_5 (by decide) (fun c_1 => ?_) (fun c_1 => ?_)
  · have hF := ob_neg c_1 hF
    exact hJ_20 h hF H _ ls hP hD hS (lv_sub hl [] rfl)
  · have hF := ob_pos c_1 hF
    refine lv_aload_n hx hb dX9_isSign_8 rfl (lv_at hl 0 rfl) ?_
    refine va_get (D := G) (ci := 9) (v := .int (eI h 0 18)) (C := RX9) (T := TX9) (N := 53) hx hb hts iX9 hown hK hP 0 wM_at0 rfl 18 (by decide) (hts _ m_130) (fun _ h9 => h9) rfl dX9_isSign_9 ?_
    refine lv_iload_n hx hb dX9_isSign_12 rfl (lv_at hl 1 rfl) ?_
    refine lv_icmp_ne (tgt := 20) hx hb dX9_isSign_13 (by decide) (fun c_2 => ?_) (fun c_2 => ?_)
    · have hF := ob_neg c_2 hF
      exact hJ_20 h hF H _ ls hP hD hS (lv_sub hl [] rfl)
    · have hF := ob_pos c_2 hF
      refine lv_iconst (v := 1) hx hb dX9_isSign_16 (by decide) ?_
      refine lv_goto (tgt := 21) hx hb dX9_isSign_17 (by decide) ?_
      exact hJ_21 h 1 hF H _ ls hP hD hS (lv_sub hl [] rfl)
def f_X9_isWord_21 (h : HS) (y0 : Int32) : Option (Int32 × HS) := (if y0 = 0 ∨ y0 = 1 then (some (y0, h)) else none)
def f_X9_isWord_20 (h : HS) : Option (Int32 × HS) := (f_X9_isWord_21 h 0)
def f_X9_isWord (h : HS) (p1 : Int32) : Option (Int32 × HS) := (if (eI h 0 17) = 1 then (if (eI h 0 18) = p1 then (f_X9_isWord_21 h 1) else (f_X9_isWord_20 h)) else (f_X9_isWord_20 h))
set_option maxHeartbeats 4000000 in
set_option maxRecDepth 100000 in
theorem c_X9_isWord (l : Launch) (G : va_G) (cI cJ cZ cB cT : ClassId) (m0 : Nat) (r : Nat → Nat) (h : HS) (p1 : Int32) (rr : Int32) (hh : HS) (hF : f_X9_isWord h p1 = some (rr, hh)) : gMi l yX9_isWord (gws yX9_isWord cX9_isWord 2 (some .boolean)) 1 G (gT cI cJ cZ cB cT) [.ref m0, .int p1] (wM m0 r cI cJ cZ cB cT h) (fun x (_ : Unit) => x = rr) (fun (_ : Unit) => (wM m0 r cI cJ cZ cB cT hh)) := by
  intro sz
  refine gM_start (y := yX9_isWord) (av := [.ref m0, .int p1]) (ws := (wM m0 r cI cJ cZ cB cT h)) (Qf := fun A => va_Qi (fun x (_ : Unit) => x = rr) (gB G (fun (_ : Unit) => (wM m0 r cI cJ cZ cB cT hh)) A) A) (cc := cX9_isWord) (maxL := 2) (ret := (some .boolean)) (by decide) (Nat.le_of_ble_eq_true rfl) ?_
  intro p e s m args below meth c A ls H hx hb hr hts hown hin hlocks hml hP hK hD hA hS hl hE
  have hl : lv_has ls 2 [(0, .ref m0), (1, .int p1)] := hl
  have hJ_21 : ∀ (h : HS) (y0 : Int32), f_X9_isWord_21 h y0 = some (rr, hh) → ∀ (H : Heap) (locs : List Loc) (ls : Array Slot), va_P G vwCl (wM m0 r cI cJ cZ cB cT h) H → va_D A (wM m0 r cI cJ cZ cB cT h) → va_S A s.heap H locs → lv_has ls 2 [] → W p l e (gRm 1) s m args below meth c H locs 0 0 (MQ below (va_Qi (fun x (_ : Unit) => x = rr) (gB G (fun (_ : Unit) => (wM m0 r cI cJ cZ cB cT hh)) A) A) args s 0 0 A) (F0 m 21 ls [.int y0]) := by
    intro h y0 hF H locs ls hP hD hS hl
    unfold f_X9_isWord_21 at hF
    obtain ⟨hz_3, hF⟩ := ob_if hF
    obtain ⟨rfl, rfl⟩ := ob_pair hF
    exact gw_zret () hx hb hr hlocks (gz hz_3) hP hD hS rfl dX9_isWord_21
  have hJ_20 : ∀ (h : HS), f_X9_isWord_20 h = some (rr, hh) → ∀ (H : Heap) (locs : List Loc) (ls : Array Slot), va_P G vwCl (wM m0 r cI cJ cZ cB cT h) H → va_D A (wM m0 r cI cJ cZ cB cT h) → va_S A s.heap H locs → lv_has ls 2 [] → W p l e (gRm 1) s m args below meth c H locs 0 0 (MQ below (va_Qi (fun x (_ : Unit) => x = rr) (gB G (fun (_ : Unit) => (wM m0 r cI cJ cZ cB cT hh)) A) A) args s 0 0 A) (F0 m 20 ls []) := by
    intro h hF H locs ls hP hD hS hl
    unfold f_X9_isWord_20 at hF
    refine lv_iconst (v := 0) hx hb dX9_isWord_20 (by decide) ?_
    exact hJ_21 h 0 hF H _ ls hP hD hS (lv_sub hl [] rfl)
  unfold f_X9_isWord at hF
  refine lv_aload_n hx hb dX9_isWord_0 rfl (lv_at hl 0 rfl) ?_
  refine va_get (D := G) (ci := 9) (v := .int (eI h 0 17)) (C := RX9) (T := TX9) (N := 53) hx hb hts iX9 hown hK hP 0 wM_at0 rfl 17 (by decide) (hts _ m_131) (fun _ h9 => h9) rfl dX9_isWord_1 ?_
  refine lv_iconst (v := 1) hx hb dX9_isWord_4 (by decide) ?_
  refine lv_icmp_ne (tgt := 20) hx hb dX9_isWord_5 (by decide) (fun c_1 => ?_) (fun c_1 => ?_)
  · have hF := ob_neg c_1 hF
    exact hJ_20 h hF H _ ls hP hD hS (lv_sub hl [] rfl)
  · have hF := ob_pos c_1 hF
    refine lv_aload_n hx hb dX9_isWord_8 rfl (lv_at hl 0 rfl) ?_
    refine va_get (D := G) (ci := 9) (v := .int (eI h 0 18)) (C := RX9) (T := TX9) (N := 53) hx hb hts iX9 hown hK hP 0 wM_at0 rfl 18 (by decide) (hts _ m_130) (fun _ h9 => h9) rfl dX9_isWord_9 ?_
    refine lv_iload_n hx hb dX9_isWord_12 rfl (lv_at hl 1 rfl) ?_
    refine lv_icmp_ne (tgt := 20) hx hb dX9_isWord_13 (by decide) (fun c_2 => ?_) (fun c_2 => ?_)
    · have hF := ob_neg c_2 hF
      exact hJ_20 h hF H _ ls hP hD hS (lv_sub hl [] rfl)
    · have hF := ob_pos c_2 hF
      refine lv_iconst (v := 1) hx hb dX9_isWord_16 (by decide) ?_
      refine lv_goto (tgt := 21) hx hb dX9_isWord_17 (by decide) ?_
      exact hJ_21 h 1 hF H _ ls hP hD hS (lv_sub hl [] rfl)
def f_X9_errs_20 (h : HS) : Option HS := (some h)
def f_X9_errs (h : HS) (p1 : Int32) : Option HS := (if (eI h 0 19) = 0 then (f_X9_errs_20 (sI (sI h 0 19 p1) 0 20 (eI h 0 16))) else (f_X9_errs_20 h))
set_option maxHeartbeats 4000000 in
set_option maxRecDepth 100000 in
theorem c_X9_errs (l : Launch) (G : va_G) (cI cJ cZ cB cT : ClassId) (m0 : Nat) (r : Nat → Nat) (h : HS) (p1 : Int32) (hh : HS) (hF : f_X9_errs h p1 = some hh) : gMv l yX9_errs (gws yX9_errs cX9_errs 2 none) 1 G (gT cI cJ cZ cB cT) [.ref m0, .int p1] (wM m0 r cI cJ cZ cB cT h) (fun (_ : Unit) => True) (fun (_ : Unit) => (wM m0 r cI cJ cZ cB cT hh)) := by
  intro sz
  refine gM_start (y := yX9_errs) (av := [.ref m0, .int p1]) (ws := (wM m0 r cI cJ cZ cB cT h)) (Qf := fun A => va_Qv (fun (_ : Unit) => True) (gB G (fun (_ : Unit) => (wM m0 r cI cJ cZ cB cT hh)) A) A) (cc := cX9_errs) (maxL := 2) (ret := none) (by decide) (Nat.le_of_ble_eq_true rfl) ?_
  intro p e s m args below meth c A ls H hx hb hr hts hown hin hlocks hml hP hK hD hA hS hl hE
  have hl : lv_has ls 2 [(0, .ref m0), (1, .int p1)] := hl
  have hJ_20 : ∀ (h : HS), f_X9_errs_20 h = some hh → ∀ (H : Heap) (locs : List Loc) (ls : Array Slot), va_P G vwCl (wM m0 r cI cJ cZ cB cT h) H → va_D A (wM m0 r cI cJ cZ cB cT h) → va_S A s.heap H locs → lv_has ls 2 [] → W p l e (gRm 1) s m args below meth c H locs 0 0 (MQ below (va_Qv (fun (_ : Unit) => True) (gB G (fun (_ : Unit) => (wM m0 r cI cJ cZ cB cT hh)) A) A) args s 0 0 A) (F0 m 20 ls []) := by
    intro h hF H locs ls hP hD hS hl
    unfold f_X9_errs_20 at hF
    obtain rfl := ob_one hF
    exact gw_vret () hx hb hr hlocks hP hD hS trivial dX9_errs_20
  unfold f_X9_errs at hF
  refine lv_aload_n hx hb dX9_errs_0 rfl (lv_at hl 0 rfl) ?_
  refine va_get (D := G) (ci := 9) (v := .int (eI h 0 19)) (C := RX9) (T := TX9) (N := 53) hx hb hts iX9 hown hK hP 0 wM_at0 rfl 19 (by decide) (hts _ m_137) (fun _ h9 => h9) rfl dX9_errs_1 ?_
  refine lv_if_ne (tgt := 20) hx hb dX9_errs_4 (by decide) (fun c_1 => ?_) (fun c_1 => ?_)
  · have hF := ob_neg c_1 hF
    exact hJ_20 h hF H _ ls hP hD hS (lv_sub hl [] rfl)
  · have hF := ob_pos c_1 hF
    refine lv_aload_n hx hb dX9_errs_7 rfl (lv_at hl 0 rfl) ?_
    refine lv_iload_n hx hb dX9_errs_8 rfl (lv_at hl 1 rfl) ?_
    refine va_put (D := G) (ci := 9) (v := .int p1) (ty := .int) (C := RX9) (T := TX9) (N := 53) hx hb hts iX9 tyX9 tyX9_ok nmX9 hown hK hP hD hS 0 wM_at0 rfl 19 (by decide) (hts _ m_137) (fun _ h9 => h9) rfl (tyX9_ok 19 (by decide)) rfl rfl (Nat.le_of_ble_eq_true rfl) dX9_errs_9 (fun H locs hP hD hS => ?_)
    rw [wM_sI0_19] at hP hD
    refine lv_aload_n hx hb dX9_errs_12 rfl (lv_at hl 0 rfl) ?_
    refine lv_aload_n hx hb dX9_errs_13 rfl (lv_at hl 0 rfl) ?_
    refine va_get (D := G) (ci := 9) (v := .int (eI h 0 16)) (C := RX9) (T := TX9) (N := 53) hx hb hts iX9 hown hK hP 0 wM_at0 rfl 16 (by decide) (hts _ m_126) (fun _ h9 => h9) rfl dX9_errs_14 ?_
    refine va_put (D := G) (ci := 9) (v := .int (eI h 0 16)) (ty := .int) (C := RX9) (T := TX9) (N := 53) hx hb hts iX9 tyX9 tyX9_ok nmX9 hown hK hP hD hS 0 wM_at0 rfl 20 (by decide) (hts _ m_138) (fun _ h9 => h9) rfl (tyX9_ok 20 (by decide)) rfl rfl (Nat.le_of_ble_eq_true rfl) dX9_errs_17 (fun H locs hP hD hS => ?_)
    rw [wM_sI0_20] at hP hD
    exact hJ_20 (sI (sI h 0 19 p1) 0 20 (eI h 0 16)) hF H _ ls hP hD hS (lv_sub hl [] rfl)
def f_X9_emits (h : HS) (p1 : Int32) (p2 : Int32) : Option HS := (if 0 ≤ ((eI h 0 36)).toInt ∧ ((eI h 0 36)).toInt < 400 then (if 0 ≤ ((eI h 0 36)).toInt ∧ ((eI h 0 36)).toInt < 400 then (some (sI (sA (sA h 0 37 (upd (eA h 0 37) (((eI h 0 36)).toNatClampNeg) p1)) 0 38 (upd (eA h 0 38) (((eI h 0 36)).toNatClampNeg) p2)) 0 36 ((eI h 0 36) + 1))) else none) else none)
set_option maxHeartbeats 4000000 in
set_option maxRecDepth 100000 in
theorem c_X9_emits (l : Launch) (G : va_G) (cI cJ cZ cB cT : ClassId) (m0 : Nat) (r : Nat → Nat) (h : HS) (p1 : Int32) (p2 : Int32) (hh : HS) (hF : f_X9_emits h p1 p2 = some hh) : gMv l yX9_emits (gws yX9_emits cX9_emits 3 none) 1 G (gT cI cJ cZ cB cT) [.ref m0, .int p1, .int p2] (wM m0 r cI cJ cZ cB cT h) (fun (_ : Unit) => True) (fun (_ : Unit) => (wM m0 r cI cJ cZ cB cT hh)) := by
  intro sz
  refine gM_start (y := yX9_emits) (av := [.ref m0, .int p1, .int p2]) (ws := (wM m0 r cI cJ cZ cB cT h)) (Qf := fun A => va_Qv (fun (_ : Unit) => True) (gB G (fun (_ : Unit) => (wM m0 r cI cJ cZ cB cT hh)) A) A) (cc := cX9_emits) (maxL := 3) (ret := none) (by decide) (Nat.le_of_ble_eq_true rfl) ?_
  intro p e s m args below meth c A ls H hx hb hr hts hown hin hlocks hml hP hK hD hA hS hl hE
  have hl : lv_has ls 3 [(0, .ref m0), (1, .int p1), (2, .int p2)] := hl
  unfold f_X9_emits at hF
  refine lv_aload_n hx hb dX9_emits_0 rfl (lv_at hl 0 rfl) ?_
  refine va_get (D := G) (ci := 9) (v := .ref (r 37)) (C := RX9) (T := TX9) (N := 53) hx hb hts iX9 hown hK hP 0 wM_at0 rfl 37 (by decide) (hts _ m_139) (fun _ h9 => h9) rfl dX9_emits_1 ?_
  refine lv_aload_n hx hb dX9_emits_4 rfl (lv_at hl 0 rfl) ?_
  refine va_get (D := G) (ci := 9) (v := .int (eI h 0 36)) (C := RX9) (T := TX9) (N := 53) hx hb hts iX9 hown hK hP 0 wM_at0 rfl 36 (by decide) (hts _ m_140) (fun _ h9 => h9) rfl dX9_emits_5 ?_
  refine lv_iload_n hx hb dX9_emits_8 rfl (lv_at hl 1 rfl) ?_
  obtain ⟨hi_1, hF⟩ := ob_if hF
  refine va_iast (D := G) hx hb hK hP hD hS 21 0 wM_at21 rfl (vp_in_iff.mpr hi_1) dX9_emits_9 (fun H locs hP hD hS => ?_)
  rw [wM_sA21] at hP hD
  have hP : va_P G vwCl (wM m0 r cI cJ cZ cB cT (sA h 0 37 (upd (eA h 0 37) (((eI h 0 36)).toNatClampNeg) p1))) H := hP
  have hD : va_D A (wM m0 r cI cJ cZ cB cT (sA h 0 37 (upd (eA h 0 37) (((eI h 0 36)).toNatClampNeg) p1))) := hD
  refine lv_aload_n hx hb dX9_emits_10 rfl (lv_at hl 0 rfl) ?_
  refine va_get (D := G) (ci := 9) (v := .ref (r 38)) (C := RX9) (T := TX9) (N := 53) hx hb hts iX9 hown hK hP 0 wM_at0 rfl 38 (by decide) (hts _ m_141) (fun _ h9 => h9) rfl dX9_emits_11 ?_
  refine lv_aload_n hx hb dX9_emits_14 rfl (lv_at hl 0 rfl) ?_
  refine va_get (D := G) (ci := 9) (v := .int (eI h 0 36)) (C := RX9) (T := TX9) (N := 53) hx hb hts iX9 hown hK hP 0 wM_at0 rfl 36 (by decide) (hts _ m_140) (fun _ h9 => h9) rfl dX9_emits_15 ?_
  refine lv_iload_n hx hb dX9_emits_18 rfl (lv_at hl 2 rfl) ?_
  obtain ⟨hi_2, hF⟩ := ob_if hF
  refine va_iast (D := G) hx hb hK hP hD hS 22 0 wM_at22 rfl (vp_in_iff.mpr hi_2) dX9_emits_19 (fun H locs hP hD hS => ?_)
  rw [wM_sA22] at hP hD
  have hP : va_P G vwCl (wM m0 r cI cJ cZ cB cT (sA (sA h 0 37 (upd (eA h 0 37) (((eI h 0 36)).toNatClampNeg) p1)) 0 38 (upd (eA h 0 38) (((eI h 0 36)).toNatClampNeg) p2))) H := hP
  have hD : va_D A (wM m0 r cI cJ cZ cB cT (sA (sA h 0 37 (upd (eA h 0 37) (((eI h 0 36)).toNatClampNeg) p1)) 0 38 (upd (eA h 0 38) (((eI h 0 36)).toNatClampNeg) p2))) := hD
  refine lv_aload_n hx hb dX9_emits_20 rfl (lv_at hl 0 rfl) ?_
  refine lv_dup hx hb dX9_emits_21 rfl ?_
  refine va_get (D := G) (ci := 9) (v := .int (eI h 0 36)) (C := RX9) (T := TX9) (N := 53) hx hb hts iX9 hown hK hP 0 wM_at0 rfl 36 (by decide) (hts _ m_140) (fun _ h9 => h9) rfl dX9_emits_22 ?_
  refine lv_iconst (v := 1) hx hb dX9_emits_25 (by decide) ?_
  refine lv_iadd hx hb dX9_emits_26 ?_
  refine va_put (D := G) (ci := 9) (v := .int ((eI h 0 36) + 1)) (ty := .int) (C := RX9) (T := TX9) (N := 53) hx hb hts iX9 tyX9 tyX9_ok nmX9 hown hK hP hD hS 0 wM_at0 rfl 36 (by decide) (hts _ m_140) (fun _ h9 => h9) rfl (tyX9_ok 36 (by decide)) rfl rfl (Nat.le_of_ble_eq_true rfl) dX9_emits_27 (fun H locs hP hD hS => ?_)
  rw [wM_sI0_36] at hP hD
  obtain rfl := ob_one hF
  exact gw_vret () hx hb hr hlocks hP hD hS trivial dX9_emits_30
def f_X9_opensFrame (h : HS) (p1 : Int32) : Option HS := (if 0 ≤ ((eI h 0 22)).toInt ∧ ((eI h 0 22)).toInt < 40 then (some (sI (sA h 0 23 (upd (eA h 0 23) (((eI h 0 22)).toNatClampNeg) p1)) 0 22 ((eI h 0 22) + 1))) else none)
set_option maxHeartbeats 4000000 in
set_option maxRecDepth 100000 in
theorem c_X9_opensFrame (l : Launch) (G : va_G) (cI cJ cZ cB cT : ClassId) (m0 : Nat) (r : Nat → Nat) (h : HS) (p1 : Int32) (hh : HS) (hF : f_X9_opensFrame h p1 = some hh) : gMv l yX9_opensFrame (gws yX9_opensFrame cX9_opensFrame 2 none) 1 G (gT cI cJ cZ cB cT) [.ref m0, .int p1] (wM m0 r cI cJ cZ cB cT h) (fun (_ : Unit) => True) (fun (_ : Unit) => (wM m0 r cI cJ cZ cB cT hh)) := by
  intro sz
  refine gM_start (y := yX9_opensFrame) (av := [.ref m0, .int p1]) (ws := (wM m0 r cI cJ cZ cB cT h)) (Qf := fun A => va_Qv (fun (_ : Unit) => True) (gB G (fun (_ : Unit) => (wM m0 r cI cJ cZ cB cT hh)) A) A) (cc := cX9_opensFrame) (maxL := 2) (ret := none) (by decide) (Nat.le_of_ble_eq_true rfl) ?_
  intro p e s m args below meth c A ls H hx hb hr hts hown hin hlocks hml hP hK hD hA hS hl hE
  have hl : lv_has ls 2 [(0, .ref m0), (1, .int p1)] := hl
  unfold f_X9_opensFrame at hF
  refine lv_aload_n hx hb dX9_opensFrame_0 rfl (lv_at hl 0 rfl) ?_
  refine va_get (D := G) (ci := 9) (v := .ref (r 23)) (C := RX9) (T := TX9) (N := 53) hx hb hts iX9 hown hK hP 0 wM_at0 rfl 23 (by decide) (hts _ m_142) (fun _ h9 => h9) rfl dX9_opensFrame_1 ?_
  refine lv_aload_n hx hb dX9_opensFrame_4 rfl (lv_at hl 0 rfl) ?_
  refine va_get (D := G) (ci := 9) (v := .int (eI h 0 22)) (C := RX9) (T := TX9) (N := 53) hx hb hts iX9 hown hK hP 0 wM_at0 rfl 22 (by decide) (hts _ m_143) (fun _ h9 => h9) rfl dX9_opensFrame_5 ?_
  refine lv_iload_n hx hb dX9_opensFrame_8 rfl (lv_at hl 1 rfl) ?_
  obtain ⟨hi_1, hF⟩ := ob_if hF
  refine va_iast (D := G) hx hb hK hP hD hS 12 0 wM_at12 rfl (vp_in_iff.mpr hi_1) dX9_opensFrame_9 (fun H locs hP hD hS => ?_)
  rw [wM_sA12] at hP hD
  have hP : va_P G vwCl (wM m0 r cI cJ cZ cB cT (sA h 0 23 (upd (eA h 0 23) (((eI h 0 22)).toNatClampNeg) p1))) H := hP
  have hD : va_D A (wM m0 r cI cJ cZ cB cT (sA h 0 23 (upd (eA h 0 23) (((eI h 0 22)).toNatClampNeg) p1))) := hD
  refine lv_aload_n hx hb dX9_opensFrame_10 rfl (lv_at hl 0 rfl) ?_
  refine lv_dup hx hb dX9_opensFrame_11 rfl ?_
  refine va_get (D := G) (ci := 9) (v := .int (eI h 0 22)) (C := RX9) (T := TX9) (N := 53) hx hb hts iX9 hown hK hP 0 wM_at0 rfl 22 (by decide) (hts _ m_143) (fun _ h9 => h9) rfl dX9_opensFrame_12 ?_
  refine lv_iconst (v := 1) hx hb dX9_opensFrame_15 (by decide) ?_
  refine lv_iadd hx hb dX9_opensFrame_16 ?_
  refine va_put (D := G) (ci := 9) (v := .int ((eI h 0 22) + 1)) (ty := .int) (C := RX9) (T := TX9) (N := 53) hx hb hts iX9 tyX9 tyX9_ok nmX9 hown hK hP hD hS 0 wM_at0 rfl 22 (by decide) (hts _ m_143) (fun _ h9 => h9) rfl (tyX9_ok 22 (by decide)) rfl rfl (Nat.le_of_ble_eq_true rfl) dX9_opensFrame_17 (fun H locs hP hD hS => ?_)
  rw [wM_sI0_22] at hP hD
  obtain rfl := ob_one hF
  exact gw_vret () hx hb hr hlocks hP hD hS trivial dX9_opensFrame_20
def f_X9_top (h : HS) : Option (Int32 × HS) := (if 0 ≤ (((eI h 0 22) - 1)).toInt ∧ (((eI h 0 22) - 1)).toInt < 40 then (some (((eA h 0 23) ((((eI h 0 22) - 1)).toNatClampNeg)), h)) else none)
set_option maxHeartbeats 4000000 in
set_option maxRecDepth 100000 in
theorem c_X9_top (l : Launch) (G : va_G) (cI cJ cZ cB cT : ClassId) (m0 : Nat) (r : Nat → Nat) (h : HS)  (rr : Int32) (hh : HS) (hF : f_X9_top h = some (rr, hh)) : gMi l yX9_top (gws yX9_top cX9_top 1 (some .int)) 1 G (gT cI cJ cZ cB cT) [.ref m0] (wM m0 r cI cJ cZ cB cT h) (fun x (_ : Unit) => x = rr) (fun (_ : Unit) => (wM m0 r cI cJ cZ cB cT hh)) := by
  intro sz
  refine gM_start (y := yX9_top) (av := [.ref m0]) (ws := (wM m0 r cI cJ cZ cB cT h)) (Qf := fun A => va_Qi (fun x (_ : Unit) => x = rr) (gB G (fun (_ : Unit) => (wM m0 r cI cJ cZ cB cT hh)) A) A) (cc := cX9_top) (maxL := 1) (ret := (some .int)) (by decide) (Nat.le_of_ble_eq_true rfl) ?_
  intro p e s m args below meth c A ls H hx hb hr hts hown hin hlocks hml hP hK hD hA hS hl hE
  have hl : lv_has ls 1 [(0, .ref m0)] := hl
  unfold f_X9_top at hF
  refine lv_aload_n hx hb dX9_top_0 rfl (lv_at hl 0 rfl) ?_
  refine va_get (D := G) (ci := 9) (v := .ref (r 23)) (C := RX9) (T := TX9) (N := 53) hx hb hts iX9 hown hK hP 0 wM_at0 rfl 23 (by decide) (hts _ m_142) (fun _ h9 => h9) rfl dX9_top_1 ?_
  refine lv_aload_n hx hb dX9_top_4 rfl (lv_at hl 0 rfl) ?_
  refine va_get (D := G) (ci := 9) (v := .int (eI h 0 22)) (C := RX9) (T := TX9) (N := 53) hx hb hts iX9 hown hK hP 0 wM_at0 rfl 22 (by decide) (hts _ m_143) (fun _ h9 => h9) rfl dX9_top_5 ?_
  refine lv_iconst (v := 1) hx hb dX9_top_8 (by decide) ?_
  refine lv_isub hx hb dX9_top_9 ?_
  obtain ⟨hi_1, hF⟩ := ob_if hF
  refine va_iald (D := G) hx hb hK hP 12 0 wM_at12 rfl (vp_in_iff.mpr hi_1) dX9_top_10 ?_
  refine gw_topi (y := ((eA h 0 23) ((((eI h 0 22) - 1)).toNatClampNeg))) rfl ?_
  obtain ⟨rfl, rfl⟩ := ob_pair hF
  exact gw_iret () hx hb hr hlocks hP hD hS rfl dX9_top_11
def f_X9_opensSign (h : HS) (p1 : Int32) : Option (Int32 × HS) := (if (eI h 0 21) = 8 then (ob1 (f_X9_errs h 3) (fun h_4 => (some (0, h_4)))) else (ob1 (f_X9_opensFrame (sI h 0 21 ((eI h 0 21) + 1)) p1) (fun h_2 => (ob1 (f_X9_next h_2) (fun h_3 => (some (1, h_3)))))))
theorem e_X9_errs : yX9_errs.cls = RX9 ∧ yX9_errs.cls ≠ "java/lang/invoke/MethodHandle" ∧ yX9_errs.cls ≠ "java/lang/invoke/VarHandle" ∧ (parseMethodDescriptor yX9_errs.desc).map (fun d => d.parameters.length) = some 1 := by decide +kernel
theorem e_X9_next : yX9_next.cls = RX9 ∧ yX9_next.cls ≠ "java/lang/invoke/MethodHandle" ∧ yX9_next.cls ≠ "java/lang/invoke/VarHandle" ∧ (parseMethodDescriptor yX9_next.desc).map (fun d => d.parameters.length) = some 0 := by decide +kernel
theorem e_X9_opensFrame : yX9_opensFrame.cls = RX9 ∧ yX9_opensFrame.cls ≠ "java/lang/invoke/MethodHandle" ∧ yX9_opensFrame.cls ≠ "java/lang/invoke/VarHandle" ∧ (parseMethodDescriptor yX9_opensFrame.desc).map (fun d => d.parameters.length) = some 1 := by decide +kernel
set_option maxHeartbeats 4000000 in
set_option maxRecDepth 100000 in
theorem c_X9_opensSign (l : Launch) (G : va_G) (cI cJ cZ cB cT : ClassId) (m0 : Nat) (r : Nat → Nat) (h : HS) (p1 : Int32) (rr : Int32) (hh : HS) (hF : f_X9_opensSign h p1 = some (rr, hh)) : gMi l yX9_opensSign (gws yX9_opensSign cX9_opensSign 2 (some .boolean)) 4 G (gT cI cJ cZ cB cT) [.ref m0, .int p1] (wM m0 r cI cJ cZ cB cT h) (fun x (_ : Unit) => x = rr) (fun (_ : Unit) => (wM m0 r cI cJ cZ cB cT hh)) := by
  intro sz
  refine gM_start (y := yX9_opensSign) (av := [.ref m0, .int p1]) (ws := (wM m0 r cI cJ cZ cB cT h)) (Qf := fun A => va_Qi (fun x (_ : Unit) => x = rr) (gB G (fun (_ : Unit) => (wM m0 r cI cJ cZ cB cT hh)) A) A) (cc := cX9_opensSign) (maxL := 2) (ret := (some .boolean)) (by decide) (Nat.le_of_ble_eq_true rfl) ?_
  intro p e s m args below meth c A ls H hx hb hr hts hown hin hlocks hml hP hK hD hA hS hl hE
  have hl : lv_has ls 2 [(0, .ref m0), (1, .int p1)] := hl
  unfold f_X9_opensSign at hF
  refine lv_aload_n hx hb dX9_opensSign_0 rfl (lv_at hl 0 rfl) ?_
  refine va_get (D := G) (ci := 9) (v := .int (eI h 0 21)) (C := RX9) (T := TX9) (N := 53) hx hb hts iX9 hown hK hP 0 wM_at0 rfl 21 (by decide) (hts _ m_144) (fun _ h9 => h9) rfl dX9_opensSign_1 ?_
  refine lv_bipush (v := 8) hx hb dX9_opensSign_4 (by decide) ?_
  refine lv_icmp_ne (tgt := 16) hx hb dX9_opensSign_6 (by decide) (fun c_1 => ?_) (fun c_1 => ?_)
  · have hF := ob_neg c_1 hF
    refine lv_aload_n hx hb dX9_opensSign_16 rfl (lv_at hl 0 rfl) ?_
    refine lv_dup hx hb dX9_opensSign_17 rfl ?_
    refine va_get (D := G) (ci := 9) (v := .int (eI h 0 21)) (C := RX9) (T := TX9) (N := 53) hx hb hts iX9 hown hK hP 0 wM_at0 rfl 21 (by decide) (hts _ m_144) (fun _ h9 => h9) rfl dX9_opensSign_18 ?_
    refine lv_iconst (v := 1) hx hb dX9_opensSign_21 (by decide) ?_
    refine lv_iadd hx hb dX9_opensSign_22 ?_
    refine va_put (D := G) (ci := 9) (v := .int ((eI h 0 21) + 1)) (ty := .int) (C := RX9) (T := TX9) (N := 53) hx hb hts iX9 tyX9 tyX9_ok nmX9 hown hK hP hD hS 0 wM_at0 rfl 21 (by decide) (hts _ m_144) (fun _ h9 => h9) rfl (tyX9_ok 21 (by decide)) rfl rfl (Nat.le_of_ble_eq_true rfl) dX9_opensSign_23 (fun H locs hP hD hS => ?_)
    rw [wM_sI0_21] at hP hD
    refine lv_aload_n hx hb dX9_opensSign_26 rfl (lv_at hl 0 rfl) ?_
    refine lv_iload_n hx hb dX9_opensSign_27 rfl (lv_at hl 1 rfl) ?_
    obtain ⟨h_2, e_2, hF⟩ := ob1_some hF
    refine gx_callv (gx_runV (As := [.int p1]) (rest := []) ⟨hx, hb, hml, hown, hts⟩ (c_X9_opensFrame l G cI cJ cZ cB cT m0 r (sI h 0 21 ((eI h 0 21) + 1)) p1 h_2 e_2 H.size) (gG_V m_146 m_147 m_148 m_64 m_145) rfl e_X9_opensFrame ⟨Nat.le_of_ble_eq_true rfl, Nat.le_of_ble_eq_true rfl⟩ hK hP hD hE hS hA 0 wM_at0 rfl rfl hl.1 rfl (Nat.le_of_ble_eq_true rfl) dX9_opensSign_28 ⟨Nat.le_refl _, Nat.le_refl _⟩) hP hD hS hA (fun u_2 H locs hw_2 hP hD hS => ?_)
    refine lv_aload_n hx hb dX9_opensSign_31 rfl (lv_at hl 0 rfl) ?_
    obtain ⟨h_3, e_3, hF⟩ := ob1_some hF
    refine gx_callv (gx_runV (As := []) (rest := []) ⟨hx, hb, hml, hown, hts⟩ (c_X9_next l G cI cJ cZ cB cT m0 r h_2  h_3 e_3 H.size) (gG_V m_150 m_151 m_152 m_64 m_149) rfl e_X9_next ⟨Nat.le_of_ble_eq_true rfl, Nat.le_of_ble_eq_true rfl⟩ hK hP hD hE hS hA 0 wM_at0 rfl rfl hl.1 rfl (Nat.le_of_ble_eq_true rfl) dX9_opensSign_32 ⟨Nat.le_refl _, Nat.le_refl _⟩) hP hD hS hA (fun u_3 H locs hw_3 hP hD hS => ?_)
    refine lv_iconst (v := 1) hx hb dX9_opensSign_35 (by decide) ?_
    obtain ⟨rfl, rfl⟩ := ob_pair hF
    exact gw_zret () hx hb hr hlocks rfl hP hD hS rfl dX9_opensSign_36
  · have hF := ob_pos c_1 hF
    refine lv_aload_n hx hb dX9_opensSign_9 rfl (lv_at hl 0 rfl) ?_
    refine lv_iconst (v := 3) hx hb dX9_opensSign_10 (by decide) ?_
    obtain ⟨h_4, e_4, hF⟩ := ob1_some hF
    refine gx_callv (gx_runV (As := [.int 3]) (rest := []) ⟨hx, hb, hml, hown, hts⟩ (c_X9_errs l G cI cJ cZ cB cT m0 r h 3 h_4 e_4 H.size) (gG_V m_154 m_155 m_156 m_64 m_153) rfl e_X9_errs ⟨Nat.le_of_ble_eq_true rfl, Nat.le_of_ble_eq_true rfl⟩ hK hP hD hE hS hA 0 wM_at0 rfl rfl hl.1 rfl (Nat.le_of_ble_eq_true rfl) dX9_opensSign_11 ⟨Nat.le_refl _, Nat.le_refl _⟩) hP hD hS hA (fun u_4 H locs hw_4 hP hD hS => ?_)
    refine lv_iconst (v := 0) hx hb dX9_opensSign_14 (by decide) ?_
    obtain ⟨rfl, rfl⟩ := ob_pair hF
    exact gw_zret () hx hb hr hlocks rfl hP hD hS rfl dX9_opensSign_15
def f_X9_works_70 (h : HS) : Option HS := (some h)
def f_X9_works_0 : Nat → HS → Int32 → Option HS
  | 0, _, _ => none
  | n + 1, h, x1 => (if (eI h 0 25) ≤ 0 then (f_X9_works_70 h) else (if 0 ≤ (((eI h 0 25) - 1)).toInt ∧ (((eI h 0 25) - 1)).toInt < 80 then (if ((eA h 0 27) ((((eI h 0 25) - 1)).toNatClampNeg)) = (eI h 0 22) then (if 0 ≤ (((eI h 0 25) - 1)).toInt ∧ (((eI h 0 25) - 1)).toInt < 80 then (ob1 (f_X9_rank ((eA h 0 26) ((((eI h 0 25) - 1)).toNatClampNeg))) (fun r_5 => (if r_5 < x1 then (f_X9_works_70 h) else (if 0 ≤ (((eI h 0 25) - 1)).toInt ∧ (((eI h 0 25) - 1)).toInt < 80 then (ob1 (f_X9_emits (sI h 0 25 ((eI h 0 25) - 1)) ((eA h 0 26) ((((eI h 0 25) - 1)).toNatClampNeg)) 0) (fun h_8 => ((f_X9_works_0 n) h_8 x1))) else none)))) else none) else (f_X9_works_70 h)) else none))
theorem f_X9_works_0_s (n : Nat) (h : HS) (x1 : Int32) : f_X9_works_0 (n + 1) h x1 = (if (eI h 0 25) ≤ 0 then (f_X9_works_70 h) else (if 0 ≤ (((eI h 0 25) - 1)).toInt ∧ (((eI h 0 25) - 1)).toInt < 80 then (if ((eA h 0 27) ((((eI h 0 25) - 1)).toNatClampNeg)) = (eI h 0 22) then (if 0 ≤ (((eI h 0 25) - 1)).toInt ∧ (((eI h 0 25) - 1)).toInt < 80 then (ob1 (f_X9_rank ((eA h 0 26) ((((eI h 0 25) - 1)).toNatClampNeg))) (fun r_5 => (if r_5 < x1 then (f_X9_works_70 h) else (if 0 ≤ (((eI h 0 25) - 1)).toInt ∧ (((eI h 0 25) - 1)).toInt < 80 then (ob1 (f_X9_emits (sI h 0 25 ((eI h 0 25) - 1)) ((eA h 0 26) ((((eI h 0 25) - 1)).toNatClampNeg)) 0) (fun h_8 => ((f_X9_works_0 n) h_8 x1))) else none)))) else none) else (f_X9_works_70 h)) else none)) := rfl
def f_X9_works (h : HS) (p1 : Int32) : Option HS := (f_X9_works_0 8589934592 h p1)
theorem e_X9_emits : yX9_emits.cls = RX9 ∧ yX9_emits.cls ≠ "java/lang/invoke/MethodHandle" ∧ yX9_emits.cls ≠ "java/lang/invoke/VarHandle" ∧ (parseMethodDescriptor yX9_emits.desc).map (fun d => d.parameters.length) = some 2 := by decide +kernel
theorem e_X9_rank : yX9_rank.cls = RX9 ∧ yX9_rank.cls ≠ "java/lang/invoke/MethodHandle" ∧ yX9_rank.cls ≠ "java/lang/invoke/VarHandle" ∧ (parseMethodDescriptor yX9_rank.desc).map (fun d => d.parameters.length) = some 1 := by decide +kernel
set_option maxHeartbeats 4000000 in
set_option maxRecDepth 100000 in
theorem c_X9_works (l : Launch) (G : va_G) (cI cJ cZ cB cT : ClassId) (m0 : Nat) (r : Nat → Nat) (h : HS) (p1 : Int32) (hh : HS) (hF : f_X9_works h p1 = some hh) : gMv l yX9_works (gws yX9_works cX9_works 2 none) 2 G (gT cI cJ cZ cB cT) [.ref m0, .int p1] (wM m0 r cI cJ cZ cB cT h) (fun (_ : Unit) => True) (fun (_ : Unit) => (wM m0 r cI cJ cZ cB cT hh)) := by
  intro sz
  refine gM_start (y := yX9_works) (av := [.ref m0, .int p1]) (ws := (wM m0 r cI cJ cZ cB cT h)) (Qf := fun A => va_Qv (fun (_ : Unit) => True) (gB G (fun (_ : Unit) => (wM m0 r cI cJ cZ cB cT hh)) A) A) (cc := cX9_works) (maxL := 2) (ret := none) (by decide) (Nat.le_of_ble_eq_true rfl) ?_
  intro p e s m args below meth c A ls H hx hb hr hts hown hin hlocks hml hP hK hD hA hS hl hE
  have hl : lv_has ls 2 [(0, .ref m0), (1, .int p1)] := hl
  have hJ_70 : ∀ (h : HS), f_X9_works_70 h = some hh → ∀ (H : Heap) (locs : List Loc) (ls : Array Slot), va_P G vwCl (wM m0 r cI cJ cZ cB cT h) H → va_D A (wM m0 r cI cJ cZ cB cT h) → va_S A s.heap H locs → lv_has ls 2 [] → W p l e (gRm 2) s m args below meth c H locs 0 0 (MQ below (va_Qv (fun (_ : Unit) => True) (gB G (fun (_ : Unit) => (wM m0 r cI cJ cZ cB cT hh)) A) A) args s 0 0 A) (F0 m 70 ls []) := by
    intro h hF H locs ls hP hD hS hl
    unfold f_X9_works_70 at hF
    obtain rfl := ob_one hF
    exact gw_vret () hx hb hr hlocks hP hD hS trivial dX9_works_70
  have hJ_0 : ∀ (n_0 : Nat) (h : HS) (x1 : Int32), f_X9_works_0 n_0 h x1 = some hh → ∀ (H : Heap) (locs : List Loc) (ls : Array Slot), va_P G vwCl (wM m0 r cI cJ cZ cB cT h) H → va_D A (wM m0 r cI cJ cZ cB cT h) → va_S A s.heap H locs → lv_has ls 2 [(0, .ref m0), (1, .int x1)] → W p l e (gRm 2) s m args below meth c H locs 0 0 (MQ below (va_Qv (fun (_ : Unit) => True) (gB G (fun (_ : Unit) => (wM m0 r cI cJ cZ cB cT hh)) A) A) args s 0 0 A) (F0 m 0 ls []) := by
    intro n_0
    induction n_0 with
    | zero =>
      intro h x1 hF
      exact absurd hF (by simp [f_X9_works_0])
    | succ n_0 ih_0 =>
      intro h x1 hF H locs ls hP hD hS hl
      rw [f_X9_works_0_s] at hF
      refine lv_aload_n hx hb dX9_works_0 rfl (lv_at hl 0 rfl) ?_
      refine va_get (D := G) (ci := 9) (v := .int (eI h 0 25)) (C := RX9) (T := TX9) (N := 53) hx hb hts iX9 hown hK hP 0 wM_at0 rfl 25 (by decide) (hts _ m_157) (fun _ h9 => h9) rfl dX9_works_1 ?_
      refine lv_if_le (tgt := 70) hx hb dX9_works_4 (by decide) (fun c_1 => ?_) (fun c_1 => ?_)
      · have hF := ob_pos c_1 hF
        exact hJ_70 h hF H _ ls hP hD hS (lv_sub hl [] rfl)
      · have hF := ob_neg c_1 hF
        refine lv_aload_n hx hb dX9_works_7 rfl (lv_at hl 0 rfl) ?_
        refine va_get (D := G) (ci := 9) (v := .ref (r 27)) (C := RX9) (T := TX9) (N := 53) hx hb hts iX9 hown hK hP 0 wM_at0 rfl 27 (by decide) (hts _ m_158) (fun _ h9 => h9) rfl dX9_works_8 ?_
        refine lv_aload_n hx hb dX9_works_11 rfl (lv_at hl 0 rfl) ?_
        refine va_get (D := G) (ci := 9) (v := .int (eI h 0 25)) (C := RX9) (T := TX9) (N := 53) hx hb hts iX9 hown hK hP 0 wM_at0 rfl 25 (by decide) (hts _ m_157) (fun _ h9 => h9) rfl dX9_works_12 ?_
        refine lv_iconst (v := 1) hx hb dX9_works_15 (by decide) ?_
        refine lv_isub hx hb dX9_works_16 ?_
        obtain ⟨hi_2, hF⟩ := ob_if hF
        refine va_iald (D := G) hx hb hK hP 15 0 wM_at15 rfl (vp_in_iff.mpr hi_2) dX9_works_17 ?_
        refine gw_topi (y := ((eA h 0 27) ((((eI h 0 25) - 1)).toNatClampNeg))) rfl ?_
        refine lv_aload_n hx hb dX9_works_18 rfl (lv_at hl 0 rfl) ?_
        refine va_get (D := G) (ci := 9) (v := .int (eI h 0 22)) (C := RX9) (T := TX9) (N := 53) hx hb hts iX9 hown hK hP 0 wM_at0 rfl 22 (by decide) (hts _ m_143) (fun _ h9 => h9) rfl dX9_works_19 ?_
        refine lv_icmp_ne (tgt := 70) hx hb dX9_works_22 (by decide) (fun c_3 => ?_) (fun c_3 => ?_)
        · have hF := ob_neg c_3 hF
          exact hJ_70 h hF H _ ls hP hD hS (lv_sub hl [] rfl)
        · have hF := ob_pos c_3 hF
          refine lv_aload_n hx hb dX9_works_25 rfl (lv_at hl 0 rfl) ?_
          refine va_get (D := G) (ci := 9) (v := .ref (r 26)) (C := RX9) (T := TX9) (N := 53) hx hb hts iX9 hown hK hP 0 wM_at0 rfl 26 (by decide) (hts _ m_159) (fun _ h9 => h9) rfl dX9_works_26 ?_
          refine lv_aload_n hx hb dX9_works_29 rfl (lv_at hl 0 rfl) ?_
          refine va_get (D := G) (ci := 9) (v := .int (eI h 0 25)) (C := RX9) (T := TX9) (N := 53) hx hb hts iX9 hown hK hP 0 wM_at0 rfl 25 (by decide) (hts _ m_157) (fun _ h9 => h9) rfl dX9_works_30 ?_
          refine lv_iconst (v := 1) hx hb dX9_works_33 (by decide) ?_
          refine lv_isub hx hb dX9_works_34 ?_
          obtain ⟨hi_4, hF⟩ := ob_if hF
          refine va_iald (D := G) hx hb hK hP 14 0 wM_at14 rfl (vp_in_iff.mpr hi_4) dX9_works_35 ?_
          refine gw_topi (y := ((eA h 0 26) ((((eI h 0 25) - 1)).toNatClampNeg))) rfl ?_
          obtain ⟨r_5, e_5, hF⟩ := ob1_some hF
          refine gx_calli0 (gx_runS0 (As := [.int ((eA h 0 26) ((((eI h 0 25) - 1)).toNatClampNeg))]) (rest := []) ⟨hx, hb, hml, hown, hts⟩ (c_X9_rank l G cI cJ cZ cB cT   ((eA h 0 26) ((((eI h 0 25) - 1)).toNatClampNeg)) r_5 e_5 H.size) (gG_S m_161 m_162 m_64 m_160) rfl e_X9_rank ⟨Nat.le_of_ble_eq_true rfl, Nat.le_of_ble_eq_true rfl⟩ hK hE hS hA rfl hl.1 rfl (Nat.le_of_ble_eq_true rfl) dX9_works_36 ⟨Nat.le_refl _, Nat.le_refl _⟩) hP hD hS hA (fun x_5 u_5 H locs hw_5 hP hD hS => ?_)
          subst x_5
          refine lv_iload_n hx hb dX9_works_39 rfl (lv_at hl 1 rfl) ?_
          refine lv_icmp_lt (tgt := 70) hx hb dX9_works_40 (by decide) (fun c_6 => ?_) (fun c_6 => ?_)
          · have hF := ob_pos c_6 hF
            exact hJ_70 h hF H _ ls hP hD hS (lv_sub hl [] rfl)
          · have hF := ob_neg c_6 hF
            refine lv_aload_n hx hb dX9_works_43 rfl (lv_at hl 0 rfl) ?_
            refine lv_dup hx hb dX9_works_44 rfl ?_
            refine va_get (D := G) (ci := 9) (v := .int (eI h 0 25)) (C := RX9) (T := TX9) (N := 53) hx hb hts iX9 hown hK hP 0 wM_at0 rfl 25 (by decide) (hts _ m_157) (fun _ h9 => h9) rfl dX9_works_45 ?_
            refine lv_iconst (v := 1) hx hb dX9_works_48 (by decide) ?_
            refine lv_isub hx hb dX9_works_49 ?_
            refine va_put (D := G) (ci := 9) (v := .int ((eI h 0 25) - 1)) (ty := .int) (C := RX9) (T := TX9) (N := 53) hx hb hts iX9 tyX9 tyX9_ok nmX9 hown hK hP hD hS 0 wM_at0 rfl 25 (by decide) (hts _ m_157) (fun _ h9 => h9) rfl (tyX9_ok 25 (by decide)) rfl rfl (Nat.le_of_ble_eq_true rfl) dX9_works_50 (fun H locs hP hD hS => ?_)
            rw [wM_sI0_25] at hP hD
            refine lv_aload_n hx hb dX9_works_53 rfl (lv_at hl 0 rfl) ?_
            refine lv_aload_n hx hb dX9_works_54 rfl (lv_at hl 0 rfl) ?_
            refine va_get (D := G) (ci := 9) (v := .ref (r 26)) (C := RX9) (T := TX9) (N := 53) hx hb hts iX9 hown hK hP 0 wM_at0 rfl 26 (by decide) (hts _ m_159) (fun _ h9 => h9) rfl dX9_works_55 ?_
            refine lv_aload_n hx hb dX9_works_58 rfl (lv_at hl 0 rfl) ?_
            refine va_get (D := G) (ci := 9) (v := .int ((eI h 0 25) - 1)) (C := RX9) (T := TX9) (N := 53) hx hb hts iX9 hown hK hP 0 wM_at0 rfl 25 (by decide) (hts _ m_157) (fun _ h9 => h9) rfl dX9_works_59 ?_
            obtain ⟨hi_7, hF⟩ := ob_if hF
            refine va_iald (D := G) hx hb hK hP 14 0 wM_at14 rfl (vp_in_iff.mpr hi_7) dX9_works_62 ?_
            refine gw_topi (y := ((eA h 0 26) ((((eI h 0 25) - 1)).toNatClampNeg))) rfl ?_
            refine lv_iconst (v := 0) hx hb dX9_works_63 (by decide) ?_
            obtain ⟨h_8, e_8, hF⟩ := ob1_some hF
            refine gx_callv (gx_runV (As := [.int ((eA h 0 26) ((((eI h 0 25) - 1)).toNatClampNeg)), .int 0]) (rest := []) ⟨hx, hb, hml, hown, hts⟩ (c_X9_emits l G cI cJ cZ cB cT m0 r (sI h 0 25 ((eI h 0 25) - 1)) ((eA h 0 26) ((((eI h 0 25) - 1)).toNatClampNeg)) 0 h_8 e_8 H.size) (gG_V m_164 m_165 m_166 m_64 m_163) rfl e_X9_emits ⟨Nat.le_of_ble_eq_true rfl, Nat.le_of_ble_eq_true rfl⟩ hK hP hD hE hS hA 0 wM_at0 rfl rfl hl.1 rfl (Nat.le_of_ble_eq_true rfl) dX9_works_64 ⟨Nat.le_refl _, Nat.le_refl _⟩) hP hD hS hA (fun u_8 H locs hw_8 hP hD hS => ?_)
            refine lv_goto (tgt := 0) hx hb dX9_works_67 (by decide) ?_
            exact ih_0 h_8 x1 hF H _ ls hP hD hS (lv_sub hl [0, 1] rfl)
  unfold f_X9_works at hF
  exact hJ_0 8589934592 h p1 hF H _ ls hP hD hS (lv_sub hl [0, 1] rfl)
def f_X9_waitsFor (h : HS) (p1 : Int32) : Option HS := (ob1 (f_X9_rank p1) (fun r_1 => (ob1 (f_X9_works h r_1) (fun h_2 => (if 0 ≤ ((eI h_2 0 25)).toInt ∧ ((eI h_2 0 25)).toInt < 80 then (if 0 ≤ ((eI h_2 0 25)).toInt ∧ ((eI h_2 0 25)).toInt < 80 then (ob1 (f_X9_next (sI (sA (sA h_2 0 26 (upd (eA h_2 0 26) (((eI h_2 0 25)).toNatClampNeg) p1)) 0 27 (upd (eA h_2 0 27) (((eI h_2 0 25)).toNatClampNeg) (eI h_2 0 22))) 0 25 ((eI h_2 0 25) + 1))) (fun h_5 => (some h_5))) else none) else none)))))
theorem e_X9_works : yX9_works.cls = RX9 ∧ yX9_works.cls ≠ "java/lang/invoke/MethodHandle" ∧ yX9_works.cls ≠ "java/lang/invoke/VarHandle" ∧ (parseMethodDescriptor yX9_works.desc).map (fun d => d.parameters.length) = some 1 := by decide +kernel
set_option maxHeartbeats 4000000 in
set_option maxRecDepth 100000 in
theorem c_X9_waitsFor (l : Launch) (G : va_G) (cI cJ cZ cB cT : ClassId) (m0 : Nat) (r : Nat → Nat) (h : HS) (p1 : Int32) (hh : HS) (hF : f_X9_waitsFor h p1 = some hh) : gMv l yX9_waitsFor (gws yX9_waitsFor cX9_waitsFor 2 none) 4 G (gT cI cJ cZ cB cT) [.ref m0, .int p1] (wM m0 r cI cJ cZ cB cT h) (fun (_ : Unit) => True) (fun (_ : Unit) => (wM m0 r cI cJ cZ cB cT hh)) := by
  intro sz
  refine gM_start (y := yX9_waitsFor) (av := [.ref m0, .int p1]) (ws := (wM m0 r cI cJ cZ cB cT h)) (Qf := fun A => va_Qv (fun (_ : Unit) => True) (gB G (fun (_ : Unit) => (wM m0 r cI cJ cZ cB cT hh)) A) A) (cc := cX9_waitsFor) (maxL := 2) (ret := none) (by decide) (Nat.le_of_ble_eq_true rfl) ?_
  intro p e s m args below meth c A ls H hx hb hr hts hown hin hlocks hml hP hK hD hA hS hl hE
  have hl : lv_has ls 2 [(0, .ref m0), (1, .int p1)] := hl
  unfold f_X9_waitsFor at hF
  refine lv_aload_n hx hb dX9_waitsFor_0 rfl (lv_at hl 0 rfl) ?_
  refine lv_iload_n hx hb dX9_waitsFor_1 rfl (lv_at hl 1 rfl) ?_
  obtain ⟨r_1, e_1, hF⟩ := ob1_some hF
  refine gx_calli0 (gx_runS0 (As := [.int p1]) (rest := [.ref m0]) ⟨hx, hb, hml, hown, hts⟩ (c_X9_rank l G cI cJ cZ cB cT   p1 r_1 e_1 H.size) (gG_S m_161 m_162 m_64 m_160) rfl e_X9_rank ⟨Nat.le_of_ble_eq_true rfl, Nat.le_of_ble_eq_true rfl⟩ hK hE hS hA rfl hl.1 rfl (Nat.le_of_ble_eq_true rfl) dX9_waitsFor_2 ⟨Nat.le_refl _, Nat.le_refl _⟩) hP hD hS hA (fun x_1 u_1 H locs hw_1 hP hD hS => ?_)
  subst x_1
  obtain ⟨h_2, e_2, hF⟩ := ob1_some hF
  refine gx_callv (gx_runV (As := [.int r_1]) (rest := []) ⟨hx, hb, hml, hown, hts⟩ (c_X9_works l G cI cJ cZ cB cT m0 r h r_1 h_2 e_2 H.size) (gG_V m_168 m_169 m_170 m_64 m_167) rfl e_X9_works ⟨Nat.le_of_ble_eq_true rfl, Nat.le_of_ble_eq_true rfl⟩ hK hP hD hE hS hA 0 wM_at0 rfl rfl hl.1 rfl (Nat.le_of_ble_eq_true rfl) dX9_waitsFor_5 ⟨Nat.le_refl _, Nat.le_refl _⟩) hP hD hS hA (fun u_2 H locs hw_2 hP hD hS => ?_)
  refine lv_aload_n hx hb dX9_waitsFor_8 rfl (lv_at hl 0 rfl) ?_
  refine va_get (D := G) (ci := 9) (v := .ref (r 26)) (C := RX9) (T := TX9) (N := 53) hx hb hts iX9 hown hK hP 0 wM_at0 rfl 26 (by decide) (hts _ m_159) (fun _ h9 => h9) rfl dX9_waitsFor_9 ?_
  refine lv_aload_n hx hb dX9_waitsFor_12 rfl (lv_at hl 0 rfl) ?_
  refine va_get (D := G) (ci := 9) (v := .int (eI h_2 0 25)) (C := RX9) (T := TX9) (N := 53) hx hb hts iX9 hown hK hP 0 wM_at0 rfl 25 (by decide) (hts _ m_157) (fun _ h9 => h9) rfl dX9_waitsFor_13 ?_
  refine lv_iload_n hx hb dX9_waitsFor_16 rfl (lv_at hl 1 rfl) ?_
  obtain ⟨hi_3, hF⟩ := ob_if hF
  refine va_iast (D := G) hx hb hK hP hD hS 14 0 wM_at14 rfl (vp_in_iff.mpr hi_3) dX9_waitsFor_17 (fun H locs hP hD hS => ?_)
  rw [wM_sA14] at hP hD
  have hP : va_P G vwCl (wM m0 r cI cJ cZ cB cT (sA h_2 0 26 (upd (eA h_2 0 26) (((eI h_2 0 25)).toNatClampNeg) p1))) H := hP
  have hD : va_D A (wM m0 r cI cJ cZ cB cT (sA h_2 0 26 (upd (eA h_2 0 26) (((eI h_2 0 25)).toNatClampNeg) p1))) := hD
  refine lv_aload_n hx hb dX9_waitsFor_18 rfl (lv_at hl 0 rfl) ?_
  refine va_get (D := G) (ci := 9) (v := .ref (r 27)) (C := RX9) (T := TX9) (N := 53) hx hb hts iX9 hown hK hP 0 wM_at0 rfl 27 (by decide) (hts _ m_158) (fun _ h9 => h9) rfl dX9_waitsFor_19 ?_
  refine lv_aload_n hx hb dX9_waitsFor_22 rfl (lv_at hl 0 rfl) ?_
  refine va_get (D := G) (ci := 9) (v := .int (eI h_2 0 25)) (C := RX9) (T := TX9) (N := 53) hx hb hts iX9 hown hK hP 0 wM_at0 rfl 25 (by decide) (hts _ m_157) (fun _ h9 => h9) rfl dX9_waitsFor_23 ?_
  refine lv_aload_n hx hb dX9_waitsFor_26 rfl (lv_at hl 0 rfl) ?_
  refine va_get (D := G) (ci := 9) (v := .int (eI h_2 0 22)) (C := RX9) (T := TX9) (N := 53) hx hb hts iX9 hown hK hP 0 wM_at0 rfl 22 (by decide) (hts _ m_143) (fun _ h9 => h9) rfl dX9_waitsFor_27 ?_
  obtain ⟨hi_4, hF⟩ := ob_if hF
  refine va_iast (D := G) hx hb hK hP hD hS 15 0 wM_at15 rfl (vp_in_iff.mpr hi_4) dX9_waitsFor_30 (fun H locs hP hD hS => ?_)
  rw [wM_sA15] at hP hD
  have hP : va_P G vwCl (wM m0 r cI cJ cZ cB cT (sA (sA h_2 0 26 (upd (eA h_2 0 26) (((eI h_2 0 25)).toNatClampNeg) p1)) 0 27 (upd (eA h_2 0 27) (((eI h_2 0 25)).toNatClampNeg) (eI h_2 0 22)))) H := hP
  have hD : va_D A (wM m0 r cI cJ cZ cB cT (sA (sA h_2 0 26 (upd (eA h_2 0 26) (((eI h_2 0 25)).toNatClampNeg) p1)) 0 27 (upd (eA h_2 0 27) (((eI h_2 0 25)).toNatClampNeg) (eI h_2 0 22)))) := hD
  refine lv_aload_n hx hb dX9_waitsFor_31 rfl (lv_at hl 0 rfl) ?_
  refine lv_dup hx hb dX9_waitsFor_32 rfl ?_
  refine va_get (D := G) (ci := 9) (v := .int (eI h_2 0 25)) (C := RX9) (T := TX9) (N := 53) hx hb hts iX9 hown hK hP 0 wM_at0 rfl 25 (by decide) (hts _ m_157) (fun _ h9 => h9) rfl dX9_waitsFor_33 ?_
  refine lv_iconst (v := 1) hx hb dX9_waitsFor_36 (by decide) ?_
  refine lv_iadd hx hb dX9_waitsFor_37 ?_
  refine va_put (D := G) (ci := 9) (v := .int ((eI h_2 0 25) + 1)) (ty := .int) (C := RX9) (T := TX9) (N := 53) hx hb hts iX9 tyX9 tyX9_ok nmX9 hown hK hP hD hS 0 wM_at0 rfl 25 (by decide) (hts _ m_157) (fun _ h9 => h9) rfl (tyX9_ok 25 (by decide)) rfl rfl (Nat.le_of_ble_eq_true rfl) dX9_waitsFor_38 (fun H locs hP hD hS => ?_)
  rw [wM_sI0_25] at hP hD
  refine lv_aload_n hx hb dX9_waitsFor_41 rfl (lv_at hl 0 rfl) ?_
  obtain ⟨h_5, e_5, hF⟩ := ob1_some hF
  refine gx_callv (gx_runV (As := []) (rest := []) ⟨hx, hb, hml, hown, hts⟩ (c_X9_next l G cI cJ cZ cB cT m0 r (sI (sA (sA h_2 0 26 (upd (eA h_2 0 26) (((eI h_2 0 25)).toNatClampNeg) p1)) 0 27 (upd (eA h_2 0 27) (((eI h_2 0 25)).toNatClampNeg) (eI h_2 0 22))) 0 25 ((eI h_2 0 25) + 1))  h_5 e_5 H.size) (gG_V m_150 m_151 m_152 m_64 m_149) rfl e_X9_next ⟨Nat.le_of_ble_eq_true rfl, Nat.le_of_ble_eq_true rfl⟩ hK hP hD hE hS hA 0 wM_at0 rfl rfl hl.1 rfl (Nat.le_of_ble_eq_true rfl) dX9_waitsFor_42 ⟨Nat.le_refl _, Nat.le_refl _⟩) hP hD hS hA (fun u_5 H locs hw_5 hP hD hS => ?_)
  obtain rfl := ob_one hF
  exact gw_vret () hx hb hr hlocks hP hD hS trivial dX9_waitsFor_45
def f_X9_asks_28 (h : HS) : Option HS := (some h)
def f_X9_asks (h : HS) : Option HS := (ob2 (f_X9_isWord h 12) (fun r_1 h_1 => (if r_1 = 0 then (ob1 (f_X9_opensFrame h_1 4) (fun h_3 => (f_X9_asks_28 (sI h_3 0 28 1)))) else (ob2 (f_X9_opensSign h_1 3) (fun r_4 h_4 => (f_X9_asks_28 h_4))))))
theorem e_X9_isWord : yX9_isWord.cls = RX9 ∧ yX9_isWord.cls ≠ "java/lang/invoke/MethodHandle" ∧ yX9_isWord.cls ≠ "java/lang/invoke/VarHandle" ∧ (parseMethodDescriptor yX9_isWord.desc).map (fun d => d.parameters.length) = some 1 := by decide +kernel
theorem e_X9_opensSign : yX9_opensSign.cls = RX9 ∧ yX9_opensSign.cls ≠ "java/lang/invoke/MethodHandle" ∧ yX9_opensSign.cls ≠ "java/lang/invoke/VarHandle" ∧ (parseMethodDescriptor yX9_opensSign.desc).map (fun d => d.parameters.length) = some 1 := by decide +kernel
set_option maxHeartbeats 4000000 in
set_option maxRecDepth 100000 in
theorem c_X9_asks (l : Launch) (G : va_G) (cI cJ cZ cB cT : ClassId) (m0 : Nat) (r : Nat → Nat) (h : HS)  (hh : HS) (hF : f_X9_asks h = some hh) : gMv l yX9_asks (gws yX9_asks cX9_asks 2 none) 5 G (gT cI cJ cZ cB cT) [.ref m0] (wM m0 r cI cJ cZ cB cT h) (fun (_ : Unit) => True) (fun (_ : Unit) => (wM m0 r cI cJ cZ cB cT hh)) := by
  intro sz
  refine gM_start (y := yX9_asks) (av := [.ref m0]) (ws := (wM m0 r cI cJ cZ cB cT h)) (Qf := fun A => va_Qv (fun (_ : Unit) => True) (gB G (fun (_ : Unit) => (wM m0 r cI cJ cZ cB cT hh)) A) A) (cc := cX9_asks) (maxL := 2) (ret := none) (by decide) (Nat.le_of_ble_eq_true rfl) ?_
  intro p e s m args below meth c A ls H hx hb hr hts hown hin hlocks hml hP hK hD hA hS hl hE
  have hl : lv_has ls 2 [(0, .ref m0)] := hl
  have hJ_28 : ∀ (h : HS), f_X9_asks_28 h = some hh → ∀ (H : Heap) (locs : List Loc) (ls : Array Slot), va_P G vwCl (wM m0 r cI cJ cZ cB cT h) H → va_D A (wM m0 r cI cJ cZ cB cT h) → va_S A s.heap H locs → lv_has ls 2 [] → W p l e (gRm 5) s m args below meth c H locs 0 0 (MQ below (va_Qv (fun (_ : Unit) => True) (gB G (fun (_ : Unit) => (wM m0 r cI cJ cZ cB cT hh)) A) A) args s 0 0 A) (F0 m 28 ls []) := by
    intro h hF H locs ls hP hD hS hl
    unfold f_X9_asks_28 at hF
    obtain rfl := ob_one hF
    exact gw_vret () hx hb hr hlocks hP hD hS trivial dX9_asks_28
  unfold f_X9_asks at hF
  refine lv_aload_n hx hb dX9_asks_0 rfl (lv_at hl 0 rfl) ?_
  refine lv_bipush (v := 12) hx hb dX9_asks_1 (by decide) ?_
  obtain ⟨r_1, h_1, e_1, hF⟩ := ob2_some hF
  refine gx_calli (gx_runV (As := [.int 12]) (rest := []) ⟨hx, hb, hml, hown, hts⟩ (c_X9_isWord l G cI cJ cZ cB cT m0 r h 12 r_1 h_1 e_1 H.size) (gG_V m_172 m_173 m_174 m_64 m_171) rfl e_X9_isWord ⟨Nat.le_of_ble_eq_true rfl, Nat.le_of_ble_eq_true rfl⟩ hK hP hD hE hS hA 0 wM_at0 rfl rfl hl.1 rfl (Nat.le_of_ble_eq_true rfl) dX9_asks_3 ⟨Nat.le_refl _, Nat.le_refl _⟩) hP hD hS hA (fun x_1 u_1 H locs hw_1 hP hD hS => ?_)
  subst x_1
  refine lv_if_eq (tgt := 18) hx hb dX9_asks_6 (by decide) (fun c_2 => ?_) (fun c_2 => ?_)
  · have hF := ob_pos c_2 hF
    refine lv_aload_n hx hb dX9_asks_18 rfl (lv_at hl 0 rfl) ?_
    refine lv_iconst (v := 4) hx hb dX9_asks_19 (by decide) ?_
    obtain ⟨h_3, e_3, hF⟩ := ob1_some hF
    refine gx_callv (gx_runV (As := [.int 4]) (rest := []) ⟨hx, hb, hml, hown, hts⟩ (c_X9_opensFrame l G cI cJ cZ cB cT m0 r h_1 4 h_3 e_3 H.size) (gG_V m_146 m_147 m_148 m_64 m_145) rfl e_X9_opensFrame ⟨Nat.le_of_ble_eq_true rfl, Nat.le_of_ble_eq_true rfl⟩ hK hP hD hE hS hA 0 wM_at0 rfl rfl hl.1 rfl (Nat.le_of_ble_eq_true rfl) dX9_asks_20 ⟨Nat.le_refl _, Nat.le_refl _⟩) hP hD hS hA (fun u_3 H locs hw_3 hP hD hS => ?_)
    refine lv_aload_n hx hb dX9_asks_23 rfl (lv_at hl 0 rfl) ?_
    refine lv_iconst (v := 1) hx hb dX9_asks_24 (by decide) ?_
    refine va_put (D := G) (ci := 9) (v := .int 1) (ty := .int) (C := RX9) (T := TX9) (N := 53) hx hb hts iX9 tyX9 tyX9_ok nmX9 hown hK hP hD hS 0 wM_at0 rfl 28 (by decide) (hts _ m_175) (fun _ h9 => h9) rfl (tyX9_ok 28 (by decide)) rfl rfl (Nat.le_of_ble_eq_true rfl) dX9_asks_25 (fun H locs hP hD hS => ?_)
    rw [wM_sI0_28] at hP hD
    exact hJ_28 (sI h_3 0 28 1) hF H _ ls hP hD hS (lv_sub hl [] rfl)
  · have hF := ob_neg c_2 hF
    refine lv_aload_n hx hb dX9_asks_9 rfl (lv_at hl 0 rfl) ?_
    refine lv_iconst (v := 3) hx hb dX9_asks_10 (by decide) ?_
    obtain ⟨r_4, h_4, e_4, hF⟩ := ob2_some hF
    refine gx_calli (gx_runV (As := [.int 3]) (rest := []) ⟨hx, hb, hml, hown, hts⟩ (c_X9_opensSign l G cI cJ cZ cB cT m0 r h_1 3 r_4 h_4 e_4 H.size) (gG_V m_177 m_178 m_179 m_64 m_176) rfl e_X9_opensSign ⟨Nat.le_of_ble_eq_true rfl, Nat.le_of_ble_eq_true rfl⟩ hK hP hD hE hS hA 0 wM_at0 rfl rfl hl.1 rfl (Nat.le_of_ble_eq_true rfl) dX9_asks_11 ⟨Nat.le_refl _, Nat.le_refl _⟩) hP hD hS hA (fun x_4 u_4 H locs hw_4 hP hD hS => ?_)
    subst x_4
    refine lv_istore_n (lv' := [(1, .int r_4), (0, .ref m0)]) hx hb dX9_asks_14 rfl hl (by decide) rfl (fun ls hl => ?_)
    refine lv_goto (tgt := 28) hx hb dX9_asks_15 (by decide) ?_
    exact hJ_28 h_4 hF H _ ls hP hD hS (lv_sub hl [] rfl)
def f_X9_oneIsOver_0 : Nat → HS → Option HS
  | 0, _ => none
  | n + 1, h => (ob2 (f_X9_top h) (fun r_1 h_1 => (if r_1 = 7 then (ob1 (f_X9_emits (sI (sI h_1 0 22 ((eI h_1 0 22) - 1)) 0 21 ((eI h_1 0 21) - 1)) 402 0) (fun h_3 => ((f_X9_oneIsOver_0 n) h_3))) else (some (sI h_1 0 28 2)))))
theorem f_X9_oneIsOver_0_s (n : Nat) (h : HS) : f_X9_oneIsOver_0 (n + 1) h = (ob2 (f_X9_top h) (fun r_1 h_1 => (if r_1 = 7 then (ob1 (f_X9_emits (sI (sI h_1 0 22 ((eI h_1 0 22) - 1)) 0 21 ((eI h_1 0 21) - 1)) 402 0) (fun h_3 => ((f_X9_oneIsOver_0 n) h_3))) else (some (sI h_1 0 28 2))))) := rfl
def f_X9_oneIsOver (h : HS) : Option HS := (f_X9_oneIsOver_0 8589934592 h)
theorem e_X9_top : yX9_top.cls = RX9 ∧ yX9_top.cls ≠ "java/lang/invoke/MethodHandle" ∧ yX9_top.cls ≠ "java/lang/invoke/VarHandle" ∧ (parseMethodDescriptor yX9_top.desc).map (fun d => d.parameters.length) = some 0 := by decide +kernel
set_option maxHeartbeats 4000000 in
set_option maxRecDepth 100000 in
theorem c_X9_oneIsOver (l : Launch) (G : va_G) (cI cJ cZ cB cT : ClassId) (m0 : Nat) (r : Nat → Nat) (h : HS)  (hh : HS) (hF : f_X9_oneIsOver h = some hh) : gMv l yX9_oneIsOver (gws yX9_oneIsOver cX9_oneIsOver 1 none) 2 G (gT cI cJ cZ cB cT) [.ref m0] (wM m0 r cI cJ cZ cB cT h) (fun (_ : Unit) => True) (fun (_ : Unit) => (wM m0 r cI cJ cZ cB cT hh)) := by
  intro sz
  refine gM_start (y := yX9_oneIsOver) (av := [.ref m0]) (ws := (wM m0 r cI cJ cZ cB cT h)) (Qf := fun A => va_Qv (fun (_ : Unit) => True) (gB G (fun (_ : Unit) => (wM m0 r cI cJ cZ cB cT hh)) A) A) (cc := cX9_oneIsOver) (maxL := 1) (ret := none) (by decide) (Nat.le_of_ble_eq_true rfl) ?_
  intro p e s m args below meth c A ls H hx hb hr hts hown hin hlocks hml hP hK hD hA hS hl hE
  have hl : lv_has ls 1 [(0, .ref m0)] := hl
  have hJ_0 : ∀ (n_0 : Nat) (h : HS), f_X9_oneIsOver_0 n_0 h = some hh → ∀ (H : Heap) (locs : List Loc) (ls : Array Slot), va_P G vwCl (wM m0 r cI cJ cZ cB cT h) H → va_D A (wM m0 r cI cJ cZ cB cT h) → va_S A s.heap H locs → lv_has ls 1 [(0, .ref m0)] → W p l e (gRm 2) s m args below meth c H locs 0 0 (MQ below (va_Qv (fun (_ : Unit) => True) (gB G (fun (_ : Unit) => (wM m0 r cI cJ cZ cB cT hh)) A) A) args s 0 0 A) (F0 m 0 ls []) := by
    intro n_0
    induction n_0 with
    | zero =>
      intro h hF
      exact absurd hF (by simp [f_X9_oneIsOver_0])
    | succ n_0 ih_0 =>
      intro h hF H locs ls hP hD hS hl
      rw [f_X9_oneIsOver_0_s] at hF
      refine lv_aload_n hx hb dX9_oneIsOver_0 rfl (lv_at hl 0 rfl) ?_
      obtain ⟨r_1, h_1, e_1, hF⟩ := ob2_some hF
      refine gx_calli (gx_runV (As := []) (rest := []) ⟨hx, hb, hml, hown, hts⟩ (c_X9_top l G cI cJ cZ cB cT m0 r h  r_1 h_1 e_1 H.size) (gG_V m_181 m_182 m_183 m_64 m_180) rfl e_X9_top ⟨Nat.le_of_ble_eq_true rfl, Nat.le_of_ble_eq_true rfl⟩ hK hP hD hE hS hA 0 wM_at0 rfl rfl hl.1 rfl (Nat.le_of_ble_eq_true rfl) dX9_oneIsOver_1 ⟨Nat.le_refl _, Nat.le_refl _⟩) hP hD hS hA (fun x_1 u_1 H locs hw_1 hP hD hS => ?_)
      subst x_1
      refine lv_bipush (v := 7) hx hb dX9_oneIsOver_4 (by decide) ?_
      refine lv_icmp_ne (tgt := 40) hx hb dX9_oneIsOver_6 (by decide) (fun c_2 => ?_) (fun c_2 => ?_)
      · have hF := ob_neg c_2 hF
        refine lv_aload_n hx hb dX9_oneIsOver_40 rfl (lv_at hl 0 rfl) ?_
        refine lv_iconst (v := 2) hx hb dX9_oneIsOver_41 (by decide) ?_
        refine va_put (D := G) (ci := 9) (v := .int 2) (ty := .int) (C := RX9) (T := TX9) (N := 53) hx hb hts iX9 tyX9 tyX9_ok nmX9 hown hK hP hD hS 0 wM_at0 rfl 28 (by decide) (hts _ m_175) (fun _ h9 => h9) rfl (tyX9_ok 28 (by decide)) rfl rfl (Nat.le_of_ble_eq_true rfl) dX9_oneIsOver_42 (fun H locs hP hD hS => ?_)
        rw [wM_sI0_28] at hP hD
        obtain rfl := ob_one hF
        exact gw_vret () hx hb hr hlocks hP hD hS trivial dX9_oneIsOver_45
      · have hF := ob_pos c_2 hF
        refine lv_aload_n hx hb dX9_oneIsOver_9 rfl (lv_at hl 0 rfl) ?_
        refine lv_dup hx hb dX9_oneIsOver_10 rfl ?_
        refine va_get (D := G) (ci := 9) (v := .int (eI h_1 0 22)) (C := RX9) (T := TX9) (N := 53) hx hb hts iX9 hown hK hP 0 wM_at0 rfl 22 (by decide) (hts _ m_143) (fun _ h9 => h9) rfl dX9_oneIsOver_11 ?_
        refine lv_iconst (v := 1) hx hb dX9_oneIsOver_14 (by decide) ?_
        refine lv_isub hx hb dX9_oneIsOver_15 ?_
        refine va_put (D := G) (ci := 9) (v := .int ((eI h_1 0 22) - 1)) (ty := .int) (C := RX9) (T := TX9) (N := 53) hx hb hts iX9 tyX9 tyX9_ok nmX9 hown hK hP hD hS 0 wM_at0 rfl 22 (by decide) (hts _ m_143) (fun _ h9 => h9) rfl (tyX9_ok 22 (by decide)) rfl rfl (Nat.le_of_ble_eq_true rfl) dX9_oneIsOver_16 (fun H locs hP hD hS => ?_)
        rw [wM_sI0_22] at hP hD
        refine lv_aload_n hx hb dX9_oneIsOver_19 rfl (lv_at hl 0 rfl) ?_
        refine lv_dup hx hb dX9_oneIsOver_20 rfl ?_
        refine va_get (D := G) (ci := 9) (v := .int (eI h_1 0 21)) (C := RX9) (T := TX9) (N := 53) hx hb hts iX9 hown hK hP 0 wM_at0 rfl 21 (by decide) (hts _ m_144) (fun _ h9 => h9) rfl dX9_oneIsOver_21 ?_
        refine lv_iconst (v := 1) hx hb dX9_oneIsOver_24 (by decide) ?_
        refine lv_isub hx hb dX9_oneIsOver_25 ?_
        refine va_put (D := G) (ci := 9) (v := .int ((eI h_1 0 21) - 1)) (ty := .int) (C := RX9) (T := TX9) (N := 53) hx hb hts iX9 tyX9 tyX9_ok nmX9 hown hK hP hD hS 0 wM_at0 rfl 21 (by decide) (hts _ m_144) (fun _ h9 => h9) rfl (tyX9_ok 21 (by decide)) rfl rfl (Nat.le_of_ble_eq_true rfl) dX9_oneIsOver_26 (fun H locs hP hD hS => ?_)
        rw [wM_sI0_21] at hP hD
        refine lv_aload_n hx hb dX9_oneIsOver_29 rfl (lv_at hl 0 rfl) ?_
        refine lv_sipush (v := 402) hx hb dX9_oneIsOver_30 (by decide) ?_
        refine lv_iconst (v := 0) hx hb dX9_oneIsOver_33 (by decide) ?_
        obtain ⟨h_3, e_3, hF⟩ := ob1_some hF
        refine gx_callv (gx_runV (As := [.int 402, .int 0]) (rest := []) ⟨hx, hb, hml, hown, hts⟩ (c_X9_emits l G cI cJ cZ cB cT m0 r (sI (sI h_1 0 22 ((eI h_1 0 22) - 1)) 0 21 ((eI h_1 0 21) - 1)) 402 0 h_3 e_3 H.size) (gG_V m_164 m_165 m_166 m_64 m_163) rfl e_X9_emits ⟨Nat.le_of_ble_eq_true rfl, Nat.le_of_ble_eq_true rfl⟩ hK hP hD hE hS hA 0 wM_at0 rfl rfl hl.1 rfl (Nat.le_of_ble_eq_true rfl) dX9_oneIsOver_34 ⟨Nat.le_refl _, Nat.le_refl _⟩) hP hD hS hA (fun u_3 H locs hw_3 hP hD hS => ?_)
        refine lv_goto (tgt := 0) hx hb dX9_oneIsOver_37 (by decide) ?_
        exact ih_0 h_3 hF H _ ls hP hD hS (lv_sub hl [0] rfl)
  unfold f_X9_oneIsOver at hF
  exact hJ_0 8589934592 h hF H _ ls hP hD hS (lv_sub hl [0] rfl)
def f_X9_askIsOver_0 : Nat → HS → Option HS
  | 0, _ => none
  | n + 1, h => (ob2 (f_X9_top h) (fun r_1 h_1 => (if r_1 = 3 then (ob1 (f_X9_emits (sI (sI h_1 0 22 ((eI h_1 0 22) - 1)) 0 21 ((eI h_1 0 21) - 1)) 405 0) (fun h_3 => ((f_X9_askIsOver_0 n) h_3))) else (some (sI h_1 0 28 3)))))
theorem f_X9_askIsOver_0_s (n : Nat) (h : HS) : f_X9_askIsOver_0 (n + 1) h = (ob2 (f_X9_top h) (fun r_1 h_1 => (if r_1 = 3 then (ob1 (f_X9_emits (sI (sI h_1 0 22 ((eI h_1 0 22) - 1)) 0 21 ((eI h_1 0 21) - 1)) 405 0) (fun h_3 => ((f_X9_askIsOver_0 n) h_3))) else (some (sI h_1 0 28 3))))) := rfl
def f_X9_askIsOver (h : HS) : Option HS := (f_X9_askIsOver_0 8589934592 h)
set_option maxHeartbeats 4000000 in
set_option maxRecDepth 100000 in
theorem c_X9_askIsOver (l : Launch) (G : va_G) (cI cJ cZ cB cT : ClassId) (m0 : Nat) (r : Nat → Nat) (h : HS)  (hh : HS) (hF : f_X9_askIsOver h = some hh) : gMv l yX9_askIsOver (gws yX9_askIsOver cX9_askIsOver 1 none) 2 G (gT cI cJ cZ cB cT) [.ref m0] (wM m0 r cI cJ cZ cB cT h) (fun (_ : Unit) => True) (fun (_ : Unit) => (wM m0 r cI cJ cZ cB cT hh)) := by
  intro sz
  refine gM_start (y := yX9_askIsOver) (av := [.ref m0]) (ws := (wM m0 r cI cJ cZ cB cT h)) (Qf := fun A => va_Qv (fun (_ : Unit) => True) (gB G (fun (_ : Unit) => (wM m0 r cI cJ cZ cB cT hh)) A) A) (cc := cX9_askIsOver) (maxL := 1) (ret := none) (by decide) (Nat.le_of_ble_eq_true rfl) ?_
  intro p e s m args below meth c A ls H hx hb hr hts hown hin hlocks hml hP hK hD hA hS hl hE
  have hl : lv_has ls 1 [(0, .ref m0)] := hl
  have hJ_0 : ∀ (n_0 : Nat) (h : HS), f_X9_askIsOver_0 n_0 h = some hh → ∀ (H : Heap) (locs : List Loc) (ls : Array Slot), va_P G vwCl (wM m0 r cI cJ cZ cB cT h) H → va_D A (wM m0 r cI cJ cZ cB cT h) → va_S A s.heap H locs → lv_has ls 1 [(0, .ref m0)] → W p l e (gRm 2) s m args below meth c H locs 0 0 (MQ below (va_Qv (fun (_ : Unit) => True) (gB G (fun (_ : Unit) => (wM m0 r cI cJ cZ cB cT hh)) A) A) args s 0 0 A) (F0 m 0 ls []) := by
    intro n_0
    induction n_0 with
    | zero =>
      intro h hF
      exact absurd hF (by simp [f_X9_askIsOver_0])
    | succ n_0 ih_0 =>
      intro h hF H locs ls hP hD hS hl
      rw [f_X9_askIsOver_0_s] at hF
      refine lv_aload_n hx hb dX9_askIsOver_0 rfl (lv_at hl 0 rfl) ?_
      obtain ⟨r_1, h_1, e_1, hF⟩ := ob2_some hF
      refine gx_calli (gx_runV (As := []) (rest := []) ⟨hx, hb, hml, hown, hts⟩ (c_X9_top l G cI cJ cZ cB cT m0 r h  r_1 h_1 e_1 H.size) (gG_V m_181 m_182 m_183 m_64 m_180) rfl e_X9_top ⟨Nat.le_of_ble_eq_true rfl, Nat.le_of_ble_eq_true rfl⟩ hK hP hD hE hS hA 0 wM_at0 rfl rfl hl.1 rfl (Nat.le_of_ble_eq_true rfl) dX9_askIsOver_1 ⟨Nat.le_refl _, Nat.le_refl _⟩) hP hD hS hA (fun x_1 u_1 H locs hw_1 hP hD hS => ?_)
      subst x_1
      refine lv_iconst (v := 3) hx hb dX9_askIsOver_4 (by decide) ?_
      refine lv_icmp_ne (tgt := 39) hx hb dX9_askIsOver_5 (by decide) (fun c_2 => ?_) (fun c_2 => ?_)
      · have hF := ob_neg c_2 hF
        refine lv_aload_n hx hb dX9_askIsOver_39 rfl (lv_at hl 0 rfl) ?_
        refine lv_iconst (v := 3) hx hb dX9_askIsOver_40 (by decide) ?_
        refine va_put (D := G) (ci := 9) (v := .int 3) (ty := .int) (C := RX9) (T := TX9) (N := 53) hx hb hts iX9 tyX9 tyX9_ok nmX9 hown hK hP hD hS 0 wM_at0 rfl 28 (by decide) (hts _ m_175) (fun _ h9 => h9) rfl (tyX9_ok 28 (by decide)) rfl rfl (Nat.le_of_ble_eq_true rfl) dX9_askIsOver_41 (fun H locs hP hD hS => ?_)
        rw [wM_sI0_28] at hP hD
        obtain rfl := ob_one hF
        exact gw_vret () hx hb hr hlocks hP hD hS trivial dX9_askIsOver_44
      · have hF := ob_pos c_2 hF
        refine lv_aload_n hx hb dX9_askIsOver_8 rfl (lv_at hl 0 rfl) ?_
        refine lv_dup hx hb dX9_askIsOver_9 rfl ?_
        refine va_get (D := G) (ci := 9) (v := .int (eI h_1 0 22)) (C := RX9) (T := TX9) (N := 53) hx hb hts iX9 hown hK hP 0 wM_at0 rfl 22 (by decide) (hts _ m_143) (fun _ h9 => h9) rfl dX9_askIsOver_10 ?_
        refine lv_iconst (v := 1) hx hb dX9_askIsOver_13 (by decide) ?_
        refine lv_isub hx hb dX9_askIsOver_14 ?_
        refine va_put (D := G) (ci := 9) (v := .int ((eI h_1 0 22) - 1)) (ty := .int) (C := RX9) (T := TX9) (N := 53) hx hb hts iX9 tyX9 tyX9_ok nmX9 hown hK hP hD hS 0 wM_at0 rfl 22 (by decide) (hts _ m_143) (fun _ h9 => h9) rfl (tyX9_ok 22 (by decide)) rfl rfl (Nat.le_of_ble_eq_true rfl) dX9_askIsOver_15 (fun H locs hP hD hS => ?_)
        rw [wM_sI0_22] at hP hD
        refine lv_aload_n hx hb dX9_askIsOver_18 rfl (lv_at hl 0 rfl) ?_
        refine lv_dup hx hb dX9_askIsOver_19 rfl ?_
        refine va_get (D := G) (ci := 9) (v := .int (eI h_1 0 21)) (C := RX9) (T := TX9) (N := 53) hx hb hts iX9 hown hK hP 0 wM_at0 rfl 21 (by decide) (hts _ m_144) (fun _ h9 => h9) rfl dX9_askIsOver_20 ?_
        refine lv_iconst (v := 1) hx hb dX9_askIsOver_23 (by decide) ?_
        refine lv_isub hx hb dX9_askIsOver_24 ?_
        refine va_put (D := G) (ci := 9) (v := .int ((eI h_1 0 21) - 1)) (ty := .int) (C := RX9) (T := TX9) (N := 53) hx hb hts iX9 tyX9 tyX9_ok nmX9 hown hK hP hD hS 0 wM_at0 rfl 21 (by decide) (hts _ m_144) (fun _ h9 => h9) rfl (tyX9_ok 21 (by decide)) rfl rfl (Nat.le_of_ble_eq_true rfl) dX9_askIsOver_25 (fun H locs hP hD hS => ?_)
        rw [wM_sI0_21] at hP hD
        refine lv_aload_n hx hb dX9_askIsOver_28 rfl (lv_at hl 0 rfl) ?_
        refine lv_sipush (v := 405) hx hb dX9_askIsOver_29 (by decide) ?_
        refine lv_iconst (v := 0) hx hb dX9_askIsOver_32 (by decide) ?_
        obtain ⟨h_3, e_3, hF⟩ := ob1_some hF
        refine gx_callv (gx_runV (As := [.int 405, .int 0]) (rest := []) ⟨hx, hb, hml, hown, hts⟩ (c_X9_emits l G cI cJ cZ cB cT m0 r (sI (sI h_1 0 22 ((eI h_1 0 22) - 1)) 0 21 ((eI h_1 0 21) - 1)) 405 0 h_3 e_3 H.size) (gG_V m_164 m_165 m_166 m_64 m_163) rfl e_X9_emits ⟨Nat.le_of_ble_eq_true rfl, Nat.le_of_ble_eq_true rfl⟩ hK hP hD hE hS hA 0 wM_at0 rfl rfl hl.1 rfl (Nat.le_of_ble_eq_true rfl) dX9_askIsOver_33 ⟨Nat.le_refl _, Nat.le_refl _⟩) hP hD hS hA (fun u_3 H locs hw_3 hP hD hS => ?_)
        refine lv_goto (tgt := 0) hx hb dX9_askIsOver_36 (by decide) ?_
        exact ih_0 h_3 hF H _ ls hP hD hS (lv_sub hl [0] rfl)
  unfold f_X9_askIsOver at hF
  exact hJ_0 8589934592 h hF H _ ls hP hD hS (lv_sub hl [0] rfl)
def f_X9_begins_154 (h : HS) : Option HS := (some h)
def f_X9_begins_111 (h : HS) : Option HS := (ob2 (f_X9_isSign h 40) (fun r_12 h_12 => (if r_12 = 0 then (ob2 (f_X9_isSign h_12 45) (fun r_14 h_14 => (if r_14 = 0 then (ob1 (f_X9_errs h_14 1) (fun h_16 => (f_X9_begins_154 h_16))) else (ob2 (f_X9_opensSign h_14 7) (fun r_17 h_17 => (f_X9_begins_154 h_17)))))) else (ob2 (f_X9_opensSign h_12 6) (fun r_18 h_18 => (f_X9_begins_154 h_18))))))
def f_X9_begins_92 (h : HS) (x1 : Int32) : Option HS := (ob1 (f_X9_emits h 401 x1) (fun h_19 => (ob1 (f_X9_next h_19) (fun h_20 => (ob1 (f_X9_oneIsOver h_20) (fun h_21 => (f_X9_begins_154 h_21)))))))
def f_X9_begins (h : HS) : Option HS := (if (eI h 0 17) = 2 then (if (eI h 0 18) ≤ 9999 then (ob1 (f_X9_emits h 400 (eI h 0 18)) (fun h_8 => (ob1 (f_X9_next h_8) (fun h_9 => (ob1 (f_X9_oneIsOver h_9) (fun h_10 => (f_X9_begins_154 h_10))))))) else (ob1 (f_X9_errs h 2) (fun h_11 => (some h_11)))) else (if (eI h 0 17) = 1 then (if (eI h 0 18) ≤ 12 then (f_X9_begins_111 h) else (if (((eI h 0 18) - 12) - 1) ≤ 5 then (f_X9_begins_92 h (((eI h 0 18) - 12) - 1)) else (if (eI h 0 30) ≤ 1 then (f_X9_begins_92 h (((eI h 0 18) - 12) - 1)) else (ob1 (f_X9_errs h 5) (fun h_6 => (some h_6)))))) else (f_X9_begins_111 h)))
theorem e_X9_isSign : yX9_isSign.cls = RX9 ∧ yX9_isSign.cls ≠ "java/lang/invoke/MethodHandle" ∧ yX9_isSign.cls ≠ "java/lang/invoke/VarHandle" ∧ (parseMethodDescriptor yX9_isSign.desc).map (fun d => d.parameters.length) = some 1 := by decide +kernel
theorem e_X9_oneIsOver : yX9_oneIsOver.cls = RX9 ∧ yX9_oneIsOver.cls ≠ "java/lang/invoke/MethodHandle" ∧ yX9_oneIsOver.cls ≠ "java/lang/invoke/VarHandle" ∧ (parseMethodDescriptor yX9_oneIsOver.desc).map (fun d => d.parameters.length) = some 0 := by decide +kernel
set_option maxHeartbeats 4000000 in
set_option maxRecDepth 100000 in
theorem c_X9_begins (l : Launch) (G : va_G) (cI cJ cZ cB cT : ClassId) (m0 : Nat) (r : Nat → Nat) (h : HS)  (hh : HS) (hF : f_X9_begins h = some hh) : gMv l yX9_begins (gws yX9_begins cX9_begins 2 none) 5 G (gT cI cJ cZ cB cT) [.ref m0] (wM m0 r cI cJ cZ cB cT h) (fun (_ : Unit) => True) (fun (_ : Unit) => (wM m0 r cI cJ cZ cB cT hh)) := by
  intro sz
  refine gM_start (y := yX9_begins) (av := [.ref m0]) (ws := (wM m0 r cI cJ cZ cB cT h)) (Qf := fun A => va_Qv (fun (_ : Unit) => True) (gB G (fun (_ : Unit) => (wM m0 r cI cJ cZ cB cT hh)) A) A) (cc := cX9_begins) (maxL := 2) (ret := none) (by decide) (Nat.le_of_ble_eq_true rfl) ?_
  intro p e s m args below meth c A ls H hx hb hr hts hown hin hlocks hml hP hK hD hA hS hl hE
  have hl : lv_has ls 2 [(0, .ref m0)] := hl
  have hJ_154 : ∀ (h : HS), f_X9_begins_154 h = some hh → ∀ (H : Heap) (locs : List Loc) (ls : Array Slot), va_P G vwCl (wM m0 r cI cJ cZ cB cT h) H → va_D A (wM m0 r cI cJ cZ cB cT h) → va_S A s.heap H locs → lv_has ls 2 [] → W p l e (gRm 5) s m args below meth c H locs 0 0 (MQ below (va_Qv (fun (_ : Unit) => True) (gB G (fun (_ : Unit) => (wM m0 r cI cJ cZ cB cT hh)) A) A) args s 0 0 A) (F0 m 154 ls []) := by
    intro h hF H locs ls hP hD hS hl
    unfold f_X9_begins_154 at hF
    obtain rfl := ob_one hF
    exact gw_vret () hx hb hr hlocks hP hD hS trivial dX9_begins_154
  have hJ_111 : ∀ (h : HS), f_X9_begins_111 h = some hh → ∀ (H : Heap) (locs : List Loc) (ls : Array Slot), va_P G vwCl (wM m0 r cI cJ cZ cB cT h) H → va_D A (wM m0 r cI cJ cZ cB cT h) → va_S A s.heap H locs → lv_has ls 2 [(0, .ref m0)] → W p l e (gRm 5) s m args below meth c H locs 0 0 (MQ below (va_Qv (fun (_ : Unit) => True) (gB G (fun (_ : Unit) => (wM m0 r cI cJ cZ cB cT hh)) A) A) args s 0 0 A) (F0 m 111 ls []) := by
    intro h hF H locs ls hP hD hS hl
    unfold f_X9_begins_111 at hF
    refine lv_aload_n hx hb dX9_begins_111 rfl (lv_at hl 0 rfl) ?_
    refine lv_bipush (v := 40) hx hb dX9_begins_112 (by decide) ?_
    obtain ⟨r_12, h_12, e_12, hF⟩ := ob2_some hF
    refine gx_calli (gx_runV (As := [.int 40]) (rest := []) ⟨hx, hb, hml, hown, hts⟩ (c_X9_isSign l G cI cJ cZ cB cT m0 r h 40 r_12 h_12 e_12 H.size) (gG_V m_190 m_191 m_192 m_64 m_189) rfl e_X9_isSign ⟨Nat.le_of_ble_eq_true rfl, Nat.le_of_ble_eq_true rfl⟩ hK hP hD hE hS hA 0 wM_at0 rfl rfl hl.1 rfl (Nat.le_of_ble_eq_true rfl) dX9_begins_114 ⟨Nat.le_refl _, Nat.le_refl _⟩) hP hD hS hA (fun x_12 u_12 H locs hw_12 hP hD hS => ?_)
    subst x_12
    refine lv_if_eq (tgt := 130) hx hb dX9_begins_117 (by decide) (fun c_13 => ?_) (fun c_13 => ?_)
    · have hF := ob_pos c_13 hF
      refine lv_aload_n hx hb dX9_begins_130 rfl (lv_at hl 0 rfl) ?_
      refine lv_bipush (v := 45) hx hb dX9_begins_131 (by decide) ?_
      obtain ⟨r_14, h_14, e_14, hF⟩ := ob2_some hF
      refine gx_calli (gx_runV (As := [.int 45]) (rest := []) ⟨hx, hb, hml, hown, hts⟩ (c_X9_isSign l G cI cJ cZ cB cT m0 r h_12 45 r_14 h_14 e_14 H.size) (gG_V m_190 m_191 m_192 m_64 m_189) rfl e_X9_isSign ⟨Nat.le_of_ble_eq_true rfl, Nat.le_of_ble_eq_true rfl⟩ hK hP hD hE hS hA 0 wM_at0 rfl rfl hl.1 rfl (Nat.le_of_ble_eq_true rfl) dX9_begins_133 ⟨Nat.le_refl _, Nat.le_refl _⟩) hP hD hS hA (fun x_14 u_14 H locs hw_14 hP hD hS => ?_)
      subst x_14
      refine lv_if_eq (tgt := 149) hx hb dX9_begins_136 (by decide) (fun c_15 => ?_) (fun c_15 => ?_)
      · have hF := ob_pos c_15 hF
        refine lv_aload_n hx hb dX9_begins_149 rfl (lv_at hl 0 rfl) ?_
        refine lv_iconst (v := 1) hx hb dX9_begins_150 (by decide) ?_
        obtain ⟨h_16, e_16, hF⟩ := ob1_some hF
        refine gx_callv (gx_runV (As := [.int 1]) (rest := []) ⟨hx, hb, hml, hown, hts⟩ (c_X9_errs l G cI cJ cZ cB cT m0 r h_14 1 h_16 e_16 H.size) (gG_V m_154 m_155 m_156 m_64 m_153) rfl e_X9_errs ⟨Nat.le_of_ble_eq_true rfl, Nat.le_of_ble_eq_true rfl⟩ hK hP hD hE hS hA 0 wM_at0 rfl rfl hl.1 rfl (Nat.le_of_ble_eq_true rfl) dX9_begins_151 ⟨Nat.le_refl _, Nat.le_refl _⟩) hP hD hS hA (fun u_16 H locs hw_16 hP hD hS => ?_)
        exact hJ_154 h_16 hF H _ ls hP hD hS (lv_sub hl [] rfl)
      · have hF := ob_neg c_15 hF
        refine lv_aload_n hx hb dX9_begins_139 rfl (lv_at hl 0 rfl) ?_
        refine lv_bipush (v := 7) hx hb dX9_begins_140 (by decide) ?_
        obtain ⟨r_17, h_17, e_17, hF⟩ := ob2_some hF
        refine gx_calli (gx_runV (As := [.int 7]) (rest := []) ⟨hx, hb, hml, hown, hts⟩ (c_X9_opensSign l G cI cJ cZ cB cT m0 r h_14 7 r_17 h_17 e_17 H.size) (gG_V m_177 m_178 m_179 m_64 m_176) rfl e_X9_opensSign ⟨Nat.le_of_ble_eq_true rfl, Nat.le_of_ble_eq_true rfl⟩ hK hP hD hE hS hA 0 wM_at0 rfl rfl hl.1 rfl (Nat.le_of_ble_eq_true rfl) dX9_begins_142 ⟨Nat.le_refl _, Nat.le_refl _⟩) hP hD hS hA (fun x_17 u_17 H locs hw_17 hP hD hS => ?_)
        subst x_17
        refine lv_istore_n (lv' := [(1, .int r_17), (0, .ref m0)]) hx hb dX9_begins_145 rfl hl (by decide) rfl (fun ls hl => ?_)
        refine lv_goto (tgt := 154) hx hb dX9_begins_146 (by decide) ?_
        exact hJ_154 h_17 hF H _ ls hP hD hS (lv_sub hl [] rfl)
    · have hF := ob_neg c_13 hF
      refine lv_aload_n hx hb dX9_begins_120 rfl (lv_at hl 0 rfl) ?_
      refine lv_bipush (v := 6) hx hb dX9_begins_121 (by decide) ?_
      obtain ⟨r_18, h_18, e_18, hF⟩ := ob2_some hF
      refine gx_calli (gx_runV (As := [.int 6]) (rest := []) ⟨hx, hb, hml, hown, hts⟩ (c_X9_opensSign l G cI cJ cZ cB cT m0 r h_12 6 r_18 h_18 e_18 H.size) (gG_V m_177 m_178 m_179 m_64 m_176) rfl e_X9_opensSign ⟨Nat.le_of_ble_eq_true rfl, Nat.le_of_ble_eq_true rfl⟩ hK hP hD hE hS hA 0 wM_at0 rfl rfl hl.1 rfl (Nat.le_of_ble_eq_true rfl) dX9_begins_123 ⟨Nat.le_refl _, Nat.le_refl _⟩) hP hD hS hA (fun x_18 u_18 H locs hw_18 hP hD hS => ?_)
      subst x_18
      refine lv_istore_n (lv' := [(1, .int r_18), (0, .ref m0)]) hx hb dX9_begins_126 rfl hl (by decide) rfl (fun ls hl => ?_)
      refine lv_goto (tgt := 154) hx hb dX9_begins_127 (by decide) ?_
      exact hJ_154 h_18 hF H _ ls hP hD hS (lv_sub hl [] rfl)
  have hJ_92 : ∀ (h : HS) (x1 : Int32), f_X9_begins_92 h x1 = some hh → ∀ (H : Heap) (locs : List Loc) (ls : Array Slot), va_P G vwCl (wM m0 r cI cJ cZ cB cT h) H → va_D A (wM m0 r cI cJ cZ cB cT h) → va_S A s.heap H locs → lv_has ls 2 [(0, .ref m0), (1, .int x1)] → W p l e (gRm 5) s m args below meth c H locs 0 0 (MQ below (va_Qv (fun (_ : Unit) => True) (gB G (fun (_ : Unit) => (wM m0 r cI cJ cZ cB cT hh)) A) A) args s 0 0 A) (F0 m 92 ls []) := by
    intro h x1 hF H locs ls hP hD hS hl
    unfold f_X9_begins_92 at hF
    refine lv_aload_n hx hb dX9_begins_92 rfl (lv_at hl 0 rfl) ?_
    refine lv_sipush (v := 401) hx hb dX9_begins_93 (by decide) ?_
    refine lv_iload_n hx hb dX9_begins_96 rfl (lv_at hl 1 rfl) ?_
    obtain ⟨h_19, e_19, hF⟩ := ob1_some hF
    refine gx_callv (gx_runV (As := [.int 401, .int x1]) (rest := []) ⟨hx, hb, hml, hown, hts⟩ (c_X9_emits l G cI cJ cZ cB cT m0 r h 401 x1 h_19 e_19 H.size) (gG_V m_164 m_165 m_166 m_64 m_163) rfl e_X9_emits ⟨Nat.le_of_ble_eq_true rfl, Nat.le_of_ble_eq_true rfl⟩ hK hP hD hE hS hA 0 wM_at0 rfl rfl hl.1 rfl (Nat.le_of_ble_eq_true rfl) dX9_begins_97 ⟨Nat.le_refl _, Nat.le_refl _⟩) hP hD hS hA (fun u_19 H locs hw_19 hP hD hS => ?_)
    refine lv_aload_n hx hb dX9_begins_100 rfl (lv_at hl 0 rfl) ?_
    obtain ⟨h_20, e_20, hF⟩ := ob1_some hF
    refine gx_callv (gx_runV (As := []) (rest := []) ⟨hx, hb, hml, hown, hts⟩ (c_X9_next l G cI cJ cZ cB cT m0 r h_19  h_20 e_20 H.size) (gG_V m_150 m_151 m_152 m_64 m_149) rfl e_X9_next ⟨Nat.le_of_ble_eq_true rfl, Nat.le_of_ble_eq_true rfl⟩ hK hP hD hE hS hA 0 wM_at0 rfl rfl hl.1 rfl (Nat.le_of_ble_eq_true rfl) dX9_begins_101 ⟨Nat.le_refl _, Nat.le_refl _⟩) hP hD hS hA (fun u_20 H locs hw_20 hP hD hS => ?_)
    refine lv_aload_n hx hb dX9_begins_104 rfl (lv_at hl 0 rfl) ?_
    obtain ⟨h_21, e_21, hF⟩ := ob1_some hF
    refine gx_callv (gx_runV (As := []) (rest := []) ⟨hx, hb, hml, hown, hts⟩ (c_X9_oneIsOver l G cI cJ cZ cB cT m0 r h_20  h_21 e_21 H.size) (gG_V m_186 m_187 m_188 m_64 m_185) rfl e_X9_oneIsOver ⟨Nat.le_of_ble_eq_true rfl, Nat.le_of_ble_eq_true rfl⟩ hK hP hD hE hS hA 0 wM_at0 rfl rfl hl.1 rfl (Nat.le_of_ble_eq_true rfl) dX9_begins_105 ⟨Nat.le_refl _, Nat.le_refl _⟩) hP hD hS hA (fun u_21 H locs hw_21 hP hD hS => ?_)
    refine lv_goto (tgt := 154) hx hb dX9_begins_108 (by decide) ?_
    exact hJ_154 h_21 hF H _ ls hP hD hS (lv_sub hl [] rfl)
  unfold f_X9_begins at hF
  refine lv_aload_n hx hb dX9_begins_0 rfl (lv_at hl 0 rfl) ?_
  refine va_get (D := G) (ci := 9) (v := .int (eI h 0 17)) (C := RX9) (T := TX9) (N := 53) hx hb hts iX9 hown hK hP 0 wM_at0 rfl 17 (by decide) (hts _ m_131) (fun _ h9 => h9) rfl dX9_begins_1 ?_
  refine lv_iconst (v := 2) hx hb dX9_begins_4 (by decide) ?_
  refine lv_icmp_ne (tgt := 46) hx hb dX9_begins_5 (by decide) (fun c_1 => ?_) (fun c_1 => ?_)
  · have hF := ob_neg c_1 hF
    refine lv_aload_n hx hb dX9_begins_46 rfl (lv_at hl 0 rfl) ?_
    refine va_get (D := G) (ci := 9) (v := .int (eI h 0 17)) (C := RX9) (T := TX9) (N := 53) hx hb hts iX9 hown hK hP 0 wM_at0 rfl 17 (by decide) (hts _ m_131) (fun _ h9 => h9) rfl dX9_begins_47 ?_
    refine lv_iconst (v := 1) hx hb dX9_begins_50 (by decide) ?_
    refine lv_icmp_ne (tgt := 111) hx hb dX9_begins_51 (by decide) (fun c_2 => ?_) (fun c_2 => ?_)
    · have hF := ob_neg c_2 hF
      exact hJ_111 h hF H _ ls hP hD hS (lv_sub hl [0] rfl)
    · have hF := ob_pos c_2 hF
      refine lv_aload_n hx hb dX9_begins_54 rfl (lv_at hl 0 rfl) ?_
      refine va_get (D := G) (ci := 9) (v := .int (eI h 0 18)) (C := RX9) (T := TX9) (N := 53) hx hb hts iX9 hown hK hP 0 wM_at0 rfl 18 (by decide) (hts _ m_130) (fun _ h9 => h9) rfl dX9_begins_55 ?_
      refine lv_bipush (v := 12) hx hb dX9_begins_58 (by decide) ?_
      refine lv_icmp_le (tgt := 111) hx hb dX9_begins_60 (by decide) (fun c_3 => ?_) (fun c_3 => ?_)
      · have hF := ob_pos c_3 hF
        exact hJ_111 h hF H _ ls hP hD hS (lv_sub hl [0] rfl)
      · have hF := ob_neg c_3 hF
        refine lv_aload_n hx hb dX9_begins_63 rfl (lv_at hl 0 rfl) ?_
        refine va_get (D := G) (ci := 9) (v := .int (eI h 0 18)) (C := RX9) (T := TX9) (N := 53) hx hb hts iX9 hown hK hP 0 wM_at0 rfl 18 (by decide) (hts _ m_130) (fun _ h9 => h9) rfl dX9_begins_64 ?_
        refine lv_bipush (v := 12) hx hb dX9_begins_67 (by decide) ?_
        refine lv_isub hx hb dX9_begins_69 ?_
        refine lv_iconst (v := 1) hx hb dX9_begins_70 (by decide) ?_
        refine lv_isub hx hb dX9_begins_71 ?_
        refine lv_istore_n (lv' := [(1, .int (((eI h 0 18) - 12) - 1)), (0, .ref m0)]) hx hb dX9_begins_72 rfl hl (by decide) rfl (fun ls hl => ?_)
        refine lv_iload_n hx hb dX9_begins_73 rfl (lv_at hl 0 rfl) ?_
        refine lv_iconst (v := 5) hx hb dX9_begins_74 (by decide) ?_
        refine lv_icmp_le (tgt := 92) hx hb dX9_begins_75 (by decide) (fun c_4 => ?_) (fun c_4 => ?_)
        · have hF := ob_pos c_4 hF
          exact hJ_92 h (((eI h 0 18) - 12) - 1) hF H _ ls hP hD hS (lv_sub hl [1, 0] rfl)
        · have hF := ob_neg c_4 hF
          refine lv_aload_n hx hb dX9_begins_78 rfl (lv_at hl 1 rfl) ?_
          refine va_get (D := G) (ci := 9) (v := .int (eI h 0 30)) (C := RX9) (T := TX9) (N := 53) hx hb hts iX9 hown hK hP 0 wM_at0 rfl 30 (by decide) (hts _ m_184) (fun _ h9 => h9) rfl dX9_begins_79 ?_
          refine lv_iconst (v := 1) hx hb dX9_begins_82 (by decide) ?_
          refine lv_icmp_le (tgt := 92) hx hb dX9_begins_83 (by decide) (fun c_5 => ?_) (fun c_5 => ?_)
          · have hF := ob_pos c_5 hF
            exact hJ_92 h (((eI h 0 18) - 12) - 1) hF H _ ls hP hD hS (lv_sub hl [1, 0] rfl)
          · have hF := ob_neg c_5 hF
            refine lv_aload_n hx hb dX9_begins_86 rfl (lv_at hl 1 rfl) ?_
            refine lv_iconst (v := 5) hx hb dX9_begins_87 (by decide) ?_
            obtain ⟨h_6, e_6, hF⟩ := ob1_some hF
            refine gx_callv (gx_runV (As := [.int 5]) (rest := []) ⟨hx, hb, hml, hown, hts⟩ (c_X9_errs l G cI cJ cZ cB cT m0 r h 5 h_6 e_6 H.size) (gG_V m_154 m_155 m_156 m_64 m_153) rfl e_X9_errs ⟨Nat.le_of_ble_eq_true rfl, Nat.le_of_ble_eq_true rfl⟩ hK hP hD hE hS hA 0 wM_at0 rfl rfl hl.1 rfl (Nat.le_of_ble_eq_true rfl) dX9_begins_88 ⟨Nat.le_refl _, Nat.le_refl _⟩) hP hD hS hA (fun u_6 H locs hw_6 hP hD hS => ?_)
            obtain rfl := ob_one hF
            exact gw_vret () hx hb hr hlocks hP hD hS trivial dX9_begins_91
  · have hF := ob_pos c_1 hF
    refine lv_aload_n hx hb dX9_begins_8 rfl (lv_at hl 0 rfl) ?_
    refine va_get (D := G) (ci := 9) (v := .int (eI h 0 18)) (C := RX9) (T := TX9) (N := 53) hx hb hts iX9 hown hK hP 0 wM_at0 rfl 18 (by decide) (hts _ m_130) (fun _ h9 => h9) rfl dX9_begins_9 ?_
    refine lv_sipush (v := 9999) hx hb dX9_begins_12 (by decide) ?_
    refine lv_icmp_le (tgt := 24) hx hb dX9_begins_15 (by decide) (fun c_7 => ?_) (fun c_7 => ?_)
    · have hF := ob_pos c_7 hF
      refine lv_aload_n hx hb dX9_begins_24 rfl (lv_at hl 0 rfl) ?_
      refine lv_sipush (v := 400) hx hb dX9_begins_25 (by decide) ?_
      refine lv_aload_n hx hb dX9_begins_28 rfl (lv_at hl 0 rfl) ?_
      refine va_get (D := G) (ci := 9) (v := .int (eI h 0 18)) (C := RX9) (T := TX9) (N := 53) hx hb hts iX9 hown hK hP 0 wM_at0 rfl 18 (by decide) (hts _ m_130) (fun _ h9 => h9) rfl dX9_begins_29 ?_
      obtain ⟨h_8, e_8, hF⟩ := ob1_some hF
      refine gx_callv (gx_runV (As := [.int 400, .int (eI h 0 18)]) (rest := []) ⟨hx, hb, hml, hown, hts⟩ (c_X9_emits l G cI cJ cZ cB cT m0 r h 400 (eI h 0 18) h_8 e_8 H.size) (gG_V m_164 m_165 m_166 m_64 m_163) rfl e_X9_emits ⟨Nat.le_of_ble_eq_true rfl, Nat.le_of_ble_eq_true rfl⟩ hK hP hD hE hS hA 0 wM_at0 rfl rfl hl.1 rfl (Nat.le_of_ble_eq_true rfl) dX9_begins_32 ⟨Nat.le_refl _, Nat.le_refl _⟩) hP hD hS hA (fun u_8 H locs hw_8 hP hD hS => ?_)
      refine lv_aload_n hx hb dX9_begins_35 rfl (lv_at hl 0 rfl) ?_
      obtain ⟨h_9, e_9, hF⟩ := ob1_some hF
      refine gx_callv (gx_runV (As := []) (rest := []) ⟨hx, hb, hml, hown, hts⟩ (c_X9_next l G cI cJ cZ cB cT m0 r h_8  h_9 e_9 H.size) (gG_V m_150 m_151 m_152 m_64 m_149) rfl e_X9_next ⟨Nat.le_of_ble_eq_true rfl, Nat.le_of_ble_eq_true rfl⟩ hK hP hD hE hS hA 0 wM_at0 rfl rfl hl.1 rfl (Nat.le_of_ble_eq_true rfl) dX9_begins_36 ⟨Nat.le_refl _, Nat.le_refl _⟩) hP hD hS hA (fun u_9 H locs hw_9 hP hD hS => ?_)
      refine lv_aload_n hx hb dX9_begins_39 rfl (lv_at hl 0 rfl) ?_
      obtain ⟨h_10, e_10, hF⟩ := ob1_some hF
      refine gx_callv (gx_runV (As := []) (rest := []) ⟨hx, hb, hml, hown, hts⟩ (c_X9_oneIsOver l G cI cJ cZ cB cT m0 r h_9  h_10 e_10 H.size) (gG_V m_186 m_187 m_188 m_64 m_185) rfl e_X9_oneIsOver ⟨Nat.le_of_ble_eq_true rfl, Nat.le_of_ble_eq_true rfl⟩ hK hP hD hE hS hA 0 wM_at0 rfl rfl hl.1 rfl (Nat.le_of_ble_eq_true rfl) dX9_begins_40 ⟨Nat.le_refl _, Nat.le_refl _⟩) hP hD hS hA (fun u_10 H locs hw_10 hP hD hS => ?_)
      refine lv_goto (tgt := 154) hx hb dX9_begins_43 (by decide) ?_
      exact hJ_154 h_10 hF H _ ls hP hD hS (lv_sub hl [] rfl)
    · have hF := ob_neg c_7 hF
      refine lv_aload_n hx hb dX9_begins_18 rfl (lv_at hl 0 rfl) ?_
      refine lv_iconst (v := 2) hx hb dX9_begins_19 (by decide) ?_
      obtain ⟨h_11, e_11, hF⟩ := ob1_some hF
      refine gx_callv (gx_runV (As := [.int 2]) (rest := []) ⟨hx, hb, hml, hown, hts⟩ (c_X9_errs l G cI cJ cZ cB cT m0 r h 2 h_11 e_11 H.size) (gG_V m_154 m_155 m_156 m_64 m_153) rfl e_X9_errs ⟨Nat.le_of_ble_eq_true rfl, Nat.le_of_ble_eq_true rfl⟩ hK hP hD hE hS hA 0 wM_at0 rfl rfl hl.1 rfl (Nat.le_of_ble_eq_true rfl) dX9_begins_20 ⟨Nat.le_refl _, Nat.le_refl _⟩) hP hD hS hA (fun u_11 H locs hw_11 hP hD hS => ?_)
      obtain rfl := ob_one hF
      exact gw_vret () hx hb hr hlocks hP hD hS trivial dX9_begins_23
