def f_X2_readValue_3 (h : HS) : Option HS := (ob2 (f_X7_value h) (fun r_1 h_1 => (if r_1 ≤ 9999 then (ob2 (f_X7_value h_1) (fun r_3 h_3 => (ob1 (f_X6_addStep_3 h_3 r_3) (fun h_4 => (ob1 (f_X7_advance h_4) (fun h_5 => (some h_5))))))) else (ob1 (f_X2_fail h_1 2) (fun h_6 => (some h_6))))))
set_option maxHeartbeats 4000000 in
set_option maxRecDepth 100000 in
theorem c_X2_readValue_3 (l : Launch) (G : va_G) (cI cJ cZ cB cT : ClassId) (q : Nat → Nat) (h : HS)  (hh : HS) (hF : f_X2_readValue_3 h = some hh) : gMv l yX2_readValue (gws yX2_readValue cX2_readValue 3 none) 3 G (gT cI cJ cZ cB cT) [.ref (q 15), .ref (q 11), .ref (q 47)] (wC q cI cJ cZ cB cT h) (fun (_ : Unit) => True) (fun (_ : Unit) => (wC q cI cJ cZ cB cT hh)) := by
  intro sz
  refine gM_start (y := yX2_readValue) (av := [.ref (q 15), .ref (q 11), .ref (q 47)]) (ws := (wC q cI cJ cZ cB cT h)) (Qf := fun A => va_Qv (fun (_ : Unit) => True) (gB G (fun (_ : Unit) => (wC q cI cJ cZ cB cT hh)) A) A) (cc := cX2_readValue) (maxL := 3) (ret := none) (by decide) (Nat.le_of_ble_eq_true rfl) ?_
  intro p e s m args below meth c A ls H hx hb hr hts hown hin hlocks hml hP hK hD hA hS hl hE
  have hl : lv_has ls 3 [(0, .ref (q 15)), (1, .ref (q 11)), (2, .ref (q 47))] := hl
  unfold f_X2_readValue_3 at hF
  refine lv_aload_n hx hb dX2_readValue_0 rfl (lv_at hl 1 rfl) ?_
  obtain ⟨r_1, h_1, e_1, hF⟩ := ob2_some hF
  refine gx_calli (gx_runV (As := []) (rest := []) ⟨hx, hb, hml, hown, hts⟩ (c_X7_value l G cI cJ cZ cB cT q h  r_1 h_1 e_1 H.size) (gG_V m_666 m_667 m_668 m_417 m_665) rfl e_X7_value ⟨Nat.le_of_ble_eq_true rfl, Nat.le_of_ble_eq_true rfl⟩ hK hP hD hE hS hA 11 wC_at11 rfl rfl hl.1 rfl (Nat.le_of_ble_eq_true rfl) dX2_readValue_1 ⟨Nat.le_refl _, Nat.le_refl _⟩) hP hD hS hA (fun x_1 u_1 H locs hw_1 hP hD hS => ?_)
  subst x_1
  refine lv_sipush (v := 9999) hx hb dX2_readValue_4 (by decide) ?_
  refine lv_icmp_le (tgt := 17) hx hb dX2_readValue_7 (by decide) (fun c_2 => ?_) (fun c_2 => ?_)
  · have hF := ob_pos c_2 hF
    refine lv_aload_n hx hb dX2_readValue_17 rfl (lv_at hl 2 rfl) ?_
    refine lv_aload_n hx hb dX2_readValue_18 rfl (lv_at hl 1 rfl) ?_
    obtain ⟨r_3, h_3, e_3, hF⟩ := ob2_some hF
    refine gx_calli (gx_runV (As := []) (rest := [.ref (q 47)]) ⟨hx, hb, hml, hown, hts⟩ (c_X7_value l G cI cJ cZ cB cT q h_1  r_3 h_3 e_3 H.size) (gG_V m_666 m_667 m_668 m_417 m_665) rfl e_X7_value ⟨Nat.le_of_ble_eq_true rfl, Nat.le_of_ble_eq_true rfl⟩ hK hP hD hE hS hA 11 wC_at11 rfl rfl hl.1 rfl (Nat.le_of_ble_eq_true rfl) dX2_readValue_19 ⟨Nat.le_refl _, Nat.le_refl _⟩) hP hD hS hA (fun x_3 u_3 H locs hw_3 hP hD hS => ?_)
    subst x_3
    obtain ⟨h_4, e_4, hF⟩ := ob1_some hF
    refine gx_callv (gx_runV (As := [.int r_3]) (rest := []) ⟨hx, hb, hml, hown, hts⟩ (c_X6_addStep_3 l G cI cJ cZ cB cT q h_3 r_3 h_4 e_4 H.size) (gG_V m_670 m_671 m_672 m_563 m_669) rfl e_X6_addStep ⟨Nat.le_of_ble_eq_true rfl, Nat.le_of_ble_eq_true rfl⟩ hK hP hD hE hS hA 47 wC_at47 rfl rfl hl.1 rfl (Nat.le_of_ble_eq_true rfl) dX2_readValue_22 ⟨Nat.le_refl _, Nat.le_refl _⟩) hP hD hS hA (fun u_4 H locs hw_4 hP hD hS => ?_)
    refine lv_aload_n hx hb dX2_readValue_25 rfl (lv_at hl 1 rfl) ?_
    obtain ⟨h_5, e_5, hF⟩ := ob1_some hF
    refine gx_callv (gx_runV (As := []) (rest := []) ⟨hx, hb, hml, hown, hts⟩ (c_X7_advance l G cI cJ cZ cB cT q h_4  h_5 e_5 H.size) (gG_V m_662 m_663 m_664 m_417 m_661) rfl e_X7_advance ⟨Nat.le_of_ble_eq_true rfl, Nat.le_of_ble_eq_true rfl⟩ hK hP hD hE hS hA 11 wC_at11 rfl rfl hl.1 rfl (Nat.le_of_ble_eq_true rfl) dX2_readValue_26 ⟨Nat.le_refl _, Nat.le_refl _⟩) hP hD hS hA (fun u_5 H locs hw_5 hP hD hS => ?_)
    obtain rfl := ob_one hF
    exact gw_vret () hx hb hr hlocks hP hD hS trivial dX2_readValue_29
  · have hF := ob_neg c_2 hF
    refine lv_aload_n hx hb dX2_readValue_10 rfl (lv_at hl 0 rfl) ?_
    refine lv_aload_n hx hb dX2_readValue_11 rfl (lv_at hl 1 rfl) ?_
    refine lv_iconst (v := 2) hx hb dX2_readValue_12 (by decide) ?_
    obtain ⟨h_6, e_6, hF⟩ := ob1_some hF
    refine gx_callv (gx_runV (As := [.ref (q 11), .int 2]) (rest := []) ⟨hx, hb, hml, hown, hts⟩ (c_X2_fail l G cI cJ cZ cB cT q h_1 2 h_6 e_6 H.size) (gG_V m_657 m_658 m_659 m_660 m_656) rfl e_X2_fail ⟨Nat.le_of_ble_eq_true rfl, Nat.le_of_ble_eq_true rfl⟩ hK hP hD hE hS hA 15 wC_at15 rfl rfl hl.1 rfl (Nat.le_of_ble_eq_true rfl) dX2_readValue_13 ⟨Nat.le_refl _, Nat.le_refl _⟩) hP hD hS hA (fun u_6 H locs hw_6 hP hD hS => ?_)
    obtain rfl := ob_one hF
    exact gw_vret () hx hb hr hlocks hP hD hS trivial dX2_readValue_16
def f_X2_readName_3_31 (h : HS) : Option HS := (ob2 (f_X7_kind h) (fun r_6 h_6 => (ob1 (f_X6_addStep_3 h_6 ((10000 + r_6) - 29)) (fun h_7 => (ob1 (f_X7_advance h_7) (fun h_8 => (some h_8)))))))
def f_X2_readName_3 (h : HS) : Option HS := (ob2 (f_X7_kind h) (fun r_1 h_1 => (if r_1 < 35 then (f_X2_readName_3_31 h_1) else (if (eI h_1 5 2) = 0 then (f_X2_readName_3_31 h_1) else (if (eI h_1 5 2) = 1 then (f_X2_readName_3_31 h_1) else (ob1 (f_X2_fail h_1 5) (fun h_5 => (some h_5))))))))
set_option maxHeartbeats 4000000 in
set_option maxRecDepth 100000 in
theorem c_X2_readName_3 (l : Launch) (G : va_G) (cI cJ cZ cB cT : ClassId) (q : Nat → Nat) (h : HS)  (hh : HS) (hF : f_X2_readName_3 h = some hh) : gMv l yX2_readName (gws yX2_readName cX2_readName 3 none) 3 G (gT cI cJ cZ cB cT) [.ref (q 15), .ref (q 11), .ref (q 47)] (wC q cI cJ cZ cB cT h) (fun (_ : Unit) => True) (fun (_ : Unit) => (wC q cI cJ cZ cB cT hh)) := by
  intro sz
  refine gM_start (y := yX2_readName) (av := [.ref (q 15), .ref (q 11), .ref (q 47)]) (ws := (wC q cI cJ cZ cB cT h)) (Qf := fun A => va_Qv (fun (_ : Unit) => True) (gB G (fun (_ : Unit) => (wC q cI cJ cZ cB cT hh)) A) A) (cc := cX2_readName) (maxL := 3) (ret := none) (by decide) (Nat.le_of_ble_eq_true rfl) ?_
  intro p e s m args below meth c A ls H hx hb hr hts hown hin hlocks hml hP hK hD hA hS hl hE
  have hl : lv_has ls 3 [(0, .ref (q 15)), (1, .ref (q 11)), (2, .ref (q 47))] := hl
  have hJ_31 : ∀ (h : HS), f_X2_readName_3_31 h = some hh → ∀ (H : Heap) (locs : List Loc) (ls : Array Slot), va_P G vwCl (wC q cI cJ cZ cB cT h) H → va_D A (wC q cI cJ cZ cB cT h) → va_S A s.heap H locs → lv_has ls 3 [(1, .ref (q 11)), (2, .ref (q 47))] → W p l e (gRm 3) s m args below meth c H locs 0 0 (MQ below (va_Qv (fun (_ : Unit) => True) (gB G (fun (_ : Unit) => (wC q cI cJ cZ cB cT hh)) A) A) args s 0 0 A) (F0 m 31 ls []) := by
    intro h hF H locs ls hP hD hS hl
    unfold f_X2_readName_3_31 at hF
    refine lv_aload_n hx hb dX2_readName_31 rfl (lv_at hl 1 rfl) ?_
    refine lv_sipush (v := 10000) hx hb dX2_readName_32 (by decide) ?_
    refine lv_aload_n hx hb dX2_readName_35 rfl (lv_at hl 0 rfl) ?_
    obtain ⟨r_6, h_6, e_6, hF⟩ := ob2_some hF
    refine gx_calli (gx_runV (As := []) (rest := [.int 10000, .ref (q 47)]) ⟨hx, hb, hml, hown, hts⟩ (c_X7_kind l G cI cJ cZ cB cT q h  r_6 h_6 e_6 H.size) (gG_V m_653 m_654 m_655 m_417 m_652) rfl e_X7_kind ⟨Nat.le_of_ble_eq_true rfl, Nat.le_of_ble_eq_true rfl⟩ hK hP hD hE hS hA 11 wC_at11 rfl rfl hl.1 rfl (Nat.le_of_ble_eq_true rfl) dX2_readName_36 ⟨Nat.le_refl _, Nat.le_refl _⟩) hP hD hS hA (fun x_6 u_6 H locs hw_6 hP hD hS => ?_)
    subst x_6
    refine lv_iadd hx hb dX2_readName_39 ?_
    refine lv_bipush (v := 29) hx hb dX2_readName_40 (by decide) ?_
    refine lv_isub hx hb dX2_readName_42 ?_
    obtain ⟨h_7, e_7, hF⟩ := ob1_some hF
    refine gx_callv (gx_runV (As := [.int ((10000 + r_6) - 29)]) (rest := []) ⟨hx, hb, hml, hown, hts⟩ (c_X6_addStep_3 l G cI cJ cZ cB cT q h_6 ((10000 + r_6) - 29) h_7 e_7 H.size) (gG_V m_670 m_671 m_672 m_563 m_669) rfl e_X6_addStep ⟨Nat.le_of_ble_eq_true rfl, Nat.le_of_ble_eq_true rfl⟩ hK hP hD hE hS hA 47 wC_at47 rfl rfl hl.1 rfl (Nat.le_of_ble_eq_true rfl) dX2_readName_43 ⟨Nat.le_refl _, Nat.le_refl _⟩) hP hD hS hA (fun u_7 H locs hw_7 hP hD hS => ?_)
    refine lv_aload_n hx hb dX2_readName_46 rfl (lv_at hl 0 rfl) ?_
    obtain ⟨h_8, e_8, hF⟩ := ob1_some hF
    refine gx_callv (gx_runV (As := []) (rest := []) ⟨hx, hb, hml, hown, hts⟩ (c_X7_advance l G cI cJ cZ cB cT q h_7  h_8 e_8 H.size) (gG_V m_662 m_663 m_664 m_417 m_661) rfl e_X7_advance ⟨Nat.le_of_ble_eq_true rfl, Nat.le_of_ble_eq_true rfl⟩ hK hP hD hE hS hA 11 wC_at11 rfl rfl hl.1 rfl (Nat.le_of_ble_eq_true rfl) dX2_readName_47 ⟨Nat.le_refl _, Nat.le_refl _⟩) hP hD hS hA (fun u_8 H locs hw_8 hP hD hS => ?_)
    obtain rfl := ob_one hF
    exact gw_vret () hx hb hr hlocks hP hD hS trivial dX2_readName_50
  unfold f_X2_readName_3 at hF
  refine lv_aload_n hx hb dX2_readName_0 rfl (lv_at hl 1 rfl) ?_
  obtain ⟨r_1, h_1, e_1, hF⟩ := ob2_some hF
  refine gx_calli (gx_runV (As := []) (rest := []) ⟨hx, hb, hml, hown, hts⟩ (c_X7_kind l G cI cJ cZ cB cT q h  r_1 h_1 e_1 H.size) (gG_V m_653 m_654 m_655 m_417 m_652) rfl e_X7_kind ⟨Nat.le_of_ble_eq_true rfl, Nat.le_of_ble_eq_true rfl⟩ hK hP hD hE hS hA 11 wC_at11 rfl rfl hl.1 rfl (Nat.le_of_ble_eq_true rfl) dX2_readName_1 ⟨Nat.le_refl _, Nat.le_refl _⟩) hP hD hS hA (fun x_1 u_1 H locs hw_1 hP hD hS => ?_)
  subst x_1
  refine lv_bipush (v := 35) hx hb dX2_readName_4 (by decide) ?_
  refine lv_icmp_lt (tgt := 31) hx hb dX2_readName_6 (by decide) (fun c_2 => ?_) (fun c_2 => ?_)
  · have hF := ob_pos c_2 hF
    exact hJ_31 h_1 hF H _ ls hP hD hS (lv_sub hl [1, 2] rfl)
  · have hF := ob_neg c_2 hF
    refine lv_aload_n hx hb dX2_readName_9 rfl (lv_at hl 0 rfl) ?_
    refine va_get (D := G) (ci := 2) (v := .int (eI h_1 5 2)) (C := RX2) (T := TX2) (N := 3) hx hb hts iX2 hown hK hP 15 wC_at15 rfl 2 (by decide) (hts _ m_673) (fun _ h9 => h9) rfl dX2_readName_10 ?_
    refine lv_if_eq (tgt := 31) hx hb dX2_readName_13 (by decide) (fun c_3 => ?_) (fun c_3 => ?_)
    · have hF := ob_pos c_3 hF
      exact hJ_31 h_1 hF H _ ls hP hD hS (lv_sub hl [1, 2] rfl)
    · have hF := ob_neg c_3 hF
      refine lv_aload_n hx hb dX2_readName_16 rfl (lv_at hl 0 rfl) ?_
      refine va_get (D := G) (ci := 2) (v := .int (eI h_1 5 2)) (C := RX2) (T := TX2) (N := 3) hx hb hts iX2 hown hK hP 15 wC_at15 rfl 2 (by decide) (hts _ m_673) (fun _ h9 => h9) rfl dX2_readName_17 ?_
      refine lv_iconst (v := 1) hx hb dX2_readName_20 (by decide) ?_
      refine lv_icmp_eq (tgt := 31) hx hb dX2_readName_21 (by decide) (fun c_4 => ?_) (fun c_4 => ?_)
      · have hF := ob_pos c_4 hF
        exact hJ_31 h_1 hF H _ ls hP hD hS (lv_sub hl [1, 2] rfl)
      · have hF := ob_neg c_4 hF
        refine lv_aload_n hx hb dX2_readName_24 rfl (lv_at hl 0 rfl) ?_
        refine lv_aload_n hx hb dX2_readName_25 rfl (lv_at hl 1 rfl) ?_
        refine lv_iconst (v := 5) hx hb dX2_readName_26 (by decide) ?_
        obtain ⟨h_5, e_5, hF⟩ := ob1_some hF
        refine gx_callv (gx_runV (As := [.ref (q 11), .int 5]) (rest := []) ⟨hx, hb, hml, hown, hts⟩ (c_X2_fail l G cI cJ cZ cB cT q h_1 5 h_5 e_5 H.size) (gG_V m_657 m_658 m_659 m_660 m_656) rfl e_X2_fail ⟨Nat.le_of_ble_eq_true rfl, Nat.le_of_ble_eq_true rfl⟩ hK hP hD hE hS hA 15 wC_at15 rfl rfl hl.1 rfl (Nat.le_of_ble_eq_true rfl) dX2_readName_27 ⟨Nat.le_refl _, Nat.le_refl _⟩) hP hD hS hA (fun u_5 H locs hw_5 hP hD hS => ?_)
        obtain rfl := ob_one hF
        exact gw_vret () hx hb hr hlocks hP hD hS trivial dX2_readName_30
def f_X2_readNumber_3_69 (h : HS) : Option HS := (some h)
def f_X2_readNumber_3_43 (h : HS) : Option HS := (ob1 (f_X2_fail h 2) (fun h_12 => (f_X2_readNumber_3_69 h_12)))
def f_X2_readNumber_3 (h : HS) (p1 : Int32) (p2 : Int32) (p3 : Int32) : Option HS := (if (eI h 5 0) = 0 then (ob2 (f_X7_kind h) (fun r_2 h_2 => (if r_2 = 2 then (ob2 (f_X7_value h_2) (fun r_4 h_4 => (if r_4 < p2 then (f_X2_readNumber_3_43 h_4) else (ob2 (f_X7_value h_4) (fun r_6 h_6 => (if r_6 ≤ p3 then (ob2 (f_X7_value h_6) (fun r_8 h_8 => (ob1 (f_X6_setClause_3 h_8 (eI h_6 12 1) p1 r_8) (fun h_9 => (ob1 (f_X7_advance h_9) (fun h_10 => (f_X2_readNumber_3_69 h_10))))))) else (f_X2_readNumber_3_43 h_6))))))) else (ob1 (f_X2_fail h_2 1) (fun h_11 => (f_X2_readNumber_3_69 h_11)))))) else (some h))
set_option maxHeartbeats 4000000 in
set_option maxRecDepth 100000 in
theorem c_X2_readNumber_3 (l : Launch) (G : va_G) (cI cJ cZ cB cT : ClassId) (q : Nat → Nat) (h : HS) (p1 : Int32) (p2 : Int32) (p3 : Int32) (hh : HS) (hF : f_X2_readNumber_3 h p1 p2 p3 = some hh) : gMv l yX2_readNumber (gws yX2_readNumber cX2_readNumber 6 none) 3 G (gT cI cJ cZ cB cT) [.ref (q 15), .ref (q 11), .ref (q 47), .int p1, .int p2, .int p3] (wC q cI cJ cZ cB cT h) (fun (_ : Unit) => True) (fun (_ : Unit) => (wC q cI cJ cZ cB cT hh)) := by
  intro sz
  refine gM_start (y := yX2_readNumber) (av := [.ref (q 15), .ref (q 11), .ref (q 47), .int p1, .int p2, .int p3]) (ws := (wC q cI cJ cZ cB cT h)) (Qf := fun A => va_Qv (fun (_ : Unit) => True) (gB G (fun (_ : Unit) => (wC q cI cJ cZ cB cT hh)) A) A) (cc := cX2_readNumber) (maxL := 6) (ret := none) (by decide) (Nat.le_of_ble_eq_true rfl) ?_
  intro p e s m args below meth c A ls H hx hb hr hts hown hin hlocks hml hP hK hD hA hS hl hE
  have hl : lv_has ls 6 [(0, .ref (q 15)), (1, .ref (q 11)), (2, .ref (q 47)), (3, .int p1), (4, .int p2), (5, .int p3)] := hl
  have hJ_69 : ∀ (h : HS), f_X2_readNumber_3_69 h = some hh → ∀ (H : Heap) (locs : List Loc) (ls : Array Slot), va_P G vwCl (wC q cI cJ cZ cB cT h) H → va_D A (wC q cI cJ cZ cB cT h) → va_S A s.heap H locs → lv_has ls 6 [] → W p l e (gRm 3) s m args below meth c H locs 0 0 (MQ below (va_Qv (fun (_ : Unit) => True) (gB G (fun (_ : Unit) => (wC q cI cJ cZ cB cT hh)) A) A) args s 0 0 A) (F0 m 69 ls []) := by
    intro h hF H locs ls hP hD hS hl
    unfold f_X2_readNumber_3_69 at hF
    obtain rfl := ob_one hF
    exact gw_vret () hx hb hr hlocks hP hD hS trivial dX2_readNumber_69
  have hJ_43 : ∀ (h : HS), f_X2_readNumber_3_43 h = some hh → ∀ (H : Heap) (locs : List Loc) (ls : Array Slot), va_P G vwCl (wC q cI cJ cZ cB cT h) H → va_D A (wC q cI cJ cZ cB cT h) → va_S A s.heap H locs → lv_has ls 6 [(0, .ref (q 15)), (1, .ref (q 11))] → W p l e (gRm 3) s m args below meth c H locs 0 0 (MQ below (va_Qv (fun (_ : Unit) => True) (gB G (fun (_ : Unit) => (wC q cI cJ cZ cB cT hh)) A) A) args s 0 0 A) (F0 m 43 ls []) := by
    intro h hF H locs ls hP hD hS hl
    unfold f_X2_readNumber_3_43 at hF
    refine lv_aload_n hx hb dX2_readNumber_43 rfl (lv_at hl 0 rfl) ?_
    refine lv_aload_n hx hb dX2_readNumber_44 rfl (lv_at hl 1 rfl) ?_
    refine lv_iconst (v := 2) hx hb dX2_readNumber_45 (by decide) ?_
    obtain ⟨h_12, e_12, hF⟩ := ob1_some hF
    refine gx_callv (gx_runV (As := [.ref (q 11), .int 2]) (rest := []) ⟨hx, hb, hml, hown, hts⟩ (c_X2_fail l G cI cJ cZ cB cT q h 2 h_12 e_12 H.size) (gG_V m_657 m_658 m_659 m_660 m_656) rfl e_X2_fail ⟨Nat.le_of_ble_eq_true rfl, Nat.le_of_ble_eq_true rfl⟩ hK hP hD hE hS hA 15 wC_at15 rfl rfl hl.1 rfl (Nat.le_of_ble_eq_true rfl) dX2_readNumber_46 ⟨Nat.le_refl _, Nat.le_refl _⟩) hP hD hS hA (fun u_12 H locs hw_12 hP hD hS => ?_)
    refine lv_goto (tgt := 69) hx hb dX2_readNumber_49 (by decide) ?_
    exact hJ_69 h_12 hF H _ ls hP hD hS (lv_sub hl [] rfl)
  unfold f_X2_readNumber_3 at hF
  refine lv_aload_n hx hb dX2_readNumber_0 rfl (lv_at hl 0 rfl) ?_
  refine va_get (D := G) (ci := 2) (v := .int (eI h 5 0)) (C := RX2) (T := TX2) (N := 3) hx hb hts iX2 hown hK hP 15 wC_at15 rfl 0 (by decide) (hts _ m_646) (fun _ h9 => h9) rfl dX2_readNumber_1 ?_
  refine lv_if_eq (tgt := 8) hx hb dX2_readNumber_4 (by decide) (fun c_1 => ?_) (fun c_1 => ?_)
  · have hF := ob_pos c_1 hF
    refine lv_aload_n hx hb dX2_readNumber_8 rfl (lv_at hl 1 rfl) ?_
    obtain ⟨r_2, h_2, e_2, hF⟩ := ob2_some hF
    refine gx_calli (gx_runV (As := []) (rest := []) ⟨hx, hb, hml, hown, hts⟩ (c_X7_kind l G cI cJ cZ cB cT q h  r_2 h_2 e_2 H.size) (gG_V m_653 m_654 m_655 m_417 m_652) rfl e_X7_kind ⟨Nat.le_of_ble_eq_true rfl, Nat.le_of_ble_eq_true rfl⟩ hK hP hD hE hS hA 11 wC_at11 rfl rfl hl.1 rfl (Nat.le_of_ble_eq_true rfl) dX2_readNumber_9 ⟨Nat.le_refl _, Nat.le_refl _⟩) hP hD hS hA (fun x_2 u_2 H locs hw_2 hP hD hS => ?_)
    subst x_2
    refine lv_iconst (v := 2) hx hb dX2_readNumber_12 (by decide) ?_
    refine lv_icmp_eq (tgt := 25) hx hb dX2_readNumber_13 (by decide) (fun c_3 => ?_) (fun c_3 => ?_)
    · have hF := ob_pos c_3 hF
      refine lv_aload_n hx hb dX2_readNumber_25 rfl (lv_at hl 1 rfl) ?_
      obtain ⟨r_4, h_4, e_4, hF⟩ := ob2_some hF
      refine gx_calli (gx_runV (As := []) (rest := []) ⟨hx, hb, hml, hown, hts⟩ (c_X7_value l G cI cJ cZ cB cT q h_2  r_4 h_4 e_4 H.size) (gG_V m_666 m_667 m_668 m_417 m_665) rfl e_X7_value ⟨Nat.le_of_ble_eq_true rfl, Nat.le_of_ble_eq_true rfl⟩ hK hP hD hE hS hA 11 wC_at11 rfl rfl hl.1 rfl (Nat.le_of_ble_eq_true rfl) dX2_readNumber_26 ⟨Nat.le_refl _, Nat.le_refl _⟩) hP hD hS hA (fun x_4 u_4 H locs hw_4 hP hD hS => ?_)
      subst x_4
      refine lv_iload hx hb dX2_readNumber_29 (lv_at hl 4 rfl) ?_
      refine lv_icmp_lt (tgt := 43) hx hb dX2_readNumber_31 (by decide) (fun c_5 => ?_) (fun c_5 => ?_)
      · have hF := ob_pos c_5 hF
        exact hJ_43 h_4 hF H _ ls hP hD hS (lv_sub hl [0, 1] rfl)
      · have hF := ob_neg c_5 hF
        refine lv_aload_n hx hb dX2_readNumber_34 rfl (lv_at hl 1 rfl) ?_
        obtain ⟨r_6, h_6, e_6, hF⟩ := ob2_some hF
        refine gx_calli (gx_runV (As := []) (rest := []) ⟨hx, hb, hml, hown, hts⟩ (c_X7_value l G cI cJ cZ cB cT q h_4  r_6 h_6 e_6 H.size) (gG_V m_666 m_667 m_668 m_417 m_665) rfl e_X7_value ⟨Nat.le_of_ble_eq_true rfl, Nat.le_of_ble_eq_true rfl⟩ hK hP hD hE hS hA 11 wC_at11 rfl rfl hl.1 rfl (Nat.le_of_ble_eq_true rfl) dX2_readNumber_35 ⟨Nat.le_refl _, Nat.le_refl _⟩) hP hD hS hA (fun x_6 u_6 H locs hw_6 hP hD hS => ?_)
        subst x_6
        refine lv_iload hx hb dX2_readNumber_38 (lv_at hl 5 rfl) ?_
        refine lv_icmp_le (tgt := 52) hx hb dX2_readNumber_40 (by decide) (fun c_7 => ?_) (fun c_7 => ?_)
        · have hF := ob_pos c_7 hF
          refine lv_aload_n hx hb dX2_readNumber_52 rfl (lv_at hl 2 rfl) ?_
          refine lv_aload_n hx hb dX2_readNumber_53 rfl (lv_at hl 2 rfl) ?_
          refine va_get (D := G) (ci := 6) (v := .int (eI h_6 12 1)) (C := RX6) (T := TX6) (N := 6) hx hb hts iX6 hown hK hP 47 wC_at47 rfl 1 (by decide) (hts _ m_674) (fun _ h9 => h9) rfl dX2_readNumber_54 ?_
          refine lv_iload_n hx hb dX2_readNumber_57 rfl (lv_at hl 3 rfl) ?_
          refine lv_aload_n hx hb dX2_readNumber_58 rfl (lv_at hl 1 rfl) ?_
          obtain ⟨r_8, h_8, e_8, hF⟩ := ob2_some hF
          refine gx_calli (gx_runV (As := []) (rest := [.int p1, .int (eI h_6 12 1), .ref (q 47)]) ⟨hx, hb, hml, hown, hts⟩ (c_X7_value l G cI cJ cZ cB cT q h_6  r_8 h_8 e_8 H.size) (gG_V m_666 m_667 m_668 m_417 m_665) rfl e_X7_value ⟨Nat.le_of_ble_eq_true rfl, Nat.le_of_ble_eq_true rfl⟩ hK hP hD hE hS hA 11 wC_at11 rfl rfl hl.1 rfl (Nat.le_of_ble_eq_true rfl) dX2_readNumber_59 ⟨Nat.le_refl _, Nat.le_refl _⟩) hP hD hS hA (fun x_8 u_8 H locs hw_8 hP hD hS => ?_)
          subst x_8
          obtain ⟨h_9, e_9, hF⟩ := ob1_some hF
          refine gx_callv (gx_runV (As := [.int (eI h_6 12 1), .int p1, .int r_8]) (rest := []) ⟨hx, hb, hml, hown, hts⟩ (c_X6_setClause_3 l G cI cJ cZ cB cT q h_8 (eI h_6 12 1) p1 r_8 h_9 e_9 H.size) (gG_V m_676 m_677 m_678 m_563 m_675) rfl e_X6_setClause ⟨Nat.le_of_ble_eq_true rfl, Nat.le_of_ble_eq_true rfl⟩ hK hP hD hE hS hA 47 wC_at47 rfl rfl hl.1 rfl (Nat.le_of_ble_eq_true rfl) dX2_readNumber_62 ⟨Nat.le_refl _, Nat.le_refl _⟩) hP hD hS hA (fun u_9 H locs hw_9 hP hD hS => ?_)
          refine lv_aload_n hx hb dX2_readNumber_65 rfl (lv_at hl 1 rfl) ?_
          obtain ⟨h_10, e_10, hF⟩ := ob1_some hF
          refine gx_callv (gx_runV (As := []) (rest := []) ⟨hx, hb, hml, hown, hts⟩ (c_X7_advance l G cI cJ cZ cB cT q h_9  h_10 e_10 H.size) (gG_V m_662 m_663 m_664 m_417 m_661) rfl e_X7_advance ⟨Nat.le_of_ble_eq_true rfl, Nat.le_of_ble_eq_true rfl⟩ hK hP hD hE hS hA 11 wC_at11 rfl rfl hl.1 rfl (Nat.le_of_ble_eq_true rfl) dX2_readNumber_66 ⟨Nat.le_refl _, Nat.le_refl _⟩) hP hD hS hA (fun u_10 H locs hw_10 hP hD hS => ?_)
          exact hJ_69 h_10 hF H _ ls hP hD hS (lv_sub hl [] rfl)
        · have hF := ob_neg c_7 hF
          exact hJ_43 h_6 hF H _ ls hP hD hS (lv_sub hl [0, 1] rfl)
    · have hF := ob_neg c_3 hF
      refine lv_aload_n hx hb dX2_readNumber_16 rfl (lv_at hl 0 rfl) ?_
      refine lv_aload_n hx hb dX2_readNumber_17 rfl (lv_at hl 1 rfl) ?_
      refine lv_iconst (v := 1) hx hb dX2_readNumber_18 (by decide) ?_
      obtain ⟨h_11, e_11, hF⟩ := ob1_some hF
      refine gx_callv (gx_runV (As := [.ref (q 11), .int 1]) (rest := []) ⟨hx, hb, hml, hown, hts⟩ (c_X2_fail l G cI cJ cZ cB cT q h_2 1 h_11 e_11 H.size) (gG_V m_657 m_658 m_659 m_660 m_656) rfl e_X2_fail ⟨Nat.le_of_ble_eq_true rfl, Nat.le_of_ble_eq_true rfl⟩ hK hP hD hE hS hA 15 wC_at15 rfl rfl hl.1 rfl (Nat.le_of_ble_eq_true rfl) dX2_readNumber_19 ⟨Nat.le_refl _, Nat.le_refl _⟩) hP hD hS hA (fun u_11 H locs hw_11 hP hD hS => ?_)
      refine lv_goto (tgt := 69) hx hb dX2_readNumber_22 (by decide) ?_
      exact hJ_69 h_11 hF H _ ls hP hD hS (lv_sub hl [] rfl)
  · have hF := ob_neg c_1 hF
    obtain rfl := ob_one hF
    exact gw_vret () hx hb hr hlocks hP hD hS trivial dX2_readNumber_7
def f_X2_readDeed_3_90 (h : HS) : Option HS := (some h)
def f_X2_readDeed_3 (h : HS) (p1 : Int32) : Option HS := (if p1 = 23 then (ob1 (f_X2_readNumber_3 h 1 1 99) (fun h_11 => (some h_11))) else (ob1 (f_X2_readNumber_3 h 1 0 9) (fun h_2 => (if p1 = 20 then (ob1 (f_X2_expect h_2 24) (fun h_7 => (ob1 (f_X2_readNumber_3 h_7 2 0 5) (fun h_8 => (ob1 (f_X2_expect h_8 33) (fun h_9 => (ob1 (f_X2_readNumber_3 h_9 3 0 2) (fun h_10 => (f_X2_readDeed_3_90 h_10))))))))) else (if p1 = 21 then (ob1 (f_X2_expect h_2 25) (fun h_5 => (ob1 (f_X2_readNumber_3 h_5 2 0 3) (fun h_6 => (f_X2_readDeed_3_90 h_6))))) else (f_X2_readDeed_3_90 h_2))))))
set_option maxHeartbeats 4000000 in
set_option maxRecDepth 100000 in
theorem c_X2_readDeed_3 (l : Launch) (G : va_G) (cI cJ cZ cB cT : ClassId) (q : Nat → Nat) (h : HS) (p1 : Int32) (hh : HS) (hF : f_X2_readDeed_3 h p1 = some hh) : gMv l yX2_readDeed (gws yX2_readDeed cX2_readDeed 4 none) 4 G (gT cI cJ cZ cB cT) [.ref (q 15), .ref (q 11), .ref (q 47), .int p1] (wC q cI cJ cZ cB cT h) (fun (_ : Unit) => True) (fun (_ : Unit) => (wC q cI cJ cZ cB cT hh)) := by
  intro sz
  refine gM_start (y := yX2_readDeed) (av := [.ref (q 15), .ref (q 11), .ref (q 47), .int p1]) (ws := (wC q cI cJ cZ cB cT h)) (Qf := fun A => va_Qv (fun (_ : Unit) => True) (gB G (fun (_ : Unit) => (wC q cI cJ cZ cB cT hh)) A) A) (cc := cX2_readDeed) (maxL := 4) (ret := none) (by decide) (Nat.le_of_ble_eq_true rfl) ?_
  intro p e s m args below meth c A ls H hx hb hr hts hown hin hlocks hml hP hK hD hA hS hl hE
  have hl : lv_has ls 4 [(0, .ref (q 15)), (1, .ref (q 11)), (2, .ref (q 47)), (3, .int p1)] := hl
  have hJ_90 : ∀ (h : HS), f_X2_readDeed_3_90 h = some hh → ∀ (H : Heap) (locs : List Loc) (ls : Array Slot), va_P G vwCl (wC q cI cJ cZ cB cT h) H → va_D A (wC q cI cJ cZ cB cT h) → va_S A s.heap H locs → lv_has ls 4 [] → W p l e (gRm 4) s m args below meth c H locs 0 0 (MQ below (va_Qv (fun (_ : Unit) => True) (gB G (fun (_ : Unit) => (wC q cI cJ cZ cB cT hh)) A) A) args s 0 0 A) (F0 m 90 ls []) := by
    intro h hF H locs ls hP hD hS hl
    unfold f_X2_readDeed_3_90 at hF
    obtain rfl := ob_one hF
    exact gw_vret () hx hb hr hlocks hP hD hS trivial dX2_readDeed_90
  unfold f_X2_readDeed_3 at hF
  refine lv_iload_n hx hb dX2_readDeed_0 rfl (lv_at hl 3 rfl) ?_
  refine lv_bipush (v := 23) hx hb dX2_readDeed_1 (by decide) ?_
  refine lv_icmp_ne (tgt := 17) hx hb dX2_readDeed_3 (by decide) (fun c_1 => ?_) (fun c_1 => ?_)
  · have hF := ob_neg c_1 hF
    refine lv_aload_n hx hb dX2_readDeed_17 rfl (lv_at hl 0 rfl) ?_
    refine lv_aload_n hx hb dX2_readDeed_18 rfl (lv_at hl 1 rfl) ?_
    refine lv_aload_n hx hb dX2_readDeed_19 rfl (lv_at hl 2 rfl) ?_
    refine lv_iconst (v := 1) hx hb dX2_readDeed_20 (by decide) ?_
    refine lv_iconst (v := 0) hx hb dX2_readDeed_21 (by decide) ?_
    refine lv_bipush (v := 9) hx hb dX2_readDeed_22 (by decide) ?_
    obtain ⟨h_2, e_2, hF⟩ := ob1_some hF
    refine gx_callv (gx_runV (As := [.ref (q 11), .ref (q 47), .int 1, .int 0, .int 9]) (rest := []) ⟨hx, hb, hml, hown, hts⟩ (c_X2_readNumber_3 l G cI cJ cZ cB cT q h 1 0 9 h_2 e_2 H.size) (gG_V m_680 m_681 m_682 m_660 m_679) rfl e_X2_readNumber ⟨Nat.le_of_ble_eq_true rfl, Nat.le_of_ble_eq_true rfl⟩ hK hP hD hE hS hA 15 wC_at15 rfl rfl hl.1 rfl (Nat.le_of_ble_eq_true rfl) dX2_readDeed_24 ⟨Nat.le_refl _, Nat.le_refl _⟩) hP hD hS hA (fun u_2 H locs hw_2 hP hD hS => ?_)
    refine lv_iload_n hx hb dX2_readDeed_27 rfl (lv_at hl 3 rfl) ?_
    refine lv_bipush (v := 20) hx hb dX2_readDeed_28 (by decide) ?_
    refine lv_icmp_ne (tgt := 68) hx hb dX2_readDeed_30 (by decide) (fun c_3 => ?_) (fun c_3 => ?_)
    · have hF := ob_neg c_3 hF
      refine lv_iload_n hx hb dX2_readDeed_68 rfl (lv_at hl 3 rfl) ?_
      refine lv_bipush (v := 21) hx hb dX2_readDeed_69 (by decide) ?_
      refine lv_icmp_ne (tgt := 90) hx hb dX2_readDeed_71 (by decide) (fun c_4 => ?_) (fun c_4 => ?_)
      · have hF := ob_neg c_4 hF
        exact hJ_90 h_2 hF H _ ls hP hD hS (lv_sub hl [] rfl)
      · have hF := ob_pos c_4 hF
        refine lv_aload_n hx hb dX2_readDeed_74 rfl (lv_at hl 0 rfl) ?_
        refine lv_aload_n hx hb dX2_readDeed_75 rfl (lv_at hl 1 rfl) ?_
        refine lv_bipush (v := 25) hx hb dX2_readDeed_76 (by decide) ?_
        obtain ⟨h_5, e_5, hF⟩ := ob1_some hF
        refine gx_callv (gx_runV (As := [.ref (q 11), .int 25]) (rest := []) ⟨hx, hb, hml, hown, hts⟩ (c_X2_expect l G cI cJ cZ cB cT q h_2 25 h_5 e_5 H.size) (gG_V m_684 m_685 m_686 m_660 m_683) rfl e_X2_expect ⟨Nat.le_of_ble_eq_true rfl, Nat.le_of_ble_eq_true rfl⟩ hK hP hD hE hS hA 15 wC_at15 rfl rfl hl.1 rfl (Nat.le_of_ble_eq_true rfl) dX2_readDeed_78 ⟨Nat.le_refl _, Nat.le_refl _⟩) hP hD hS hA (fun u_5 H locs hw_5 hP hD hS => ?_)
        refine lv_aload_n hx hb dX2_readDeed_81 rfl (lv_at hl 0 rfl) ?_
        refine lv_aload_n hx hb dX2_readDeed_82 rfl (lv_at hl 1 rfl) ?_
        refine lv_aload_n hx hb dX2_readDeed_83 rfl (lv_at hl 2 rfl) ?_
        refine lv_iconst (v := 2) hx hb dX2_readDeed_84 (by decide) ?_
        refine lv_iconst (v := 0) hx hb dX2_readDeed_85 (by decide) ?_
        refine lv_iconst (v := 3) hx hb dX2_readDeed_86 (by decide) ?_
        obtain ⟨h_6, e_6, hF⟩ := ob1_some hF
        refine gx_callv (gx_runV (As := [.ref (q 11), .ref (q 47), .int 2, .int 0, .int 3]) (rest := []) ⟨hx, hb, hml, hown, hts⟩ (c_X2_readNumber_3 l G cI cJ cZ cB cT q h_5 2 0 3 h_6 e_6 H.size) (gG_V m_680 m_681 m_682 m_660 m_679) rfl e_X2_readNumber ⟨Nat.le_of_ble_eq_true rfl, Nat.le_of_ble_eq_true rfl⟩ hK hP hD hE hS hA 15 wC_at15 rfl rfl hl.1 rfl (Nat.le_of_ble_eq_true rfl) dX2_readDeed_87 ⟨Nat.le_refl _, Nat.le_refl _⟩) hP hD hS hA (fun u_6 H locs hw_6 hP hD hS => ?_)
        exact hJ_90 h_6 hF H _ ls hP hD hS (lv_sub hl [] rfl)
    · have hF := ob_pos c_3 hF
      refine lv_aload_n hx hb dX2_readDeed_33 rfl (lv_at hl 0 rfl) ?_
      refine lv_aload_n hx hb dX2_readDeed_34 rfl (lv_at hl 1 rfl) ?_
      refine lv_bipush (v := 24) hx hb dX2_readDeed_35 (by decide) ?_
      obtain ⟨h_7, e_7, hF⟩ := ob1_some hF
      refine gx_callv (gx_runV (As := [.ref (q 11), .int 24]) (rest := []) ⟨hx, hb, hml, hown, hts⟩ (c_X2_expect l G cI cJ cZ cB cT q h_2 24 h_7 e_7 H.size) (gG_V m_684 m_685 m_686 m_660 m_683) rfl e_X2_expect ⟨Nat.le_of_ble_eq_true rfl, Nat.le_of_ble_eq_true rfl⟩ hK hP hD hE hS hA 15 wC_at15 rfl rfl hl.1 rfl (Nat.le_of_ble_eq_true rfl) dX2_readDeed_37 ⟨Nat.le_refl _, Nat.le_refl _⟩) hP hD hS hA (fun u_7 H locs hw_7 hP hD hS => ?_)
      refine lv_aload_n hx hb dX2_readDeed_40 rfl (lv_at hl 0 rfl) ?_
      refine lv_aload_n hx hb dX2_readDeed_41 rfl (lv_at hl 1 rfl) ?_
      refine lv_aload_n hx hb dX2_readDeed_42 rfl (lv_at hl 2 rfl) ?_
      refine lv_iconst (v := 2) hx hb dX2_readDeed_43 (by decide) ?_
      refine lv_iconst (v := 0) hx hb dX2_readDeed_44 (by decide) ?_
      refine lv_iconst (v := 5) hx hb dX2_readDeed_45 (by decide) ?_
      obtain ⟨h_8, e_8, hF⟩ := ob1_some hF
      refine gx_callv (gx_runV (As := [.ref (q 11), .ref (q 47), .int 2, .int 0, .int 5]) (rest := []) ⟨hx, hb, hml, hown, hts⟩ (c_X2_readNumber_3 l G cI cJ cZ cB cT q h_7 2 0 5 h_8 e_8 H.size) (gG_V m_680 m_681 m_682 m_660 m_679) rfl e_X2_readNumber ⟨Nat.le_of_ble_eq_true rfl, Nat.le_of_ble_eq_true rfl⟩ hK hP hD hE hS hA 15 wC_at15 rfl rfl hl.1 rfl (Nat.le_of_ble_eq_true rfl) dX2_readDeed_46 ⟨Nat.le_refl _, Nat.le_refl _⟩) hP hD hS hA (fun u_8 H locs hw_8 hP hD hS => ?_)
      refine lv_aload_n hx hb dX2_readDeed_49 rfl (lv_at hl 0 rfl) ?_
      refine lv_aload_n hx hb dX2_readDeed_50 rfl (lv_at hl 1 rfl) ?_
      refine lv_bipush (v := 33) hx hb dX2_readDeed_51 (by decide) ?_
      obtain ⟨h_9, e_9, hF⟩ := ob1_some hF
      refine gx_callv (gx_runV (As := [.ref (q 11), .int 33]) (rest := []) ⟨hx, hb, hml, hown, hts⟩ (c_X2_expect l G cI cJ cZ cB cT q h_8 33 h_9 e_9 H.size) (gG_V m_684 m_685 m_686 m_660 m_683) rfl e_X2_expect ⟨Nat.le_of_ble_eq_true rfl, Nat.le_of_ble_eq_true rfl⟩ hK hP hD hE hS hA 15 wC_at15 rfl rfl hl.1 rfl (Nat.le_of_ble_eq_true rfl) dX2_readDeed_53 ⟨Nat.le_refl _, Nat.le_refl _⟩) hP hD hS hA (fun u_9 H locs hw_9 hP hD hS => ?_)
      refine lv_aload_n hx hb dX2_readDeed_56 rfl (lv_at hl 0 rfl) ?_
      refine lv_aload_n hx hb dX2_readDeed_57 rfl (lv_at hl 1 rfl) ?_
      refine lv_aload_n hx hb dX2_readDeed_58 rfl (lv_at hl 2 rfl) ?_
      refine lv_iconst (v := 3) hx hb dX2_readDeed_59 (by decide) ?_
      refine lv_iconst (v := 0) hx hb dX2_readDeed_60 (by decide) ?_
      refine lv_iconst (v := 2) hx hb dX2_readDeed_61 (by decide) ?_
      obtain ⟨h_10, e_10, hF⟩ := ob1_some hF
      refine gx_callv (gx_runV (As := [.ref (q 11), .ref (q 47), .int 3, .int 0, .int 2]) (rest := []) ⟨hx, hb, hml, hown, hts⟩ (c_X2_readNumber_3 l G cI cJ cZ cB cT q h_9 3 0 2 h_10 e_10 H.size) (gG_V m_680 m_681 m_682 m_660 m_679) rfl e_X2_readNumber ⟨Nat.le_of_ble_eq_true rfl, Nat.le_of_ble_eq_true rfl⟩ hK hP hD hE hS hA 15 wC_at15 rfl rfl hl.1 rfl (Nat.le_of_ble_eq_true rfl) dX2_readDeed_62 ⟨Nat.le_refl _, Nat.le_refl _⟩) hP hD hS hA (fun u_10 H locs hw_10 hP hD hS => ?_)
      refine lv_goto (tgt := 90) hx hb dX2_readDeed_65 (by decide) ?_
      exact hJ_90 h_10 hF H _ ls hP hD hS (lv_sub hl [] rfl)
  · have hF := ob_pos c_1 hF
    refine lv_aload_n hx hb dX2_readDeed_6 rfl (lv_at hl 0 rfl) ?_
    refine lv_aload_n hx hb dX2_readDeed_7 rfl (lv_at hl 1 rfl) ?_
    refine lv_aload_n hx hb dX2_readDeed_8 rfl (lv_at hl 2 rfl) ?_
    refine lv_iconst (v := 1) hx hb dX2_readDeed_9 (by decide) ?_
    refine lv_iconst (v := 1) hx hb dX2_readDeed_10 (by decide) ?_
    refine lv_bipush (v := 99) hx hb dX2_readDeed_11 (by decide) ?_
    obtain ⟨h_11, e_11, hF⟩ := ob1_some hF
    refine gx_callv (gx_runV (As := [.ref (q 11), .ref (q 47), .int 1, .int 1, .int 99]) (rest := []) ⟨hx, hb, hml, hown, hts⟩ (c_X2_readNumber_3 l G cI cJ cZ cB cT q h 1 1 99 h_11 e_11 H.size) (gG_V m_680 m_681 m_682 m_660 m_679) rfl e_X2_readNumber ⟨Nat.le_of_ble_eq_true rfl, Nat.le_of_ble_eq_true rfl⟩ hK hP hD hE hS hA 15 wC_at15 rfl rfl hl.1 rfl (Nat.le_of_ble_eq_true rfl) dX2_readDeed_13 ⟨Nat.le_refl _, Nat.le_refl _⟩) hP hD hS hA (fun u_11 H locs hw_11 hP hD hS => ?_)
    obtain rfl := ob_one hF
    exact gw_vret () hx hb hr hlocks hP hD hS trivial dX2_readDeed_16
def f_X2_readLevel_3_105 (kR_X2_readLevel : HS → Int32 → Int32 → Option HS) (kR_X2_readAsk : HS → Int32 → Option HS) (kR_X2_readOne : HS → Int32 → Option HS) (h : HS) : Option HS := (some h)
def f_X2_readLevel_3_42 (kR_X2_readLevel : HS → Int32 → Int32 → Option HS) (kR_X2_readAsk : HS → Int32 → Option HS) (kR_X2_readOne : HS → Int32 → Option HS) : Nat → HS → Int32 → Int32 → Int32 → Option HS
  | 0, _, _, _, _ => none
  | n + 1, h, x3, x4, x5 => (if 300 ≤ x5 then (f_X2_readLevel_3_105 kR_X2_readLevel kR_X2_readAsk kR_X2_readOne h) else (if (eI h 5 0) = 0 then (ob2 (f_X7_kind h) (fun r_8 h_8 => (ob1 (f_X2_levelOf r_8) (fun r_9 => (if r_9 = x3 then (ob2 (f_X7_kind h_8) (fun r_11 h_11 => (ob1 (f_X7_advance h_11) (fun h_12 => (ob1 (kR_X2_readLevel h_12 (x3 + 1) x4) (fun h_13 => (ob1 (f_X6_addStep_3 h_13 (20000 + r_11)) (fun h_14 => ((f_X2_readLevel_3_42 kR_X2_readLevel kR_X2_readAsk kR_X2_readOne n) h_14 x3 x4 (x5 + 1)))))))))) else (f_X2_readLevel_3_105 kR_X2_readLevel kR_X2_readAsk kR_X2_readOne h_8)))))) else (f_X2_readLevel_3_105 kR_X2_readLevel kR_X2_readAsk kR_X2_readOne h)))
theorem f_X2_readLevel_3_42_s (kR_X2_readLevel : HS → Int32 → Int32 → Option HS) (kR_X2_readAsk : HS → Int32 → Option HS) (kR_X2_readOne : HS → Int32 → Option HS) (n : Nat) (h : HS) (x3 : Int32) (x4 : Int32) (x5 : Int32) : f_X2_readLevel_3_42 kR_X2_readLevel kR_X2_readAsk kR_X2_readOne (n + 1) h x3 x4 x5 = (if 300 ≤ x5 then (f_X2_readLevel_3_105 kR_X2_readLevel kR_X2_readAsk kR_X2_readOne h) else (if (eI h 5 0) = 0 then (ob2 (f_X7_kind h) (fun r_8 h_8 => (ob1 (f_X2_levelOf r_8) (fun r_9 => (if r_9 = x3 then (ob2 (f_X7_kind h_8) (fun r_11 h_11 => (ob1 (f_X7_advance h_11) (fun h_12 => (ob1 (kR_X2_readLevel h_12 (x3 + 1) x4) (fun h_13 => (ob1 (f_X6_addStep_3 h_13 (20000 + r_11)) (fun h_14 => ((f_X2_readLevel_3_42 kR_X2_readLevel kR_X2_readAsk kR_X2_readOne n) h_14 x3 x4 (x5 + 1)))))))))) else (f_X2_readLevel_3_105 kR_X2_readLevel kR_X2_readAsk kR_X2_readOne h_8)))))) else (f_X2_readLevel_3_105 kR_X2_readLevel kR_X2_readAsk kR_X2_readOne h))) := rfl
def f_X2_readLevel_3_b (kR_X2_readLevel : HS → Int32 → Int32 → Option HS) (kR_X2_readAsk : HS → Int32 → Option HS) (kR_X2_readOne : HS → Int32 → Option HS) (h : HS) (p1 : Int32) (p2 : Int32) : Option HS := (if p1 = 2 then (ob1 (kR_X2_readAsk h p2) (fun h_5 => (some h_5))) else (if p1 = 5 then (ob1 (kR_X2_readOne h p2) (fun h_4 => (some h_4))) else (ob1 (kR_X2_readLevel h (p1 + 1) p2) (fun h_3 => (f_X2_readLevel_3_42 kR_X2_readLevel kR_X2_readAsk kR_X2_readOne 8589934592 h_3 p1 p2 0)))))
def f_X2_readAsk_3_97 (kR_X2_readLevel : HS → Int32 → Int32 → Option HS) (kR_X2_readAsk : HS → Int32 → Option HS) (kR_X2_readOne : HS → Int32 → Option HS) (h : HS) : Option HS := (some h)
def f_X2_readAsk_3_68 (kR_X2_readLevel : HS → Int32 → Int32 → Option HS) (kR_X2_readAsk : HS → Int32 → Option HS) (kR_X2_readOne : HS → Int32 → Option HS) (h : HS) (x3 : Int32) (x4 : Int32) : Option HS := (if (eI h 5 0) = 0 then (ob1 (f_X7_advance h) (fun h_13 => (ob1 (kR_X2_readLevel h_13 3 x3) (fun h_14 => (ob1 (f_X6_addStep_3 h_14 (20000 + x4)) (fun h_15 => (f_X2_readAsk_3_97 kR_X2_readLevel kR_X2_readAsk kR_X2_readOne h_15))))))) else (f_X2_readAsk_3_97 kR_X2_readLevel kR_X2_readAsk kR_X2_readOne h))
def f_X2_readAsk_3_62 (kR_X2_readLevel : HS → Int32 → Int32 → Option HS) (kR_X2_readAsk : HS → Int32 → Option HS) (kR_X2_readOne : HS → Int32 → Option HS) (h : HS) (x3 : Int32) (x4 : Int32) : Option HS := (ob1 (f_X2_fail h 1) (fun h_11 => (f_X2_readAsk_3_68 kR_X2_readLevel kR_X2_readAsk kR_X2_readOne h_11 x3 x4)))
def f_X2_readAsk_3_34 (kR_X2_readLevel : HS → Int32 → Int32 → Option HS) (kR_X2_readAsk : HS → Int32 → Option HS) (kR_X2_readOne : HS → Int32 → Option HS) (h : HS) : Option HS := (some h)
def f_X2_readAsk_3_b (kR_X2_readLevel : HS → Int32 → Int32 → Option HS) (kR_X2_readAsk : HS → Int32 → Option HS) (kR_X2_readOne : HS → Int32 → Option HS) (h : HS) (p1 : Int32) : Option HS := (ob2 (f_X7_kind h) (fun r_1 h_1 => (if r_1 = 28 then (ob2 (f_X2_opens h_1 p1) (fun r_7 h_7 => (if r_7 = 0 then (f_X2_readAsk_3_34 kR_X2_readLevel kR_X2_readAsk kR_X2_readOne h_7) else (ob1 (kR_X2_readAsk h_7 (p1 + 1)) (fun h_9 => (ob1 (f_X6_addStep_3 h_9 20028) (fun h_10 => (f_X2_readAsk_3_34 kR_X2_readLevel kR_X2_readAsk kR_X2_readOne h_10)))))))) else (ob1 (kR_X2_readLevel h_1 3 p1) (fun h_3 => (ob2 (f_X7_kind h_3) (fun r_4 h_4 => (if r_4 < 3 then (f_X2_readAsk_3_62 kR_X2_readLevel kR_X2_readAsk kR_X2_readOne h_4 p1 r_4) else (if r_4 ≤ 8 then (f_X2_readAsk_3_68 kR_X2_readLevel kR_X2_readAsk kR_X2_readOne h_4 p1 r_4) else (f_X2_readAsk_3_62 kR_X2_readLevel kR_X2_readAsk kR_X2_readOne h_4 p1 r_4))))))))))
def f_X2_readOne_3_121 (kR_X2_readLevel : HS → Int32 → Int32 → Option HS) (kR_X2_readAsk : HS → Int32 → Option HS) (kR_X2_readOne : HS → Int32 → Option HS) (h : HS) : Option HS := (some h)
def f_X2_readOne_3_44 (kR_X2_readLevel : HS → Int32 → Int32 → Option HS) (kR_X2_readAsk : HS → Int32 → Option HS) (kR_X2_readOne : HS → Int32 → Option HS) (h : HS) (x3 : Int32) (x4 : Int32) : Option HS := (if x4 = 13 then (ob2 (f_X2_opens h x3) (fun r_14 h_14 => (if r_14 = 0 then (f_X2_readOne_3_121 kR_X2_readLevel kR_X2_readAsk kR_X2_readOne h_14) else (ob1 (kR_X2_readLevel h_14 3 (x3 + 1)) (fun h_16 => (ob1 (f_X2_expect h_16 14) (fun h_17 => (f_X2_readOne_3_121 kR_X2_readLevel kR_X2_readAsk kR_X2_readOne h_17)))))))) else (if x4 = 10 then (ob2 (f_X2_opens h x3) (fun r_10 h_10 => (if r_10 = 0 then (f_X2_readOne_3_121 kR_X2_readLevel kR_X2_readAsk kR_X2_readOne h_10) else (ob1 (kR_X2_readOne h_10 (x3 + 1)) (fun h_12 => (ob1 (f_X6_addStep_3 h_12 20038) (fun h_13 => (f_X2_readOne_3_121 kR_X2_readLevel kR_X2_readAsk kR_X2_readOne h_13)))))))) else (ob1 (f_X2_fail h 1) (fun h_9 => (f_X2_readOne_3_121 kR_X2_readLevel kR_X2_readAsk kR_X2_readOne h_9)))))
def f_X2_readOne_3_b (kR_X2_readLevel : HS → Int32 → Int32 → Option HS) (kR_X2_readAsk : HS → Int32 → Option HS) (kR_X2_readOne : HS → Int32 → Option HS) (h : HS) (p1 : Int32) : Option HS := (ob2 (f_X7_kind h) (fun r_1 h_1 => (if r_1 = 2 then (ob1 (f_X2_readValue_3 h_1) (fun h_6 => (f_X2_readOne_3_121 kR_X2_readLevel kR_X2_readAsk kR_X2_readOne h_6))) else (if r_1 < 29 then (f_X2_readOne_3_44 kR_X2_readLevel kR_X2_readAsk kR_X2_readOne h_1 p1 r_1) else (if 37 < r_1 then (f_X2_readOne_3_44 kR_X2_readLevel kR_X2_readAsk kR_X2_readOne h_1 p1 r_1) else (ob1 (f_X2_readName_3 h_1) (fun h_5 => (f_X2_readOne_3_121 kR_X2_readLevel kR_X2_readAsk kR_X2_readOne h_5))))))))
def G_read_3 : Nat → Nat → HS → Int32 → Int32 → Option HS
  | 0, _, _, _, _ => none
  | n_R + 1, 0, h, p1, p2 => f_X2_readLevel_3_b (fun h p1 p2 => G_read_3 n_R 0 h p1 p2) (fun h p1 => G_read_3 n_R 1 h p1 0) (fun h p1 => G_read_3 n_R 2 h p1 0) h p1 p2
  | n_R + 1, 1, h, p1, p2 => f_X2_readAsk_3_b (fun h p1 p2 => G_read_3 n_R 0 h p1 p2) (fun h p1 => G_read_3 n_R 1 h p1 0) (fun h p1 => G_read_3 n_R 2 h p1 0) h p1
  | n_R + 1, _, h, p1, p2 => f_X2_readOne_3_b (fun h p1 p2 => G_read_3 n_R 0 h p1 p2) (fun h p1 => G_read_3 n_R 1 h p1 0) (fun h p1 => G_read_3 n_R 2 h p1 0) h p1
set_option maxHeartbeats 8000000 in
set_option maxRecDepth 100000 in
theorem c_G_read_3 (l : Launch) (G : va_G) (cI cJ cZ cB cT : ClassId) (q : Nat → Nat) : ∀ n_R : Nat, (∀ (h : HS) (p1 : Int32) (p2 : Int32) (hh : HS), G_read_3 n_R 0 h p1 p2 = some hh → gMv l yX2_readLevel (gws yX2_readLevel cX2_readLevel 7 none) (4 + n_R) G (gT cI cJ cZ cB cT) [.ref (q 15), .ref (q 11), .ref (q 47), .int p1, .int p2] (wC q cI cJ cZ cB cT h) (fun (_ : Unit) => True) (fun (_ : Unit) => (wC q cI cJ cZ cB cT hh))) ∧ (∀ (h : HS) (p1 : Int32) (hh : HS), G_read_3 n_R 1 h p1 0 = some hh → gMv l yX2_readAsk (gws yX2_readAsk cX2_readAsk 5 none) (4 + n_R) G (gT cI cJ cZ cB cT) [.ref (q 15), .ref (q 11), .ref (q 47), .int p1] (wC q cI cJ cZ cB cT h) (fun (_ : Unit) => True) (fun (_ : Unit) => (wC q cI cJ cZ cB cT hh))) ∧ (∀ (h : HS) (p1 : Int32) (hh : HS), G_read_3 n_R 2 h p1 0 = some hh → gMv l yX2_readOne (gws yX2_readOne cX2_readOne 5 none) (4 + n_R) G (gT cI cJ cZ cB cT) [.ref (q 15), .ref (q 11), .ref (q 47), .int p1] (wC q cI cJ cZ cB cT h) (fun (_ : Unit) => True) (fun (_ : Unit) => (wC q cI cJ cZ cB cT hh))) := by
  intro n_R
  induction n_R with
  | zero =>
    exact ⟨fun h p1 p2 hh hF => absurd hF (by simp [G_read_3]), fun h p1 hh hF => absurd hF (by simp [G_read_3]), fun h p1 hh hF => absurd hF (by simp [G_read_3])⟩
  | succ n_R ih =>
    have ihR_X2_readLevel := ih.1
    have ihR_X2_readAsk := ih.2.1
    have ihR_X2_readOne := ih.2.2
    refine ⟨?_, ?_, ?_⟩
    · intro h p1 p2 hh hF
      have hF : f_X2_readLevel_3_b (fun h p1 p2 => G_read_3 n_R 0 h p1 p2) (fun h p1 => G_read_3 n_R 1 h p1 0) (fun h p1 => G_read_3 n_R 2 h p1 0) h p1 p2 = some hh := hF
      intro sz
      refine gM_start (y := yX2_readLevel) (av := [.ref (q 15), .ref (q 11), .ref (q 47), .int p1, .int p2]) (ws := (wC q cI cJ cZ cB cT h)) (Qf := fun A => va_Qv (fun (_ : Unit) => True) (gB G (fun (_ : Unit) => (wC q cI cJ cZ cB cT hh)) A) A) (cc := cX2_readLevel) (maxL := 7) (ret := none) (by decide) (Nat.le_of_ble_eq_true rfl) ?_
      intro p e s m args below meth c A ls H hx hb hr hts hown hin hlocks hml hP hK hD hA hS hl hE
      have hl : lv_has ls 7 [(0, .ref (q 15)), (1, .ref (q 11)), (2, .ref (q 47)), (3, .int p1), (4, .int p2)] := hl
      have hJ_105 : ∀ (h : HS), f_X2_readLevel_3_105 (fun h p1 p2 => G_read_3 n_R 0 h p1 p2) (fun h p1 => G_read_3 n_R 1 h p1 0) (fun h p1 => G_read_3 n_R 2 h p1 0) h = some hh → ∀ (H : Heap) (locs : List Loc) (ls : Array Slot), va_P G vwCl (wC q cI cJ cZ cB cT h) H → va_D A (wC q cI cJ cZ cB cT h) → va_S A s.heap H locs → lv_has ls 7 [] → W p l e (gRm (4 + (n_R + 1))) s m args below meth c H locs 0 0 (MQ below (va_Qv (fun (_ : Unit) => True) (gB G (fun (_ : Unit) => (wC q cI cJ cZ cB cT hh)) A) A) args s 0 0 A) (F0 m 105 ls []) := by
        intro h hF H locs ls hP hD hS hl
        unfold f_X2_readLevel_3_105 at hF
        obtain rfl := ob_one hF
        exact gw_vret () hx hb hr hlocks hP hD hS trivial dX2_readLevel_105
      have hJ_42 : ∀ (n_42 : Nat) (h : HS) (x3 : Int32) (x4 : Int32) (x5 : Int32), f_X2_readLevel_3_42 (fun h p1 p2 => G_read_3 n_R 0 h p1 p2) (fun h p1 => G_read_3 n_R 1 h p1 0) (fun h p1 => G_read_3 n_R 2 h p1 0) n_42 h x3 x4 x5 = some hh → ∀ (H : Heap) (locs : List Loc) (ls : Array Slot), va_P G vwCl (wC q cI cJ cZ cB cT h) H → va_D A (wC q cI cJ cZ cB cT h) → va_S A s.heap H locs → lv_has ls 7 [(0, .ref (q 15)), (1, .ref (q 11)), (2, .ref (q 47)), (3, .int x3), (4, .int x4), (5, .int x5)] → W p l e (gRm (4 + (n_R + 1))) s m args below meth c H locs 0 0 (MQ below (va_Qv (fun (_ : Unit) => True) (gB G (fun (_ : Unit) => (wC q cI cJ cZ cB cT hh)) A) A) args s 0 0 A) (F0 m 42 ls []) := by
        intro n_42
        induction n_42 with
        | zero =>
          intro h x3 x4 x5 hF
          exact absurd hF (by simp [f_X2_readLevel_3_42])
        | succ n_42 ih_42 =>
          intro h x3 x4 x5 hF H locs ls hP hD hS hl
          rw [f_X2_readLevel_3_42_s] at hF
          refine lv_iload hx hb dX2_readLevel_42 (lv_at hl 5 rfl) ?_
          refine lv_sipush (v := 300) hx hb dX2_readLevel_44 (by decide) ?_
          refine lv_icmp_ge (tgt := 105) hx hb dX2_readLevel_47 (by decide) (fun c_6 => ?_) (fun c_6 => ?_)
          · have hF := ob_pos c_6 hF
            exact hJ_105 h hF H _ ls hP hD hS (lv_sub hl [] rfl)
          · have hF := ob_neg c_6 hF
            refine lv_aload_n hx hb dX2_readLevel_50 rfl (lv_at hl 0 rfl) ?_
            refine va_get (D := G) (ci := 2) (v := .int (eI h 5 0)) (C := RX2) (T := TX2) (N := 3) hx hb hts iX2 hown hK hP 15 wC_at15 rfl 0 (by decide) (hts _ m_646) (fun _ h9 => h9) rfl dX2_readLevel_51 ?_
            refine lv_if_ne (tgt := 105) hx hb dX2_readLevel_54 (by decide) (fun c_7 => ?_) (fun c_7 => ?_)
            · have hF := ob_neg c_7 hF
              exact hJ_105 h hF H _ ls hP hD hS (lv_sub hl [] rfl)
            · have hF := ob_pos c_7 hF
              refine lv_aload_n hx hb dX2_readLevel_57 rfl (lv_at hl 1 rfl) ?_
              obtain ⟨r_8, h_8, e_8, hF⟩ := ob2_some hF
              refine gx_calli (gx_runV (As := []) (rest := []) ⟨hx, hb, hml, hown, hts⟩ (c_X7_kind l G cI cJ cZ cB cT q h  r_8 h_8 e_8 H.size) (gG_V m_653 m_654 m_655 m_417 m_652) rfl e_X7_kind ⟨by show _ ≤ (4 + (n_R + 1)); omega, by show _ ≤ 100 * (4 + (n_R + 1)); omega⟩ hK hP hD hE hS hA 11 wC_at11 rfl rfl hl.1 rfl (Nat.le_of_ble_eq_true rfl) dX2_readLevel_58 ⟨Nat.le_refl _, Nat.le_refl _⟩) hP hD hS hA (fun x_8 u_8 H locs hw_8 hP hD hS => ?_)
              subst x_8
              obtain ⟨r_9, e_9, hF⟩ := ob1_some hF
              refine gx_calli0 (gx_runS0 (As := [.int r_8]) (rest := []) ⟨hx, hb, hml, hown, hts⟩ (c_X2_levelOf l G cI cJ cZ cB cT   r_8 r_9 e_9 H.size) (gG_S m_700 m_701 m_660 m_699) rfl e_X2_levelOf ⟨by show _ ≤ (4 + (n_R + 1)); omega, by show _ ≤ 100 * (4 + (n_R + 1)); omega⟩ hK hE hS hA rfl hl.1 rfl (Nat.le_of_ble_eq_true rfl) dX2_readLevel_61 ⟨Nat.le_refl _, Nat.le_refl _⟩) hP hD hS hA (fun x_9 u_9 H locs hw_9 hP hD hS => ?_)
              subst x_9
              refine lv_iload_n hx hb dX2_readLevel_64 rfl (lv_at hl 3 rfl) ?_
              refine lv_icmp_ne (tgt := 105) hx hb dX2_readLevel_65 (by decide) (fun c_10 => ?_) (fun c_10 => ?_)
              · have hF := ob_neg c_10 hF
                exact hJ_105 h_8 hF H _ ls hP hD hS (lv_sub hl [] rfl)
              · have hF := ob_pos c_10 hF
                refine lv_aload_n hx hb dX2_readLevel_68 rfl (lv_at hl 1 rfl) ?_
                obtain ⟨r_11, h_11, e_11, hF⟩ := ob2_some hF
                refine gx_calli (gx_runV (As := []) (rest := []) ⟨hx, hb, hml, hown, hts⟩ (c_X7_kind l G cI cJ cZ cB cT q h_8  r_11 h_11 e_11 H.size) (gG_V m_653 m_654 m_655 m_417 m_652) rfl e_X7_kind ⟨by show _ ≤ (4 + (n_R + 1)); omega, by show _ ≤ 100 * (4 + (n_R + 1)); omega⟩ hK hP hD hE hS hA 11 wC_at11 rfl rfl hl.1 rfl (Nat.le_of_ble_eq_true rfl) dX2_readLevel_69 ⟨Nat.le_refl _, Nat.le_refl _⟩) hP hD hS hA (fun x_11 u_11 H locs hw_11 hP hD hS => ?_)
                subst x_11
                refine lv_istore (lv' := [(6, .int r_11), (0, .ref (q 15)), (1, .ref (q 11)), (2, .ref (q 47)), (3, .int x3), (4, .int x4), (5, .int x5)]) hx hb dX2_readLevel_72 hl (by decide) rfl (fun ls hl => ?_)
                refine lv_aload_n hx hb dX2_readLevel_74 rfl (lv_at hl 2 rfl) ?_
                obtain ⟨h_12, e_12, hF⟩ := ob1_some hF
                refine gx_callv (gx_runV (As := []) (rest := []) ⟨hx, hb, hml, hown, hts⟩ (c_X7_advance l G cI cJ cZ cB cT q h_11  h_12 e_12 H.size) (gG_V m_662 m_663 m_664 m_417 m_661) rfl e_X7_advance ⟨by show _ ≤ (4 + (n_R + 1)); omega, by show _ ≤ 100 * (4 + (n_R + 1)); omega⟩ hK hP hD hE hS hA 11 wC_at11 rfl rfl hl.1 rfl (Nat.le_of_ble_eq_true rfl) dX2_readLevel_75 ⟨Nat.le_refl _, Nat.le_refl _⟩) hP hD hS hA (fun u_12 H locs hw_12 hP hD hS => ?_)
                refine lv_aload_n hx hb dX2_readLevel_78 rfl (lv_at hl 1 rfl) ?_
                refine lv_aload_n hx hb dX2_readLevel_79 rfl (lv_at hl 2 rfl) ?_
                refine lv_aload_n hx hb dX2_readLevel_80 rfl (lv_at hl 3 rfl) ?_
                refine lv_iload_n hx hb dX2_readLevel_81 rfl (lv_at hl 4 rfl) ?_
                refine lv_iconst (v := 1) hx hb dX2_readLevel_82 (by decide) ?_
                refine lv_iadd hx hb dX2_readLevel_83 ?_
                refine lv_iload hx hb dX2_readLevel_84 (lv_at hl 5 rfl) ?_
                obtain ⟨h_13, e_13, hF⟩ := ob1_some hF
                refine gx_callv (gx_runV (As := [.ref (q 11), .ref (q 47), .int (x3 + 1), .int x4]) (rest := []) ⟨hx, hb, hml, hown, hts⟩ (ihR_X2_readLevel h_12 (x3 + 1) x4 h_13 e_13 H.size) (gG_V m_687 m_688 m_689 m_660 m_690) rfl e_X2_readLevel ⟨by show _ ≤ (4 + (n_R + 1)); omega, by show _ ≤ 100 * (4 + (n_R + 1)); omega⟩ hK hP hD hE hS hA 15 wC_at15 rfl rfl hl.1 rfl (Nat.le_of_ble_eq_true rfl) dX2_readLevel_86 ⟨Nat.le_refl _, Nat.le_refl _⟩) hP hD hS hA (fun u_13 H locs hw_13 hP hD hS => ?_)
                refine lv_aload_n hx hb dX2_readLevel_89 rfl (lv_at hl 3 rfl) ?_
                refine lv_sipush (v := 20000) hx hb dX2_readLevel_90 (by decide) ?_
                refine lv_iload hx hb dX2_readLevel_93 (lv_at hl 0 rfl) ?_
                refine lv_iadd hx hb dX2_readLevel_95 ?_
                obtain ⟨h_14, e_14, hF⟩ := ob1_some hF
                refine gx_callv (gx_runV (As := [.int (20000 + r_11)]) (rest := []) ⟨hx, hb, hml, hown, hts⟩ (c_X6_addStep_3 l G cI cJ cZ cB cT q h_13 (20000 + r_11) h_14 e_14 H.size) (gG_V m_670 m_671 m_672 m_563 m_669) rfl e_X6_addStep ⟨by show _ ≤ (4 + (n_R + 1)); omega, by show _ ≤ 100 * (4 + (n_R + 1)); omega⟩ hK hP hD hE hS hA 47 wC_at47 rfl rfl hl.1 rfl (Nat.le_of_ble_eq_true rfl) dX2_readLevel_96 ⟨Nat.le_refl _, Nat.le_refl _⟩) hP hD hS hA (fun u_14 H locs hw_14 hP hD hS => ?_)
                refine lv_iinc (v := (x5 + 1)) (lv' := [(5, .int (x5 + 1)), (6, .int r_11), (0, .ref (q 15)), (1, .ref (q 11)), (2, .ref (q 47)), (3, .int x3), (4, .int x4)]) hx hb dX2_readLevel_99 hl (k := 6) rfl rfl (by decide) rfl (fun ls hl => ?_)
                refine lv_goto (tgt := 42) hx hb dX2_readLevel_102 (by decide) ?_
                exact ih_42 h_14 x3 x4 (x5 + 1) hF H _ ls hP hD hS (lv_sub hl [2, 3, 4, 5, 6, 0] rfl)
      unfold f_X2_readLevel_3_b at hF
      refine lv_iload_n hx hb dX2_readLevel_0 rfl (lv_at hl 3 rfl) ?_
      refine lv_iconst (v := 2) hx hb dX2_readLevel_1 (by decide) ?_
      refine lv_icmp_ne (tgt := 14) hx hb dX2_readLevel_2 (by decide) (fun c_1 => ?_) (fun c_1 => ?_)
      · have hF := ob_neg c_1 hF
        refine lv_iload_n hx hb dX2_readLevel_14 rfl (lv_at hl 3 rfl) ?_
        refine lv_iconst (v := 5) hx hb dX2_readLevel_15 (by decide) ?_
        refine lv_icmp_ne (tgt := 28) hx hb dX2_readLevel_16 (by decide) (fun c_2 => ?_) (fun c_2 => ?_)
        · have hF := ob_neg c_2 hF
          refine lv_aload_n hx hb dX2_readLevel_28 rfl (lv_at hl 0 rfl) ?_
          refine lv_aload_n hx hb dX2_readLevel_29 rfl (lv_at hl 1 rfl) ?_
          refine lv_aload_n hx hb dX2_readLevel_30 rfl (lv_at hl 2 rfl) ?_
          refine lv_iload_n hx hb dX2_readLevel_31 rfl (lv_at hl 3 rfl) ?_
          refine lv_iconst (v := 1) hx hb dX2_readLevel_32 (by decide) ?_
          refine lv_iadd hx hb dX2_readLevel_33 ?_
          refine lv_iload hx hb dX2_readLevel_34 (lv_at hl 4 rfl) ?_
          obtain ⟨h_3, e_3, hF⟩ := ob1_some hF
          refine gx_callv (gx_runV (As := [.ref (q 11), .ref (q 47), .int (p1 + 1), .int p2]) (rest := []) ⟨hx, hb, hml, hown, hts⟩ (ihR_X2_readLevel h (p1 + 1) p2 h_3 e_3 H.size) (gG_V m_687 m_688 m_689 m_660 m_690) rfl e_X2_readLevel ⟨by show _ ≤ (4 + (n_R + 1)); omega, by show _ ≤ 100 * (4 + (n_R + 1)); omega⟩ hK hP hD hE hS hA 15 wC_at15 rfl rfl hl.1 rfl (Nat.le_of_ble_eq_true rfl) dX2_readLevel_36 ⟨Nat.le_refl _, Nat.le_refl _⟩) hP hD hS hA (fun u_3 H locs hw_3 hP hD hS => ?_)
          refine lv_iconst (v := 0) hx hb dX2_readLevel_39 (by decide) ?_
          refine lv_istore (lv' := [(5, .int 0), (0, .ref (q 15)), (1, .ref (q 11)), (2, .ref (q 47)), (3, .int p1), (4, .int p2)]) hx hb dX2_readLevel_40 hl (by decide) rfl (fun ls hl => ?_)
          exact hJ_42 8589934592 h_3 p1 p2 0 hF H _ ls hP hD hS (lv_sub hl [1, 2, 3, 4, 5, 0] rfl)
        · have hF := ob_pos c_2 hF
          refine lv_aload_n hx hb dX2_readLevel_19 rfl (lv_at hl 0 rfl) ?_
          refine lv_aload_n hx hb dX2_readLevel_20 rfl (lv_at hl 1 rfl) ?_
          refine lv_aload_n hx hb dX2_readLevel_21 rfl (lv_at hl 2 rfl) ?_
          refine lv_iload hx hb dX2_readLevel_22 (lv_at hl 4 rfl) ?_
          obtain ⟨h_4, e_4, hF⟩ := ob1_some hF
          refine gx_callv (gx_runV (As := [.ref (q 11), .ref (q 47), .int p2]) (rest := []) ⟨hx, hb, hml, hown, hts⟩ (ihR_X2_readOne h p2 h_4 e_4 H.size) (gG_V m_691 m_692 m_693 m_660 m_694) rfl e_X2_readOne ⟨by show _ ≤ (4 + (n_R + 1)); omega, by show _ ≤ 100 * (4 + (n_R + 1)); omega⟩ hK hP hD hE hS hA 15 wC_at15 rfl rfl hl.1 rfl (Nat.le_of_ble_eq_true rfl) dX2_readLevel_24 ⟨Nat.le_refl _, Nat.le_refl _⟩) hP hD hS hA (fun u_4 H locs hw_4 hP hD hS => ?_)
          obtain rfl := ob_one hF
          exact gw_vret () hx hb hr hlocks hP hD hS trivial dX2_readLevel_27
      · have hF := ob_pos c_1 hF
        refine lv_aload_n hx hb dX2_readLevel_5 rfl (lv_at hl 0 rfl) ?_
        refine lv_aload_n hx hb dX2_readLevel_6 rfl (lv_at hl 1 rfl) ?_
        refine lv_aload_n hx hb dX2_readLevel_7 rfl (lv_at hl 2 rfl) ?_
        refine lv_iload hx hb dX2_readLevel_8 (lv_at hl 4 rfl) ?_
        obtain ⟨h_5, e_5, hF⟩ := ob1_some hF
        refine gx_callv (gx_runV (As := [.ref (q 11), .ref (q 47), .int p2]) (rest := []) ⟨hx, hb, hml, hown, hts⟩ (ihR_X2_readAsk h p2 h_5 e_5 H.size) (gG_V m_695 m_696 m_697 m_660 m_698) rfl e_X2_readAsk ⟨by show _ ≤ (4 + (n_R + 1)); omega, by show _ ≤ 100 * (4 + (n_R + 1)); omega⟩ hK hP hD hE hS hA 15 wC_at15 rfl rfl hl.1 rfl (Nat.le_of_ble_eq_true rfl) dX2_readLevel_10 ⟨Nat.le_refl _, Nat.le_refl _⟩) hP hD hS hA (fun u_5 H locs hw_5 hP hD hS => ?_)
        obtain rfl := ob_one hF
        exact gw_vret () hx hb hr hlocks hP hD hS trivial dX2_readLevel_13
    · intro h p1 hh hF
      have hF : f_X2_readAsk_3_b (fun h p1 p2 => G_read_3 n_R 0 h p1 p2) (fun h p1 => G_read_3 n_R 1 h p1 0) (fun h p1 => G_read_3 n_R 2 h p1 0) h p1 = some hh := hF
      intro sz
      refine gM_start (y := yX2_readAsk) (av := [.ref (q 15), .ref (q 11), .ref (q 47), .int p1]) (ws := (wC q cI cJ cZ cB cT h)) (Qf := fun A => va_Qv (fun (_ : Unit) => True) (gB G (fun (_ : Unit) => (wC q cI cJ cZ cB cT hh)) A) A) (cc := cX2_readAsk) (maxL := 5) (ret := none) (by decide) (Nat.le_of_ble_eq_true rfl) ?_
      intro p e s m args below meth c A ls H hx hb hr hts hown hin hlocks hml hP hK hD hA hS hl hE
      have hl : lv_has ls 5 [(0, .ref (q 15)), (1, .ref (q 11)), (2, .ref (q 47)), (3, .int p1)] := hl
      have hJ_97 : ∀ (h : HS), f_X2_readAsk_3_97 (fun h p1 p2 => G_read_3 n_R 0 h p1 p2) (fun h p1 => G_read_3 n_R 1 h p1 0) (fun h p1 => G_read_3 n_R 2 h p1 0) h = some hh → ∀ (H : Heap) (locs : List Loc) (ls : Array Slot), va_P G vwCl (wC q cI cJ cZ cB cT h) H → va_D A (wC q cI cJ cZ cB cT h) → va_S A s.heap H locs → lv_has ls 5 [] → W p l e (gRm (4 + (n_R + 1))) s m args below meth c H locs 0 0 (MQ below (va_Qv (fun (_ : Unit) => True) (gB G (fun (_ : Unit) => (wC q cI cJ cZ cB cT hh)) A) A) args s 0 0 A) (F0 m 97 ls []) := by
        intro h hF H locs ls hP hD hS hl
        unfold f_X2_readAsk_3_97 at hF
        obtain rfl := ob_one hF
        exact gw_vret () hx hb hr hlocks hP hD hS trivial dX2_readAsk_97
      have hJ_68 : ∀ (h : HS) (x3 : Int32) (x4 : Int32), f_X2_readAsk_3_68 (fun h p1 p2 => G_read_3 n_R 0 h p1 p2) (fun h p1 => G_read_3 n_R 1 h p1 0) (fun h p1 => G_read_3 n_R 2 h p1 0) h x3 x4 = some hh → ∀ (H : Heap) (locs : List Loc) (ls : Array Slot), va_P G vwCl (wC q cI cJ cZ cB cT h) H → va_D A (wC q cI cJ cZ cB cT h) → va_S A s.heap H locs → lv_has ls 5 [(0, .ref (q 15)), (1, .ref (q 11)), (2, .ref (q 47)), (3, .int x3), (4, .int x4)] → W p l e (gRm (4 + (n_R + 1))) s m args below meth c H locs 0 0 (MQ below (va_Qv (fun (_ : Unit) => True) (gB G (fun (_ : Unit) => (wC q cI cJ cZ cB cT hh)) A) A) args s 0 0 A) (F0 m 68 ls []) := by
        intro h x3 x4 hF H locs ls hP hD hS hl
        unfold f_X2_readAsk_3_68 at hF
        refine lv_aload_n hx hb dX2_readAsk_68 rfl (lv_at hl 0 rfl) ?_
        refine va_get (D := G) (ci := 2) (v := .int (eI h 5 0)) (C := RX2) (T := TX2) (N := 3) hx hb hts iX2 hown hK hP 15 wC_at15 rfl 0 (by decide) (hts _ m_646) (fun _ h9 => h9) rfl dX2_readAsk_69 ?_
        refine lv_if_ne (tgt := 97) hx hb dX2_readAsk_72 (by decide) (fun c_12 => ?_) (fun c_12 => ?_)
        · have hF := ob_neg c_12 hF
          exact hJ_97 h hF H _ ls hP hD hS (lv_sub hl [] rfl)
        · have hF := ob_pos c_12 hF
          refine lv_aload_n hx hb dX2_readAsk_75 rfl (lv_at hl 1 rfl) ?_
          obtain ⟨h_13, e_13, hF⟩ := ob1_some hF
          refine gx_callv (gx_runV (As := []) (rest := []) ⟨hx, hb, hml, hown, hts⟩ (c_X7_advance l G cI cJ cZ cB cT q h  h_13 e_13 H.size) (gG_V m_662 m_663 m_664 m_417 m_661) rfl e_X7_advance ⟨by show _ ≤ (4 + (n_R + 1)); omega, by show _ ≤ 100 * (4 + (n_R + 1)); omega⟩ hK hP hD hE hS hA 11 wC_at11 rfl rfl hl.1 rfl (Nat.le_of_ble_eq_true rfl) dX2_readAsk_76 ⟨Nat.le_refl _, Nat.le_refl _⟩) hP hD hS hA (fun u_13 H locs hw_13 hP hD hS => ?_)
          refine lv_aload_n hx hb dX2_readAsk_79 rfl (lv_at hl 0 rfl) ?_
          refine lv_aload_n hx hb dX2_readAsk_80 rfl (lv_at hl 1 rfl) ?_
          refine lv_aload_n hx hb dX2_readAsk_81 rfl (lv_at hl 2 rfl) ?_
          refine lv_iconst (v := 3) hx hb dX2_readAsk_82 (by decide) ?_
          refine lv_iload_n hx hb dX2_readAsk_83 rfl (lv_at hl 3 rfl) ?_
          obtain ⟨h_14, e_14, hF⟩ := ob1_some hF
          refine gx_callv (gx_runV (As := [.ref (q 11), .ref (q 47), .int 3, .int x3]) (rest := []) ⟨hx, hb, hml, hown, hts⟩ (ihR_X2_readLevel h_13 3 x3 h_14 e_14 H.size) (gG_V m_687 m_688 m_689 m_660 m_690) rfl e_X2_readLevel ⟨by show _ ≤ (4 + (n_R + 1)); omega, by show _ ≤ 100 * (4 + (n_R + 1)); omega⟩ hK hP hD hE hS hA 15 wC_at15 rfl rfl hl.1 rfl (Nat.le_of_ble_eq_true rfl) dX2_readAsk_84 ⟨Nat.le_refl _, Nat.le_refl _⟩) hP hD hS hA (fun u_14 H locs hw_14 hP hD hS => ?_)
          refine lv_aload_n hx hb dX2_readAsk_87 rfl (lv_at hl 2 rfl) ?_
          refine lv_sipush (v := 20000) hx hb dX2_readAsk_88 (by decide) ?_
          refine lv_iload hx hb dX2_readAsk_91 (lv_at hl 4 rfl) ?_
          refine lv_iadd hx hb dX2_readAsk_93 ?_
          obtain ⟨h_15, e_15, hF⟩ := ob1_some hF
          refine gx_callv (gx_runV (As := [.int (20000 + x4)]) (rest := []) ⟨hx, hb, hml, hown, hts⟩ (c_X6_addStep_3 l G cI cJ cZ cB cT q h_14 (20000 + x4) h_15 e_15 H.size) (gG_V m_670 m_671 m_672 m_563 m_669) rfl e_X6_addStep ⟨by show _ ≤ (4 + (n_R + 1)); omega, by show _ ≤ 100 * (4 + (n_R + 1)); omega⟩ hK hP hD hE hS hA 47 wC_at47 rfl rfl hl.1 rfl (Nat.le_of_ble_eq_true rfl) dX2_readAsk_94 ⟨Nat.le_refl _, Nat.le_refl _⟩) hP hD hS hA (fun u_15 H locs hw_15 hP hD hS => ?_)
          exact hJ_97 h_15 hF H _ ls hP hD hS (lv_sub hl [] rfl)
      have hJ_62 : ∀ (h : HS) (x3 : Int32) (x4 : Int32), f_X2_readAsk_3_62 (fun h p1 p2 => G_read_3 n_R 0 h p1 p2) (fun h p1 => G_read_3 n_R 1 h p1 0) (fun h p1 => G_read_3 n_R 2 h p1 0) h x3 x4 = some hh → ∀ (H : Heap) (locs : List Loc) (ls : Array Slot), va_P G vwCl (wC q cI cJ cZ cB cT h) H → va_D A (wC q cI cJ cZ cB cT h) → va_S A s.heap H locs → lv_has ls 5 [(0, .ref (q 15)), (1, .ref (q 11)), (2, .ref (q 47)), (3, .int x3), (4, .int x4)] → W p l e (gRm (4 + (n_R + 1))) s m args below meth c H locs 0 0 (MQ below (va_Qv (fun (_ : Unit) => True) (gB G (fun (_ : Unit) => (wC q cI cJ cZ cB cT hh)) A) A) args s 0 0 A) (F0 m 62 ls []) := by
        intro h x3 x4 hF H locs ls hP hD hS hl
        unfold f_X2_readAsk_3_62 at hF
        refine lv_aload_n hx hb dX2_readAsk_62 rfl (lv_at hl 0 rfl) ?_
        refine lv_aload_n hx hb dX2_readAsk_63 rfl (lv_at hl 1 rfl) ?_
        refine lv_iconst (v := 1) hx hb dX2_readAsk_64 (by decide) ?_
        obtain ⟨h_11, e_11, hF⟩ := ob1_some hF
        refine gx_callv (gx_runV (As := [.ref (q 11), .int 1]) (rest := []) ⟨hx, hb, hml, hown, hts⟩ (c_X2_fail l G cI cJ cZ cB cT q h 1 h_11 e_11 H.size) (gG_V m_657 m_658 m_659 m_660 m_656) rfl e_X2_fail ⟨by show _ ≤ (4 + (n_R + 1)); omega, by show _ ≤ 100 * (4 + (n_R + 1)); omega⟩ hK hP hD hE hS hA 15 wC_at15 rfl rfl hl.1 rfl (Nat.le_of_ble_eq_true rfl) dX2_readAsk_65 ⟨Nat.le_refl _, Nat.le_refl _⟩) hP hD hS hA (fun u_11 H locs hw_11 hP hD hS => ?_)
        exact hJ_68 h_11 x3 x4 hF H _ ls hP hD hS (lv_sub hl [0, 1, 2, 3, 4] rfl)
      have hJ_34 : ∀ (h : HS), f_X2_readAsk_3_34 (fun h p1 p2 => G_read_3 n_R 0 h p1 p2) (fun h p1 => G_read_3 n_R 1 h p1 0) (fun h p1 => G_read_3 n_R 2 h p1 0) h = some hh → ∀ (H : Heap) (locs : List Loc) (ls : Array Slot), va_P G vwCl (wC q cI cJ cZ cB cT h) H → va_D A (wC q cI cJ cZ cB cT h) → va_S A s.heap H locs → lv_has ls 5 [] → W p l e (gRm (4 + (n_R + 1))) s m args below meth c H locs 0 0 (MQ below (va_Qv (fun (_ : Unit) => True) (gB G (fun (_ : Unit) => (wC q cI cJ cZ cB cT hh)) A) A) args s 0 0 A) (F0 m 34 ls []) := by
        intro h hF H locs ls hP hD hS hl
        unfold f_X2_readAsk_3_34 at hF
        obtain rfl := ob_one hF
        exact gw_vret () hx hb hr hlocks hP hD hS trivial dX2_readAsk_34
      unfold f_X2_readAsk_3_b at hF
      refine lv_aload_n hx hb dX2_readAsk_0 rfl (lv_at hl 1 rfl) ?_
      obtain ⟨r_1, h_1, e_1, hF⟩ := ob2_some hF
      refine gx_calli (gx_runV (As := []) (rest := []) ⟨hx, hb, hml, hown, hts⟩ (c_X7_kind l G cI cJ cZ cB cT q h  r_1 h_1 e_1 H.size) (gG_V m_653 m_654 m_655 m_417 m_652) rfl e_X7_kind ⟨by show _ ≤ (4 + (n_R + 1)); omega, by show _ ≤ 100 * (4 + (n_R + 1)); omega⟩ hK hP hD hE hS hA 11 wC_at11 rfl rfl hl.1 rfl (Nat.le_of_ble_eq_true rfl) dX2_readAsk_1 ⟨Nat.le_refl _, Nat.le_refl _⟩) hP hD hS hA (fun x_1 u_1 H locs hw_1 hP hD hS => ?_)
      subst x_1
      refine lv_bipush (v := 28) hx hb dX2_readAsk_4 (by decide) ?_
      refine lv_icmp_ne (tgt := 35) hx hb dX2_readAsk_6 (by decide) (fun c_2 => ?_) (fun c_2 => ?_)
      · have hF := ob_neg c_2 hF
        refine lv_aload_n hx hb dX2_readAsk_35 rfl (lv_at hl 0 rfl) ?_
        refine lv_aload_n hx hb dX2_readAsk_36 rfl (lv_at hl 1 rfl) ?_
        refine lv_aload_n hx hb dX2_readAsk_37 rfl (lv_at hl 2 rfl) ?_
        refine lv_iconst (v := 3) hx hb dX2_readAsk_38 (by decide) ?_
        refine lv_iload_n hx hb dX2_readAsk_39 rfl (lv_at hl 3 rfl) ?_
        obtain ⟨h_3, e_3, hF⟩ := ob1_some hF
        refine gx_callv (gx_runV (As := [.ref (q 11), .ref (q 47), .int 3, .int p1]) (rest := []) ⟨hx, hb, hml, hown, hts⟩ (ihR_X2_readLevel h_1 3 p1 h_3 e_3 H.size) (gG_V m_687 m_688 m_689 m_660 m_690) rfl e_X2_readLevel ⟨by show _ ≤ (4 + (n_R + 1)); omega, by show _ ≤ 100 * (4 + (n_R + 1)); omega⟩ hK hP hD hE hS hA 15 wC_at15 rfl rfl hl.1 rfl (Nat.le_of_ble_eq_true rfl) dX2_readAsk_40 ⟨Nat.le_refl _, Nat.le_refl _⟩) hP hD hS hA (fun u_3 H locs hw_3 hP hD hS => ?_)
        refine lv_aload_n hx hb dX2_readAsk_43 rfl (lv_at hl 1 rfl) ?_
        obtain ⟨r_4, h_4, e_4, hF⟩ := ob2_some hF
        refine gx_calli (gx_runV (As := []) (rest := []) ⟨hx, hb, hml, hown, hts⟩ (c_X7_kind l G cI cJ cZ cB cT q h_3  r_4 h_4 e_4 H.size) (gG_V m_653 m_654 m_655 m_417 m_652) rfl e_X7_kind ⟨by show _ ≤ (4 + (n_R + 1)); omega, by show _ ≤ 100 * (4 + (n_R + 1)); omega⟩ hK hP hD hE hS hA 11 wC_at11 rfl rfl hl.1 rfl (Nat.le_of_ble_eq_true rfl) dX2_readAsk_44 ⟨Nat.le_refl _, Nat.le_refl _⟩) hP hD hS hA (fun x_4 u_4 H locs hw_4 hP hD hS => ?_)
        subst x_4
        refine lv_istore (lv' := [(4, .int r_4), (0, .ref (q 15)), (1, .ref (q 11)), (2, .ref (q 47)), (3, .int p1)]) hx hb dX2_readAsk_47 hl (by decide) rfl (fun ls hl => ?_)
        refine lv_iload hx hb dX2_readAsk_49 (lv_at hl 0 rfl) ?_
        refine lv_iconst (v := 3) hx hb dX2_readAsk_51 (by decide) ?_
        refine lv_icmp_lt (tgt := 62) hx hb dX2_readAsk_52 (by decide) (fun c_5 => ?_) (fun c_5 => ?_)
        · have hF := ob_pos c_5 hF
          exact hJ_62 h_4 p1 r_4 hF H _ ls hP hD hS (lv_sub hl [1, 2, 3, 4, 0] rfl)
        · have hF := ob_neg c_5 hF
          refine lv_iload hx hb dX2_readAsk_55 (lv_at hl 0 rfl) ?_
          refine lv_bipush (v := 8) hx hb dX2_readAsk_57 (by decide) ?_
          refine lv_icmp_le (tgt := 68) hx hb dX2_readAsk_59 (by decide) (fun c_6 => ?_) (fun c_6 => ?_)
          · have hF := ob_pos c_6 hF
            exact hJ_68 h_4 p1 r_4 hF H _ ls hP hD hS (lv_sub hl [1, 2, 3, 4, 0] rfl)
          · have hF := ob_neg c_6 hF
            exact hJ_62 h_4 p1 r_4 hF H _ ls hP hD hS (lv_sub hl [1, 2, 3, 4, 0] rfl)
      · have hF := ob_pos c_2 hF
        refine lv_aload_n hx hb dX2_readAsk_9 rfl (lv_at hl 0 rfl) ?_
        refine lv_aload_n hx hb dX2_readAsk_10 rfl (lv_at hl 1 rfl) ?_
        refine lv_iload_n hx hb dX2_readAsk_11 rfl (lv_at hl 3 rfl) ?_
        obtain ⟨r_7, h_7, e_7, hF⟩ := ob2_some hF
        refine gx_calli (gx_runV (As := [.ref (q 11), .int p1]) (rest := []) ⟨hx, hb, hml, hown, hts⟩ (c_X2_opens l G cI cJ cZ cB cT q h_1 p1 r_7 h_7 e_7 H.size) (gG_V m_703 m_704 m_705 m_660 m_702) rfl e_X2_opens ⟨by show _ ≤ (4 + (n_R + 1)); omega, by show _ ≤ 100 * (4 + (n_R + 1)); omega⟩ hK hP hD hE hS hA 15 wC_at15 rfl rfl hl.1 rfl (Nat.le_of_ble_eq_true rfl) dX2_readAsk_12 ⟨Nat.le_refl _, Nat.le_refl _⟩) hP hD hS hA (fun x_7 u_7 H locs hw_7 hP hD hS => ?_)
        subst x_7
        refine lv_if_eq (tgt := 34) hx hb dX2_readAsk_15 (by decide) (fun c_8 => ?_) (fun c_8 => ?_)
        · have hF := ob_pos c_8 hF
          exact hJ_34 h_7 hF H _ ls hP hD hS (lv_sub hl [] rfl)
        · have hF := ob_neg c_8 hF
          refine lv_aload_n hx hb dX2_readAsk_18 rfl (lv_at hl 0 rfl) ?_
          refine lv_aload_n hx hb dX2_readAsk_19 rfl (lv_at hl 1 rfl) ?_
          refine lv_aload_n hx hb dX2_readAsk_20 rfl (lv_at hl 2 rfl) ?_
          refine lv_iload_n hx hb dX2_readAsk_21 rfl (lv_at hl 3 rfl) ?_
          refine lv_iconst (v := 1) hx hb dX2_readAsk_22 (by decide) ?_
          refine lv_iadd hx hb dX2_readAsk_23 ?_
          obtain ⟨h_9, e_9, hF⟩ := ob1_some hF
          refine gx_callv (gx_runV (As := [.ref (q 11), .ref (q 47), .int (p1 + 1)]) (rest := []) ⟨hx, hb, hml, hown, hts⟩ (ihR_X2_readAsk h_7 (p1 + 1) h_9 e_9 H.size) (gG_V m_695 m_696 m_697 m_660 m_698) rfl e_X2_readAsk ⟨by show _ ≤ (4 + (n_R + 1)); omega, by show _ ≤ 100 * (4 + (n_R + 1)); omega⟩ hK hP hD hE hS hA 15 wC_at15 rfl rfl hl.1 rfl (Nat.le_of_ble_eq_true rfl) dX2_readAsk_24 ⟨Nat.le_refl _, Nat.le_refl _⟩) hP hD hS hA (fun u_9 H locs hw_9 hP hD hS => ?_)
          refine lv_aload_n hx hb dX2_readAsk_27 rfl (lv_at hl 2 rfl) ?_
          refine lv_sipush (v := 20028) hx hb dX2_readAsk_28 (by decide) ?_
          obtain ⟨h_10, e_10, hF⟩ := ob1_some hF
          refine gx_callv (gx_runV (As := [.int 20028]) (rest := []) ⟨hx, hb, hml, hown, hts⟩ (c_X6_addStep_3 l G cI cJ cZ cB cT q h_9 20028 h_10 e_10 H.size) (gG_V m_670 m_671 m_672 m_563 m_669) rfl e_X6_addStep ⟨by show _ ≤ (4 + (n_R + 1)); omega, by show _ ≤ 100 * (4 + (n_R + 1)); omega⟩ hK hP hD hE hS hA 47 wC_at47 rfl rfl hl.1 rfl (Nat.le_of_ble_eq_true rfl) dX2_readAsk_31 ⟨Nat.le_refl _, Nat.le_refl _⟩) hP hD hS hA (fun u_10 H locs hw_10 hP hD hS => ?_)
          exact hJ_34 h_10 hF H _ ls hP hD hS (lv_sub hl [] rfl)
    · intro h p1 hh hF
      have hF : f_X2_readOne_3_b (fun h p1 p2 => G_read_3 n_R 0 h p1 p2) (fun h p1 => G_read_3 n_R 1 h p1 0) (fun h p1 => G_read_3 n_R 2 h p1 0) h p1 = some hh := hF
      intro sz
      refine gM_start (y := yX2_readOne) (av := [.ref (q 15), .ref (q 11), .ref (q 47), .int p1]) (ws := (wC q cI cJ cZ cB cT h)) (Qf := fun A => va_Qv (fun (_ : Unit) => True) (gB G (fun (_ : Unit) => (wC q cI cJ cZ cB cT hh)) A) A) (cc := cX2_readOne) (maxL := 5) (ret := none) (by decide) (Nat.le_of_ble_eq_true rfl) ?_
      intro p e s m args below meth c A ls H hx hb hr hts hown hin hlocks hml hP hK hD hA hS hl hE
      have hl : lv_has ls 5 [(0, .ref (q 15)), (1, .ref (q 11)), (2, .ref (q 47)), (3, .int p1)] := hl
      have hJ_121 : ∀ (h : HS), f_X2_readOne_3_121 (fun h p1 p2 => G_read_3 n_R 0 h p1 p2) (fun h p1 => G_read_3 n_R 1 h p1 0) (fun h p1 => G_read_3 n_R 2 h p1 0) h = some hh → ∀ (H : Heap) (locs : List Loc) (ls : Array Slot), va_P G vwCl (wC q cI cJ cZ cB cT h) H → va_D A (wC q cI cJ cZ cB cT h) → va_S A s.heap H locs → lv_has ls 5 [] → W p l e (gRm (4 + (n_R + 1))) s m args below meth c H locs 0 0 (MQ below (va_Qv (fun (_ : Unit) => True) (gB G (fun (_ : Unit) => (wC q cI cJ cZ cB cT hh)) A) A) args s 0 0 A) (F0 m 121 ls []) := by
        intro h hF H locs ls hP hD hS hl
        unfold f_X2_readOne_3_121 at hF
        obtain rfl := ob_one hF
        exact gw_vret () hx hb hr hlocks hP hD hS trivial dX2_readOne_121
      have hJ_44 : ∀ (h : HS) (x3 : Int32) (x4 : Int32), f_X2_readOne_3_44 (fun h p1 p2 => G_read_3 n_R 0 h p1 p2) (fun h p1 => G_read_3 n_R 1 h p1 0) (fun h p1 => G_read_3 n_R 2 h p1 0) h x3 x4 = some hh → ∀ (H : Heap) (locs : List Loc) (ls : Array Slot), va_P G vwCl (wC q cI cJ cZ cB cT h) H → va_D A (wC q cI cJ cZ cB cT h) → va_S A s.heap H locs → lv_has ls 5 [(0, .ref (q 15)), (1, .ref (q 11)), (2, .ref (q 47)), (3, .int x3), (4, .int x4)] → W p l e (gRm (4 + (n_R + 1))) s m args below meth c H locs 0 0 (MQ below (va_Qv (fun (_ : Unit) => True) (gB G (fun (_ : Unit) => (wC q cI cJ cZ cB cT hh)) A) A) args s 0 0 A) (F0 m 44 ls []) := by
        intro h x3 x4 hF H locs ls hP hD hS hl
        unfold f_X2_readOne_3_44 at hF
        refine lv_iload hx hb dX2_readOne_44 (lv_at hl 4 rfl) ?_
        refine lv_bipush (v := 13) hx hb dX2_readOne_46 (by decide) ?_
        refine lv_icmp_ne (tgt := 80) hx hb dX2_readOne_48 (by decide) (fun c_7 => ?_) (fun c_7 => ?_)
        · have hF := ob_neg c_7 hF
          refine lv_iload hx hb dX2_readOne_80 (lv_at hl 4 rfl) ?_
          refine lv_bipush (v := 10) hx hb dX2_readOne_82 (by decide) ?_
          refine lv_icmp_ne (tgt := 115) hx hb dX2_readOne_84 (by decide) (fun c_8 => ?_) (fun c_8 => ?_)
          · have hF := ob_neg c_8 hF
            refine lv_aload_n hx hb dX2_readOne_115 rfl (lv_at hl 0 rfl) ?_
            refine lv_aload_n hx hb dX2_readOne_116 rfl (lv_at hl 1 rfl) ?_
            refine lv_iconst (v := 1) hx hb dX2_readOne_117 (by decide) ?_
            obtain ⟨h_9, e_9, hF⟩ := ob1_some hF
            refine gx_callv (gx_runV (As := [.ref (q 11), .int 1]) (rest := []) ⟨hx, hb, hml, hown, hts⟩ (c_X2_fail l G cI cJ cZ cB cT q h 1 h_9 e_9 H.size) (gG_V m_657 m_658 m_659 m_660 m_656) rfl e_X2_fail ⟨by show _ ≤ (4 + (n_R + 1)); omega, by show _ ≤ 100 * (4 + (n_R + 1)); omega⟩ hK hP hD hE hS hA 15 wC_at15 rfl rfl hl.1 rfl (Nat.le_of_ble_eq_true rfl) dX2_readOne_118 ⟨Nat.le_refl _, Nat.le_refl _⟩) hP hD hS hA (fun u_9 H locs hw_9 hP hD hS => ?_)
            exact hJ_121 h_9 hF H _ ls hP hD hS (lv_sub hl [] rfl)
          · have hF := ob_pos c_8 hF
            refine lv_aload_n hx hb dX2_readOne_87 rfl (lv_at hl 0 rfl) ?_
            refine lv_aload_n hx hb dX2_readOne_88 rfl (lv_at hl 1 rfl) ?_
            refine lv_iload_n hx hb dX2_readOne_89 rfl (lv_at hl 3 rfl) ?_
            obtain ⟨r_10, h_10, e_10, hF⟩ := ob2_some hF
            refine gx_calli (gx_runV (As := [.ref (q 11), .int x3]) (rest := []) ⟨hx, hb, hml, hown, hts⟩ (c_X2_opens l G cI cJ cZ cB cT q h x3 r_10 h_10 e_10 H.size) (gG_V m_703 m_704 m_705 m_660 m_702) rfl e_X2_opens ⟨by show _ ≤ (4 + (n_R + 1)); omega, by show _ ≤ 100 * (4 + (n_R + 1)); omega⟩ hK hP hD hE hS hA 15 wC_at15 rfl rfl hl.1 rfl (Nat.le_of_ble_eq_true rfl) dX2_readOne_90 ⟨Nat.le_refl _, Nat.le_refl _⟩) hP hD hS hA (fun x_10 u_10 H locs hw_10 hP hD hS => ?_)
            subst x_10
            refine lv_if_eq (tgt := 121) hx hb dX2_readOne_93 (by decide) (fun c_11 => ?_) (fun c_11 => ?_)
            · have hF := ob_pos c_11 hF
              exact hJ_121 h_10 hF H _ ls hP hD hS (lv_sub hl [] rfl)
            · have hF := ob_neg c_11 hF
              refine lv_aload_n hx hb dX2_readOne_96 rfl (lv_at hl 0 rfl) ?_
              refine lv_aload_n hx hb dX2_readOne_97 rfl (lv_at hl 1 rfl) ?_
              refine lv_aload_n hx hb dX2_readOne_98 rfl (lv_at hl 2 rfl) ?_
              refine lv_iload_n hx hb dX2_readOne_99 rfl (lv_at hl 3 rfl) ?_
              refine lv_iconst (v := 1) hx hb dX2_readOne_100 (by decide) ?_
              refine lv_iadd hx hb dX2_readOne_101 ?_
              obtain ⟨h_12, e_12, hF⟩ := ob1_some hF
              refine gx_callv (gx_runV (As := [.ref (q 11), .ref (q 47), .int (x3 + 1)]) (rest := []) ⟨hx, hb, hml, hown, hts⟩ (ihR_X2_readOne h_10 (x3 + 1) h_12 e_12 H.size) (gG_V m_691 m_692 m_693 m_660 m_694) rfl e_X2_readOne ⟨by show _ ≤ (4 + (n_R + 1)); omega, by show _ ≤ 100 * (4 + (n_R + 1)); omega⟩ hK hP hD hE hS hA 15 wC_at15 rfl rfl hl.1 rfl (Nat.le_of_ble_eq_true rfl) dX2_readOne_102 ⟨Nat.le_refl _, Nat.le_refl _⟩) hP hD hS hA (fun u_12 H locs hw_12 hP hD hS => ?_)
              refine lv_aload_n hx hb dX2_readOne_105 rfl (lv_at hl 2 rfl) ?_
              refine lv_sipush (v := 20038) hx hb dX2_readOne_106 (by decide) ?_
              obtain ⟨h_13, e_13, hF⟩ := ob1_some hF
              refine gx_callv (gx_runV (As := [.int 20038]) (rest := []) ⟨hx, hb, hml, hown, hts⟩ (c_X6_addStep_3 l G cI cJ cZ cB cT q h_12 20038 h_13 e_13 H.size) (gG_V m_670 m_671 m_672 m_563 m_669) rfl e_X6_addStep ⟨by show _ ≤ (4 + (n_R + 1)); omega, by show _ ≤ 100 * (4 + (n_R + 1)); omega⟩ hK hP hD hE hS hA 47 wC_at47 rfl rfl hl.1 rfl (Nat.le_of_ble_eq_true rfl) dX2_readOne_109 ⟨Nat.le_refl _, Nat.le_refl _⟩) hP hD hS hA (fun u_13 H locs hw_13 hP hD hS => ?_)
              refine lv_goto (tgt := 121) hx hb dX2_readOne_112 (by decide) ?_
              exact hJ_121 h_13 hF H _ ls hP hD hS (lv_sub hl [] rfl)
        · have hF := ob_pos c_7 hF
          refine lv_aload_n hx hb dX2_readOne_51 rfl (lv_at hl 0 rfl) ?_
          refine lv_aload_n hx hb dX2_readOne_52 rfl (lv_at hl 1 rfl) ?_
          refine lv_iload_n hx hb dX2_readOne_53 rfl (lv_at hl 3 rfl) ?_
          obtain ⟨r_14, h_14, e_14, hF⟩ := ob2_some hF
          refine gx_calli (gx_runV (As := [.ref (q 11), .int x3]) (rest := []) ⟨hx, hb, hml, hown, hts⟩ (c_X2_opens l G cI cJ cZ cB cT q h x3 r_14 h_14 e_14 H.size) (gG_V m_703 m_704 m_705 m_660 m_702) rfl e_X2_opens ⟨by show _ ≤ (4 + (n_R + 1)); omega, by show _ ≤ 100 * (4 + (n_R + 1)); omega⟩ hK hP hD hE hS hA 15 wC_at15 rfl rfl hl.1 rfl (Nat.le_of_ble_eq_true rfl) dX2_readOne_54 ⟨Nat.le_refl _, Nat.le_refl _⟩) hP hD hS hA (fun x_14 u_14 H locs hw_14 hP hD hS => ?_)
          subst x_14
          refine lv_if_eq (tgt := 121) hx hb dX2_readOne_57 (by decide) (fun c_15 => ?_) (fun c_15 => ?_)
          · have hF := ob_pos c_15 hF
            exact hJ_121 h_14 hF H _ ls hP hD hS (lv_sub hl [] rfl)
          · have hF := ob_neg c_15 hF
            refine lv_aload_n hx hb dX2_readOne_60 rfl (lv_at hl 0 rfl) ?_
            refine lv_aload_n hx hb dX2_readOne_61 rfl (lv_at hl 1 rfl) ?_
            refine lv_aload_n hx hb dX2_readOne_62 rfl (lv_at hl 2 rfl) ?_
            refine lv_iconst (v := 3) hx hb dX2_readOne_63 (by decide) ?_
            refine lv_iload_n hx hb dX2_readOne_64 rfl (lv_at hl 3 rfl) ?_
            refine lv_iconst (v := 1) hx hb dX2_readOne_65 (by decide) ?_
            refine lv_iadd hx hb dX2_readOne_66 ?_
            obtain ⟨h_16, e_16, hF⟩ := ob1_some hF
            refine gx_callv (gx_runV (As := [.ref (q 11), .ref (q 47), .int 3, .int (x3 + 1)]) (rest := []) ⟨hx, hb, hml, hown, hts⟩ (ihR_X2_readLevel h_14 3 (x3 + 1) h_16 e_16 H.size) (gG_V m_687 m_688 m_689 m_660 m_690) rfl e_X2_readLevel ⟨by show _ ≤ (4 + (n_R + 1)); omega, by show _ ≤ 100 * (4 + (n_R + 1)); omega⟩ hK hP hD hE hS hA 15 wC_at15 rfl rfl hl.1 rfl (Nat.le_of_ble_eq_true rfl) dX2_readOne_67 ⟨Nat.le_refl _, Nat.le_refl _⟩) hP hD hS hA (fun u_16 H locs hw_16 hP hD hS => ?_)
            refine lv_aload_n hx hb dX2_readOne_70 rfl (lv_at hl 0 rfl) ?_
            refine lv_aload_n hx hb dX2_readOne_71 rfl (lv_at hl 1 rfl) ?_
            refine lv_bipush (v := 14) hx hb dX2_readOne_72 (by decide) ?_
            obtain ⟨h_17, e_17, hF⟩ := ob1_some hF
            refine gx_callv (gx_runV (As := [.ref (q 11), .int 14]) (rest := []) ⟨hx, hb, hml, hown, hts⟩ (c_X2_expect l G cI cJ cZ cB cT q h_16 14 h_17 e_17 H.size) (gG_V m_684 m_685 m_686 m_660 m_683) rfl e_X2_expect ⟨by show _ ≤ (4 + (n_R + 1)); omega, by show _ ≤ 100 * (4 + (n_R + 1)); omega⟩ hK hP hD hE hS hA 15 wC_at15 rfl rfl hl.1 rfl (Nat.le_of_ble_eq_true rfl) dX2_readOne_74 ⟨Nat.le_refl _, Nat.le_refl _⟩) hP hD hS hA (fun u_17 H locs hw_17 hP hD hS => ?_)
            refine lv_goto (tgt := 121) hx hb dX2_readOne_77 (by decide) ?_
            exact hJ_121 h_17 hF H _ ls hP hD hS (lv_sub hl [] rfl)
      unfold f_X2_readOne_3_b at hF
      refine lv_aload_n hx hb dX2_readOne_0 rfl (lv_at hl 1 rfl) ?_
      obtain ⟨r_1, h_1, e_1, hF⟩ := ob2_some hF
      refine gx_calli (gx_runV (As := []) (rest := []) ⟨hx, hb, hml, hown, hts⟩ (c_X7_kind l G cI cJ cZ cB cT q h  r_1 h_1 e_1 H.size) (gG_V m_653 m_654 m_655 m_417 m_652) rfl e_X7_kind ⟨by show _ ≤ (4 + (n_R + 1)); omega, by show _ ≤ 100 * (4 + (n_R + 1)); omega⟩ hK hP hD hE hS hA 11 wC_at11 rfl rfl hl.1 rfl (Nat.le_of_ble_eq_true rfl) dX2_readOne_1 ⟨Nat.le_refl _, Nat.le_refl _⟩) hP hD hS hA (fun x_1 u_1 H locs hw_1 hP hD hS => ?_)
      subst x_1
      refine lv_istore (lv' := [(4, .int r_1), (0, .ref (q 15)), (1, .ref (q 11)), (2, .ref (q 47)), (3, .int p1)]) hx hb dX2_readOne_4 hl (by decide) rfl (fun ls hl => ?_)
      refine lv_iload hx hb dX2_readOne_6 (lv_at hl 0 rfl) ?_
      refine lv_iconst (v := 2) hx hb dX2_readOne_8 (by decide) ?_
      refine lv_icmp_ne (tgt := 21) hx hb dX2_readOne_9 (by decide) (fun c_2 => ?_) (fun c_2 => ?_)
      · have hF := ob_neg c_2 hF
        refine lv_iload hx hb dX2_readOne_21 (lv_at hl 0 rfl) ?_
        refine lv_bipush (v := 29) hx hb dX2_readOne_23 (by decide) ?_
        refine lv_icmp_lt (tgt := 44) hx hb dX2_readOne_25 (by decide) (fun c_3 => ?_) (fun c_3 => ?_)
        · have hF := ob_pos c_3 hF
          exact hJ_44 h_1 p1 r_1 hF H _ ls hP hD hS (lv_sub hl [1, 2, 3, 4, 0] rfl)
        · have hF := ob_neg c_3 hF
          refine lv_iload hx hb dX2_readOne_28 (lv_at hl 0 rfl) ?_
          refine lv_bipush (v := 37) hx hb dX2_readOne_30 (by decide) ?_
          refine lv_icmp_gt (tgt := 44) hx hb dX2_readOne_32 (by decide) (fun c_4 => ?_) (fun c_4 => ?_)
          · have hF := ob_pos c_4 hF
            exact hJ_44 h_1 p1 r_1 hF H _ ls hP hD hS (lv_sub hl [1, 2, 3, 4, 0] rfl)
          · have hF := ob_neg c_4 hF
            refine lv_aload_n hx hb dX2_readOne_35 rfl (lv_at hl 1 rfl) ?_
            refine lv_aload_n hx hb dX2_readOne_36 rfl (lv_at hl 2 rfl) ?_
            refine lv_aload_n hx hb dX2_readOne_37 rfl (lv_at hl 3 rfl) ?_
            obtain ⟨h_5, e_5, hF⟩ := ob1_some hF
            refine gx_callv (gx_runV (As := [.ref (q 11), .ref (q 47)]) (rest := []) ⟨hx, hb, hml, hown, hts⟩ (c_X2_readName_3 l G cI cJ cZ cB cT q h_1  h_5 e_5 H.size) (gG_V m_707 m_708 m_709 m_660 m_706) rfl e_X2_readName ⟨by show _ ≤ (4 + (n_R + 1)); omega, by show _ ≤ 100 * (4 + (n_R + 1)); omega⟩ hK hP hD hE hS hA 15 wC_at15 rfl rfl hl.1 rfl (Nat.le_of_ble_eq_true rfl) dX2_readOne_38 ⟨Nat.le_refl _, Nat.le_refl _⟩) hP hD hS hA (fun u_5 H locs hw_5 hP hD hS => ?_)
            refine lv_goto (tgt := 121) hx hb dX2_readOne_41 (by decide) ?_
            exact hJ_121 h_5 hF H _ ls hP hD hS (lv_sub hl [] rfl)
      · have hF := ob_pos c_2 hF
        refine lv_aload_n hx hb dX2_readOne_12 rfl (lv_at hl 1 rfl) ?_
        refine lv_aload_n hx hb dX2_readOne_13 rfl (lv_at hl 2 rfl) ?_
        refine lv_aload_n hx hb dX2_readOne_14 rfl (lv_at hl 3 rfl) ?_
        obtain ⟨h_6, e_6, hF⟩ := ob1_some hF
        refine gx_callv (gx_runV (As := [.ref (q 11), .ref (q 47)]) (rest := []) ⟨hx, hb, hml, hown, hts⟩ (c_X2_readValue_3 l G cI cJ cZ cB cT q h_1  h_6 e_6 H.size) (gG_V m_711 m_712 m_713 m_660 m_710) rfl e_X2_readValue ⟨by show _ ≤ (4 + (n_R + 1)); omega, by show _ ≤ 100 * (4 + (n_R + 1)); omega⟩ hK hP hD hE hS hA 15 wC_at15 rfl rfl hl.1 rfl (Nat.le_of_ble_eq_true rfl) dX2_readOne_15 ⟨Nat.le_refl _, Nat.le_refl _⟩) hP hD hS hA (fun u_6 H locs hw_6 hP hD hS => ?_)
        refine lv_goto (tgt := 121) hx hb dX2_readOne_18 (by decide) ?_
        exact hJ_121 h_6 hF H _ ls hP hD hS (lv_sub hl [] rfl)
def f_X2_readClause_3_158 (h : HS) : Option HS := (some h)
def f_X2_readClause_3_25 (h : HS) : Option HS := (ob1 (f_X2_fail h 1) (fun h_15 => (f_X2_readClause_3_158 h_15)))
def f_X2_readClause_3_141 (h : HS) : Option HS := (ob1 (f_X2_expect h 15) (fun h_16 => (f_X2_readClause_3_158 (sI h_16 12 1 ((eI h_16 12 1) + 1)))))
def f_X2_readClause_3_119 (h : HS) (y0 : Int32) : Option HS := (ob1 (G_read_3 200 0 h y0 0) (fun h_17 => (ob1 (f_X6_closeLaw_3 h_17 (eI h_17 5 2)) (fun h_18 => (f_X2_readClause_3_141 h_18)))))
def f_X2_readClause_3 (h : HS) : Option HS := (ob2 (f_X7_kind h) (fun r_1 h_1 => (if r_1 < 16 then (f_X2_readClause_3_25 (sI h_1 5 2 (r_1 - 16))) else (if r_1 ≤ 23 then (ob2 (f_X6_hasLaw_3 (sI h_1 5 2 (r_1 - 16)) (r_1 - 16)) (fun r_4 h_4 => (if r_4 = 0 then (if (eI h_4 12 1) < 24 then (ob1 (f_X6_setClause_3 h_4 (eI h_4 12 1) 0 r_1) (fun h_7 => (ob1 (f_X7_advance h_7) (fun h_8 => (if 4 ≤ (eI h_8 5 2) then (ob1 (f_X2_readDeed_3 h_8 r_1) (fun h_10 => (f_X2_readClause_3_141 h_10))) else (ob1 (f_X6_beginLaw_3 h_8 (eI h_8 5 2)) (fun h_11 => (if (eI h_11 5 2) = 3 then (f_X2_readClause_3_119 h_11 0) else (f_X2_readClause_3_119 h_11 3))))))))) else (ob1 (f_X2_fail h_4 6) (fun h_13 => (f_X2_readClause_3_158 h_13)))) else (ob1 (f_X2_fail h_4 4) (fun h_14 => (f_X2_readClause_3_158 h_14)))))) else (f_X2_readClause_3_25 (sI h_1 5 2 (r_1 - 16)))))))
set_option maxHeartbeats 4000000 in
set_option maxRecDepth 100000 in
theorem c_X2_readClause_3 (l : Launch) (G : va_G) (cI cJ cZ cB cT : ClassId) (q : Nat → Nat) (h : HS)  (hh : HS) (hF : f_X2_readClause_3 h = some hh) : gMv l yX2_readClause (gws yX2_readClause cX2_readClause 4 none) 205 G (gT cI cJ cZ cB cT) [.ref (q 15), .ref (q 11), .ref (q 47)] (wC q cI cJ cZ cB cT h) (fun (_ : Unit) => True) (fun (_ : Unit) => (wC q cI cJ cZ cB cT hh)) := by
  intro sz
  refine gM_start (y := yX2_readClause) (av := [.ref (q 15), .ref (q 11), .ref (q 47)]) (ws := (wC q cI cJ cZ cB cT h)) (Qf := fun A => va_Qv (fun (_ : Unit) => True) (gB G (fun (_ : Unit) => (wC q cI cJ cZ cB cT hh)) A) A) (cc := cX2_readClause) (maxL := 4) (ret := none) (by decide) (Nat.le_of_ble_eq_true rfl) ?_
  intro p e s m args below meth c A ls H hx hb hr hts hown hin hlocks hml hP hK hD hA hS hl hE
  have hl : lv_has ls 4 [(0, .ref (q 15)), (1, .ref (q 11)), (2, .ref (q 47))] := hl
  have hJ_158 : ∀ (h : HS), f_X2_readClause_3_158 h = some hh → ∀ (H : Heap) (locs : List Loc) (ls : Array Slot), va_P G vwCl (wC q cI cJ cZ cB cT h) H → va_D A (wC q cI cJ cZ cB cT h) → va_S A s.heap H locs → lv_has ls 4 [] → W p l e (gRm 205) s m args below meth c H locs 0 0 (MQ below (va_Qv (fun (_ : Unit) => True) (gB G (fun (_ : Unit) => (wC q cI cJ cZ cB cT hh)) A) A) args s 0 0 A) (F0 m 158 ls []) := by
    intro h hF H locs ls hP hD hS hl
    unfold f_X2_readClause_3_158 at hF
    obtain rfl := ob_one hF
    exact gw_vret () hx hb hr hlocks hP hD hS trivial dX2_readClause_158
  have hJ_25 : ∀ (h : HS), f_X2_readClause_3_25 h = some hh → ∀ (H : Heap) (locs : List Loc) (ls : Array Slot), va_P G vwCl (wC q cI cJ cZ cB cT h) H → va_D A (wC q cI cJ cZ cB cT h) → va_S A s.heap H locs → lv_has ls 4 [(0, .ref (q 15)), (1, .ref (q 11))] → W p l e (gRm 205) s m args below meth c H locs 0 0 (MQ below (va_Qv (fun (_ : Unit) => True) (gB G (fun (_ : Unit) => (wC q cI cJ cZ cB cT hh)) A) A) args s 0 0 A) (F0 m 25 ls []) := by
    intro h hF H locs ls hP hD hS hl
    unfold f_X2_readClause_3_25 at hF
    refine lv_aload_n hx hb dX2_readClause_25 rfl (lv_at hl 0 rfl) ?_
    refine lv_aload_n hx hb dX2_readClause_26 rfl (lv_at hl 1 rfl) ?_
    refine lv_iconst (v := 1) hx hb dX2_readClause_27 (by decide) ?_
    obtain ⟨h_15, e_15, hF⟩ := ob1_some hF
    refine gx_callv (gx_runV (As := [.ref (q 11), .int 1]) (rest := []) ⟨hx, hb, hml, hown, hts⟩ (c_X2_fail l G cI cJ cZ cB cT q h 1 h_15 e_15 H.size) (gG_V m_657 m_658 m_659 m_660 m_656) rfl e_X2_fail ⟨Nat.le_of_ble_eq_true rfl, Nat.le_of_ble_eq_true rfl⟩ hK hP hD hE hS hA 15 wC_at15 rfl rfl hl.1 rfl (Nat.le_of_ble_eq_true rfl) dX2_readClause_28 ⟨Nat.le_refl _, Nat.le_refl _⟩) hP hD hS hA (fun u_15 H locs hw_15 hP hD hS => ?_)
    refine lv_goto (tgt := 158) hx hb dX2_readClause_31 (by decide) ?_
    exact hJ_158 h_15 hF H _ ls hP hD hS (lv_sub hl [] rfl)
  have hJ_141 : ∀ (h : HS), f_X2_readClause_3_141 h = some hh → ∀ (H : Heap) (locs : List Loc) (ls : Array Slot), va_P G vwCl (wC q cI cJ cZ cB cT h) H → va_D A (wC q cI cJ cZ cB cT h) → va_S A s.heap H locs → lv_has ls 4 [(0, .ref (q 15)), (1, .ref (q 11)), (2, .ref (q 47))] → W p l e (gRm 205) s m args below meth c H locs 0 0 (MQ below (va_Qv (fun (_ : Unit) => True) (gB G (fun (_ : Unit) => (wC q cI cJ cZ cB cT hh)) A) A) args s 0 0 A) (F0 m 141 ls []) := by
    intro h hF H locs ls hP hD hS hl
    unfold f_X2_readClause_3_141 at hF
    refine lv_aload_n hx hb dX2_readClause_141 rfl (lv_at hl 0 rfl) ?_
    refine lv_aload_n hx hb dX2_readClause_142 rfl (lv_at hl 1 rfl) ?_
    refine lv_bipush (v := 15) hx hb dX2_readClause_143 (by decide) ?_
    obtain ⟨h_16, e_16, hF⟩ := ob1_some hF
    refine gx_callv (gx_runV (As := [.ref (q 11), .int 15]) (rest := []) ⟨hx, hb, hml, hown, hts⟩ (c_X2_expect l G cI cJ cZ cB cT q h 15 h_16 e_16 H.size) (gG_V m_684 m_685 m_686 m_660 m_683) rfl e_X2_expect ⟨Nat.le_of_ble_eq_true rfl, Nat.le_of_ble_eq_true rfl⟩ hK hP hD hE hS hA 15 wC_at15 rfl rfl hl.1 rfl (Nat.le_of_ble_eq_true rfl) dX2_readClause_145 ⟨Nat.le_refl _, Nat.le_refl _⟩) hP hD hS hA (fun u_16 H locs hw_16 hP hD hS => ?_)
    refine lv_aload_n hx hb dX2_readClause_148 rfl (lv_at hl 2 rfl) ?_
    refine lv_dup hx hb dX2_readClause_149 rfl ?_
    refine va_get (D := G) (ci := 6) (v := .int (eI h_16 12 1)) (C := RX6) (T := TX6) (N := 6) hx hb hts iX6 hown hK hP 47 wC_at47 rfl 1 (by decide) (hts _ m_674) (fun _ h9 => h9) rfl dX2_readClause_150 ?_
    refine lv_iconst (v := 1) hx hb dX2_readClause_153 (by decide) ?_
    refine lv_iadd hx hb dX2_readClause_154 ?_
    refine va_put (D := G) (ci := 6) (v := .int ((eI h_16 12 1) + 1)) (ty := .int) (C := RX6) (T := TX6) (N := 6) hx hb hts iX6 tyX6 tyX6_ok nmX6 hown hK hP hD hS 47 wC_at47 rfl 1 (by decide) (hts _ m_674) (fun _ h9 => h9) rfl (tyX6_ok 1 (by decide)) rfl rfl (Nat.le_of_ble_eq_true rfl) dX2_readClause_155 (fun H locs hP hD hS => ?_)
    rw [wC_sI47_1] at hP hD
    exact hJ_158 (sI h_16 12 1 ((eI h_16 12 1) + 1)) hF H _ ls hP hD hS (lv_sub hl [] rfl)
  have hJ_119 : ∀ (h : HS) (y0 : Int32), f_X2_readClause_3_119 h y0 = some hh → ∀ (H : Heap) (locs : List Loc) (ls : Array Slot), va_P G vwCl (wC q cI cJ cZ cB cT h) H → va_D A (wC q cI cJ cZ cB cT h) → va_S A s.heap H locs → lv_has ls 4 [(0, .ref (q 15)), (1, .ref (q 11)), (2, .ref (q 47))] → W p l e (gRm 205) s m args below meth c H locs 0 0 (MQ below (va_Qv (fun (_ : Unit) => True) (gB G (fun (_ : Unit) => (wC q cI cJ cZ cB cT hh)) A) A) args s 0 0 A) (F0 m 119 ls [.int y0, .ref (q 47), .ref (q 11), .ref (q 15)]) := by
    intro h y0 hF H locs ls hP hD hS hl
    unfold f_X2_readClause_3_119 at hF
    refine lv_iconst (v := 0) hx hb dX2_readClause_119 (by decide) ?_
    obtain ⟨h_17, e_17, hF⟩ := ob1_some hF
    refine gx_callv (gx_runV (As := [.ref (q 11), .ref (q 47), .int y0, .int 0]) (rest := []) ⟨hx, hb, hml, hown, hts⟩ ((c_G_read_3 l G cI cJ cZ cB cT q 200).1 h y0 0 h_17 e_17 H.size) (gG_V m_687 m_688 m_689 m_660 m_690) rfl e_X2_readLevel ⟨Nat.le_of_ble_eq_true rfl, Nat.le_of_ble_eq_true rfl⟩ hK hP hD hE hS hA 15 wC_at15 rfl rfl hl.1 rfl (Nat.le_of_ble_eq_true rfl) dX2_readClause_120 ⟨Nat.le_refl _, Nat.le_refl _⟩) hP hD hS hA (fun u_17 H locs hw_17 hP hD hS => ?_)
    refine lv_aload_n hx hb dX2_readClause_123 rfl (lv_at hl 2 rfl) ?_
    refine lv_aload_n hx hb dX2_readClause_124 rfl (lv_at hl 0 rfl) ?_
    refine va_get (D := G) (ci := 2) (v := .int (eI h_17 5 2)) (C := RX2) (T := TX2) (N := 3) hx hb hts iX2 hown hK hP 15 wC_at15 rfl 2 (by decide) (hts _ m_673) (fun _ h9 => h9) rfl dX2_readClause_125 ?_
    obtain ⟨h_18, e_18, hF⟩ := ob1_some hF
    refine gx_callv (gx_runV (As := [.int (eI h_17 5 2)]) (rest := []) ⟨hx, hb, hml, hown, hts⟩ (c_X6_closeLaw_3 l G cI cJ cZ cB cT q h_17 (eI h_17 5 2) h_18 e_18 H.size) (gG_V m_724 m_725 m_726 m_563 m_723) rfl e_X6_closeLaw ⟨Nat.le_of_ble_eq_true rfl, Nat.le_of_ble_eq_true rfl⟩ hK hP hD hE hS hA 47 wC_at47 rfl rfl hl.1 rfl (Nat.le_of_ble_eq_true rfl) dX2_readClause_128 ⟨Nat.le_refl _, Nat.le_refl _⟩) hP hD hS hA (fun u_18 H locs hw_18 hP hD hS => ?_)
    refine lv_goto (tgt := 141) hx hb dX2_readClause_131 (by decide) ?_
    exact hJ_141 h_18 hF H _ ls hP hD hS (lv_sub hl [0, 1, 2] rfl)
  unfold f_X2_readClause_3 at hF
  refine lv_aload_n hx hb dX2_readClause_0 rfl (lv_at hl 1 rfl) ?_
  obtain ⟨r_1, h_1, e_1, hF⟩ := ob2_some hF
  refine gx_calli (gx_runV (As := []) (rest := []) ⟨hx, hb, hml, hown, hts⟩ (c_X7_kind l G cI cJ cZ cB cT q h  r_1 h_1 e_1 H.size) (gG_V m_653 m_654 m_655 m_417 m_652) rfl e_X7_kind ⟨Nat.le_of_ble_eq_true rfl, Nat.le_of_ble_eq_true rfl⟩ hK hP hD hE hS hA 11 wC_at11 rfl rfl hl.1 rfl (Nat.le_of_ble_eq_true rfl) dX2_readClause_1 ⟨Nat.le_refl _, Nat.le_refl _⟩) hP hD hS hA (fun x_1 u_1 H locs hw_1 hP hD hS => ?_)
  subst x_1
  refine lv_istore_n (lv' := [(3, .int r_1), (0, .ref (q 15)), (1, .ref (q 11)), (2, .ref (q 47))]) hx hb dX2_readClause_4 rfl hl (by decide) rfl (fun ls hl => ?_)
  refine lv_aload_n hx hb dX2_readClause_5 rfl (lv_at hl 1 rfl) ?_
  refine lv_iload_n hx hb dX2_readClause_6 rfl (lv_at hl 0 rfl) ?_
  refine lv_bipush (v := 16) hx hb dX2_readClause_7 (by decide) ?_
  refine lv_isub hx hb dX2_readClause_9 ?_
  refine va_put (D := G) (ci := 2) (v := .int (r_1 - 16)) (ty := .int) (C := RX2) (T := TX2) (N := 3) hx hb hts iX2 tyX2 tyX2_ok nmX2 hown hK hP hD hS 15 wC_at15 rfl 2 (by decide) (hts _ m_673) (fun _ h9 => h9) rfl (tyX2_ok 2 (by decide)) rfl rfl (Nat.le_of_ble_eq_true rfl) dX2_readClause_10 (fun H locs hP hD hS => ?_)
  rw [wC_sI15_2] at hP hD
  refine lv_iload_n hx hb dX2_readClause_13 rfl (lv_at hl 0 rfl) ?_
  refine lv_bipush (v := 16) hx hb dX2_readClause_14 (by decide) ?_
  refine lv_icmp_lt (tgt := 25) hx hb dX2_readClause_16 (by decide) (fun c_2 => ?_) (fun c_2 => ?_)
  · have hF := ob_pos c_2 hF
    exact hJ_25 (sI h_1 5 2 (r_1 - 16)) hF H _ ls hP hD hS (lv_sub hl [1, 2] rfl)
  · have hF := ob_neg c_2 hF
    refine lv_iload_n hx hb dX2_readClause_19 rfl (lv_at hl 0 rfl) ?_
    refine lv_bipush (v := 23) hx hb dX2_readClause_20 (by decide) ?_
    refine lv_icmp_le (tgt := 34) hx hb dX2_readClause_22 (by decide) (fun c_3 => ?_) (fun c_3 => ?_)
    · have hF := ob_pos c_3 hF
      refine lv_aload_n hx hb dX2_readClause_34 rfl (lv_at hl 3 rfl) ?_
      refine lv_aload_n hx hb dX2_readClause_35 rfl (lv_at hl 1 rfl) ?_
      refine va_get (D := G) (ci := 2) (v := .int (r_1 - 16)) (C := RX2) (T := TX2) (N := 3) hx hb hts iX2 hown hK hP 15 wC_at15 rfl 2 (by decide) (hts _ m_673) (fun _ h9 => h9) rfl dX2_readClause_36 ?_
      obtain ⟨r_4, h_4, e_4, hF⟩ := ob2_some hF
      refine gx_calli (gx_runV (As := [.int (r_1 - 16)]) (rest := []) ⟨hx, hb, hml, hown, hts⟩ (c_X6_hasLaw_3 l G cI cJ cZ cB cT q (sI h_1 5 2 (r_1 - 16)) (r_1 - 16) r_4 h_4 e_4 H.size) (gG_V m_714 m_561 m_562 m_563 m_559) rfl e_X6_hasLaw ⟨Nat.le_of_ble_eq_true rfl, Nat.le_of_ble_eq_true rfl⟩ hK hP hD hE hS hA 47 wC_at47 rfl rfl hl.1 rfl (Nat.le_of_ble_eq_true rfl) dX2_readClause_39 ⟨Nat.le_refl _, Nat.le_refl _⟩) hP hD hS hA (fun x_4 u_4 H locs hw_4 hP hD hS => ?_)
      subst x_4
      refine lv_if_eq (tgt := 54) hx hb dX2_readClause_42 (by decide) (fun c_5 => ?_) (fun c_5 => ?_)
      · have hF := ob_pos c_5 hF
        refine lv_aload_n hx hb dX2_readClause_54 rfl (lv_at hl 3 rfl) ?_
        refine va_get (D := G) (ci := 6) (v := .int (eI h_4 12 1)) (C := RX6) (T := TX6) (N := 6) hx hb hts iX6 hown hK hP 47 wC_at47 rfl 1 (by decide) (hts _ m_674) (fun _ h9 => h9) rfl dX2_readClause_55 ?_
        refine lv_bipush (v := 24) hx hb dX2_readClause_58 (by decide) ?_
        refine lv_icmp_lt (tgt := 73) hx hb dX2_readClause_60 (by decide) (fun c_6 => ?_) (fun c_6 => ?_)
        · have hF := ob_pos c_6 hF
          refine lv_aload_n hx hb dX2_readClause_73 rfl (lv_at hl 3 rfl) ?_
          refine lv_aload_n hx hb dX2_readClause_74 rfl (lv_at hl 3 rfl) ?_
          refine va_get (D := G) (ci := 6) (v := .int (eI h_4 12 1)) (C := RX6) (T := TX6) (N := 6) hx hb hts iX6 hown hK hP 47 wC_at47 rfl 1 (by decide) (hts _ m_674) (fun _ h9 => h9) rfl dX2_readClause_75 ?_
          refine lv_iconst (v := 0) hx hb dX2_readClause_78 (by decide) ?_
          refine lv_iload_n hx hb dX2_readClause_79 rfl (lv_at hl 0 rfl) ?_
          obtain ⟨h_7, e_7, hF⟩ := ob1_some hF
          refine gx_callv (gx_runV (As := [.int (eI h_4 12 1), .int 0, .int r_1]) (rest := []) ⟨hx, hb, hml, hown, hts⟩ (c_X6_setClause_3 l G cI cJ cZ cB cT q h_4 (eI h_4 12 1) 0 r_1 h_7 e_7 H.size) (gG_V m_676 m_677 m_678 m_563 m_675) rfl e_X6_setClause ⟨Nat.le_of_ble_eq_true rfl, Nat.le_of_ble_eq_true rfl⟩ hK hP hD hE hS hA 47 wC_at47 rfl rfl hl.1 rfl (Nat.le_of_ble_eq_true rfl) dX2_readClause_80 ⟨Nat.le_refl _, Nat.le_refl _⟩) hP hD hS hA (fun u_7 H locs hw_7 hP hD hS => ?_)
          refine lv_aload_n hx hb dX2_readClause_83 rfl (lv_at hl 2 rfl) ?_
          obtain ⟨h_8, e_8, hF⟩ := ob1_some hF
          refine gx_callv (gx_runV (As := []) (rest := []) ⟨hx, hb, hml, hown, hts⟩ (c_X7_advance l G cI cJ cZ cB cT q h_7  h_8 e_8 H.size) (gG_V m_662 m_663 m_664 m_417 m_661) rfl e_X7_advance ⟨Nat.le_of_ble_eq_true rfl, Nat.le_of_ble_eq_true rfl⟩ hK hP hD hE hS hA 11 wC_at11 rfl rfl hl.1 rfl (Nat.le_of_ble_eq_true rfl) dX2_readClause_84 ⟨Nat.le_refl _, Nat.le_refl _⟩) hP hD hS hA (fun u_8 H locs hw_8 hP hD hS => ?_)
          refine lv_aload_n hx hb dX2_readClause_87 rfl (lv_at hl 1 rfl) ?_
          refine va_get (D := G) (ci := 2) (v := .int (eI h_8 5 2)) (C := RX2) (T := TX2) (N := 3) hx hb hts iX2 hown hK hP 15 wC_at15 rfl 2 (by decide) (hts _ m_673) (fun _ h9 => h9) rfl dX2_readClause_88 ?_
          refine lv_iconst (v := 4) hx hb dX2_readClause_91 (by decide) ?_
          refine lv_icmp_ge (tgt := 134) hx hb dX2_readClause_92 (by decide) (fun c_9 => ?_) (fun c_9 => ?_)
          · have hF := ob_pos c_9 hF
            refine lv_aload_n hx hb dX2_readClause_134 rfl (lv_at hl 1 rfl) ?_
            refine lv_aload_n hx hb dX2_readClause_135 rfl (lv_at hl 2 rfl) ?_
            refine lv_aload_n hx hb dX2_readClause_136 rfl (lv_at hl 3 rfl) ?_
            refine lv_iload_n hx hb dX2_readClause_137 rfl (lv_at hl 0 rfl) ?_
            obtain ⟨h_10, e_10, hF⟩ := ob1_some hF
            refine gx_callv (gx_runV (As := [.ref (q 11), .ref (q 47), .int r_1]) (rest := []) ⟨hx, hb, hml, hown, hts⟩ (c_X2_readDeed_3 l G cI cJ cZ cB cT q h_8 r_1 h_10 e_10 H.size) (gG_V m_716 m_717 m_718 m_660 m_715) rfl e_X2_readDeed ⟨Nat.le_of_ble_eq_true rfl, Nat.le_of_ble_eq_true rfl⟩ hK hP hD hE hS hA 15 wC_at15 rfl rfl hl.1 rfl (Nat.le_of_ble_eq_true rfl) dX2_readClause_138 ⟨Nat.le_refl _, Nat.le_refl _⟩) hP hD hS hA (fun u_10 H locs hw_10 hP hD hS => ?_)
            exact hJ_141 h_10 hF H _ ls hP hD hS (lv_sub hl [1, 2, 3] rfl)
          · have hF := ob_neg c_9 hF
            refine lv_aload_n hx hb dX2_readClause_95 rfl (lv_at hl 3 rfl) ?_
            refine lv_aload_n hx hb dX2_readClause_96 rfl (lv_at hl 1 rfl) ?_
            refine va_get (D := G) (ci := 2) (v := .int (eI h_8 5 2)) (C := RX2) (T := TX2) (N := 3) hx hb hts iX2 hown hK hP 15 wC_at15 rfl 2 (by decide) (hts _ m_673) (fun _ h9 => h9) rfl dX2_readClause_97 ?_
            obtain ⟨h_11, e_11, hF⟩ := ob1_some hF
            refine gx_callv (gx_runV (As := [.int (eI h_8 5 2)]) (rest := []) ⟨hx, hb, hml, hown, hts⟩ (c_X6_beginLaw_3 l G cI cJ cZ cB cT q h_8 (eI h_8 5 2) h_11 e_11 H.size) (gG_V m_720 m_721 m_722 m_563 m_719) rfl e_X6_beginLaw ⟨Nat.le_of_ble_eq_true rfl, Nat.le_of_ble_eq_true rfl⟩ hK hP hD hE hS hA 47 wC_at47 rfl rfl hl.1 rfl (Nat.le_of_ble_eq_true rfl) dX2_readClause_100 ⟨Nat.le_refl _, Nat.le_refl _⟩) hP hD hS hA (fun u_11 H locs hw_11 hP hD hS => ?_)
            refine lv_aload_n hx hb dX2_readClause_103 rfl (lv_at hl 1 rfl) ?_
            refine lv_aload_n hx hb dX2_readClause_104 rfl (lv_at hl 2 rfl) ?_
            refine lv_aload_n hx hb dX2_readClause_105 rfl (lv_at hl 3 rfl) ?_
            refine lv_aload_n hx hb dX2_readClause_106 rfl (lv_at hl 1 rfl) ?_
            refine va_get (D := G) (ci := 2) (v := .int (eI h_11 5 2)) (C := RX2) (T := TX2) (N := 3) hx hb hts iX2 hown hK hP 15 wC_at15 rfl 2 (by decide) (hts _ m_673) (fun _ h9 => h9) rfl dX2_readClause_107 ?_
            refine lv_iconst (v := 3) hx hb dX2_readClause_110 (by decide) ?_
            refine lv_icmp_ne (tgt := 118) hx hb dX2_readClause_111 (by decide) (fun c_12 => ?_) (fun c_12 => ?_)
            · have hF := ob_neg c_12 hF
              refine lv_iconst (v := 3) hx hb dX2_readClause_118 (by decide) ?_
              exact hJ_119 h_11 3 hF H _ ls hP hD hS (lv_sub hl [1, 2, 3] rfl)
            · have hF := ob_pos c_12 hF
              refine lv_iconst (v := 0) hx hb dX2_readClause_114 (by decide) ?_
              refine lv_goto (tgt := 119) hx hb dX2_readClause_115 (by decide) ?_
              exact hJ_119 h_11 0 hF H _ ls hP hD hS (lv_sub hl [1, 2, 3] rfl)
        · have hF := ob_neg c_6 hF
          refine lv_aload_n hx hb dX2_readClause_63 rfl (lv_at hl 1 rfl) ?_
          refine lv_aload_n hx hb dX2_readClause_64 rfl (lv_at hl 2 rfl) ?_
          refine lv_bipush (v := 6) hx hb dX2_readClause_65 (by decide) ?_
          obtain ⟨h_13, e_13, hF⟩ := ob1_some hF
          refine gx_callv (gx_runV (As := [.ref (q 11), .int 6]) (rest := []) ⟨hx, hb, hml, hown, hts⟩ (c_X2_fail l G cI cJ cZ cB cT q h_4 6 h_13 e_13 H.size) (gG_V m_657 m_658 m_659 m_660 m_656) rfl e_X2_fail ⟨Nat.le_of_ble_eq_true rfl, Nat.le_of_ble_eq_true rfl⟩ hK hP hD hE hS hA 15 wC_at15 rfl rfl hl.1 rfl (Nat.le_of_ble_eq_true rfl) dX2_readClause_67 ⟨Nat.le_refl _, Nat.le_refl _⟩) hP hD hS hA (fun u_13 H locs hw_13 hP hD hS => ?_)
          refine lv_goto (tgt := 158) hx hb dX2_readClause_70 (by decide) ?_
          exact hJ_158 h_13 hF H _ ls hP hD hS (lv_sub hl [] rfl)
      · have hF := ob_neg c_5 hF
        refine lv_aload_n hx hb dX2_readClause_45 rfl (lv_at hl 1 rfl) ?_
        refine lv_aload_n hx hb dX2_readClause_46 rfl (lv_at hl 2 rfl) ?_
        refine lv_iconst (v := 4) hx hb dX2_readClause_47 (by decide) ?_
        obtain ⟨h_14, e_14, hF⟩ := ob1_some hF
        refine gx_callv (gx_runV (As := [.ref (q 11), .int 4]) (rest := []) ⟨hx, hb, hml, hown, hts⟩ (c_X2_fail l G cI cJ cZ cB cT q h_4 4 h_14 e_14 H.size) (gG_V m_657 m_658 m_659 m_660 m_656) rfl e_X2_fail ⟨Nat.le_of_ble_eq_true rfl, Nat.le_of_ble_eq_true rfl⟩ hK hP hD hE hS hA 15 wC_at15 rfl rfl hl.1 rfl (Nat.le_of_ble_eq_true rfl) dX2_readClause_48 ⟨Nat.le_refl _, Nat.le_refl _⟩) hP hD hS hA (fun u_14 H locs hw_14 hP hD hS => ?_)
        refine lv_goto (tgt := 158) hx hb dX2_readClause_51 (by decide) ?_
        exact hJ_158 h_14 hF H _ ls hP hD hS (lv_sub hl [] rfl)
    · have hF := ob_neg c_3 hF
      exact hJ_25 (sI h_1 5 2 (r_1 - 16)) hF H _ ls hP hD hS (lv_sub hl [1, 2] rfl)
def f_X2_parse_3_48 (h : HS) : Option HS := (some h)
def f_X2_parse_3_16 : Nat → HS → Int32 → Option HS
  | 0, _, _ => none
  | n + 1, h, x3 => (if 24 < x3 then (f_X2_parse_3_48 h) else (if (eI h 5 0) = 0 then (ob2 (f_X7_kind h) (fun r_4 h_4 => (if r_4 = 0 then (f_X2_parse_3_48 h_4) else (ob1 (f_X2_readClause_3 h_4) (fun h_6 => ((f_X2_parse_3_16 n) h_6 (x3 + 1))))))) else (f_X2_parse_3_48 h)))
theorem f_X2_parse_3_16_s (n : Nat) (h : HS) (x3 : Int32) : f_X2_parse_3_16 (n + 1) h x3 = (if 24 < x3 then (f_X2_parse_3_48 h) else (if (eI h 5 0) = 0 then (ob2 (f_X7_kind h) (fun r_4 h_4 => (if r_4 = 0 then (f_X2_parse_3_48 h_4) else (ob1 (f_X2_readClause_3 h_4) (fun h_6 => ((f_X2_parse_3_16 n) h_6 (x3 + 1))))))) else (f_X2_parse_3_48 h))) := rfl
def f_X2_parse_3 (h : HS) : Option HS := (ob1 (f_X6_clear_3 (sI (sI h 5 0 0) 5 1 (-1))) (fun h_1 => (f_X2_parse_3_16 8589934592 h_1 0)))
set_option maxHeartbeats 4000000 in
set_option maxRecDepth 100000 in
theorem c_X2_parse_3 (l : Launch) (G : va_G) (cI cJ cZ cB cT : ClassId) (q : Nat → Nat) (h : HS)  (hh : HS) (hF : f_X2_parse_3 h = some hh) : gMv l yX2_parse (gws yX2_parse cX2_parse 4 none) 206 G (gT cI cJ cZ cB cT) [.ref (q 15), .ref (q 11), .ref (q 47)] (wC q cI cJ cZ cB cT h) (fun (_ : Unit) => True) (fun (_ : Unit) => (wC q cI cJ cZ cB cT hh)) := by
  intro sz
  refine gM_start (y := yX2_parse) (av := [.ref (q 15), .ref (q 11), .ref (q 47)]) (ws := (wC q cI cJ cZ cB cT h)) (Qf := fun A => va_Qv (fun (_ : Unit) => True) (gB G (fun (_ : Unit) => (wC q cI cJ cZ cB cT hh)) A) A) (cc := cX2_parse) (maxL := 4) (ret := none) (by decide) (Nat.le_of_ble_eq_true rfl) ?_
  intro p e s m args below meth c A ls H hx hb hr hts hown hin hlocks hml hP hK hD hA hS hl hE
  have hl : lv_has ls 4 [(0, .ref (q 15)), (1, .ref (q 11)), (2, .ref (q 47))] := hl
  have hJ_48 : ∀ (h : HS), f_X2_parse_3_48 h = some hh → ∀ (H : Heap) (locs : List Loc) (ls : Array Slot), va_P G vwCl (wC q cI cJ cZ cB cT h) H → va_D A (wC q cI cJ cZ cB cT h) → va_S A s.heap H locs → lv_has ls 4 [] → W p l e (gRm 206) s m args below meth c H locs 0 0 (MQ below (va_Qv (fun (_ : Unit) => True) (gB G (fun (_ : Unit) => (wC q cI cJ cZ cB cT hh)) A) A) args s 0 0 A) (F0 m 48 ls []) := by
    intro h hF H locs ls hP hD hS hl
    unfold f_X2_parse_3_48 at hF
    obtain rfl := ob_one hF
    exact gw_vret () hx hb hr hlocks hP hD hS trivial dX2_parse_48
  have hJ_16 : ∀ (n_16 : Nat) (h : HS) (x3 : Int32), f_X2_parse_3_16 n_16 h x3 = some hh → ∀ (H : Heap) (locs : List Loc) (ls : Array Slot), va_P G vwCl (wC q cI cJ cZ cB cT h) H → va_D A (wC q cI cJ cZ cB cT h) → va_S A s.heap H locs → lv_has ls 4 [(0, .ref (q 15)), (1, .ref (q 11)), (2, .ref (q 47)), (3, .int x3)] → W p l e (gRm 206) s m args below meth c H locs 0 0 (MQ below (va_Qv (fun (_ : Unit) => True) (gB G (fun (_ : Unit) => (wC q cI cJ cZ cB cT hh)) A) A) args s 0 0 A) (F0 m 16 ls []) := by
    intro n_16
    induction n_16 with
    | zero =>
      intro h x3 hF
      exact absurd hF (by simp [f_X2_parse_3_16])
    | succ n_16 ih_16 =>
      intro h x3 hF H locs ls hP hD hS hl
      rw [f_X2_parse_3_16_s] at hF
      refine lv_iload_n hx hb dX2_parse_16 rfl (lv_at hl 3 rfl) ?_
      refine lv_bipush (v := 24) hx hb dX2_parse_17 (by decide) ?_
      refine lv_icmp_gt (tgt := 48) hx hb dX2_parse_19 (by decide) (fun c_2 => ?_) (fun c_2 => ?_)
      · have hF := ob_pos c_2 hF
        exact hJ_48 h hF H _ ls hP hD hS (lv_sub hl [] rfl)
      · have hF := ob_neg c_2 hF
        refine lv_aload_n hx hb dX2_parse_22 rfl (lv_at hl 0 rfl) ?_
        refine va_get (D := G) (ci := 2) (v := .int (eI h 5 0)) (C := RX2) (T := TX2) (N := 3) hx hb hts iX2 hown hK hP 15 wC_at15 rfl 0 (by decide) (hts _ m_646) (fun _ h9 => h9) rfl dX2_parse_23 ?_
        refine lv_if_ne (tgt := 48) hx hb dX2_parse_26 (by decide) (fun c_3 => ?_) (fun c_3 => ?_)
        · have hF := ob_neg c_3 hF
          exact hJ_48 h hF H _ ls hP hD hS (lv_sub hl [] rfl)
        · have hF := ob_pos c_3 hF
          refine lv_aload_n hx hb dX2_parse_29 rfl (lv_at hl 1 rfl) ?_
          obtain ⟨r_4, h_4, e_4, hF⟩ := ob2_some hF
          refine gx_calli (gx_runV (As := []) (rest := []) ⟨hx, hb, hml, hown, hts⟩ (c_X7_kind l G cI cJ cZ cB cT q h  r_4 h_4 e_4 H.size) (gG_V m_653 m_654 m_655 m_417 m_652) rfl e_X7_kind ⟨Nat.le_of_ble_eq_true rfl, Nat.le_of_ble_eq_true rfl⟩ hK hP hD hE hS hA 11 wC_at11 rfl rfl hl.1 rfl (Nat.le_of_ble_eq_true rfl) dX2_parse_30 ⟨Nat.le_refl _, Nat.le_refl _⟩) hP hD hS hA (fun x_4 u_4 H locs hw_4 hP hD hS => ?_)
          subst x_4
          refine lv_if_eq (tgt := 48) hx hb dX2_parse_33 (by decide) (fun c_5 => ?_) (fun c_5 => ?_)
          · have hF := ob_pos c_5 hF
            exact hJ_48 h_4 hF H _ ls hP hD hS (lv_sub hl [] rfl)
          · have hF := ob_neg c_5 hF
            refine lv_aload_n hx hb dX2_parse_36 rfl (lv_at hl 0 rfl) ?_
            refine lv_aload_n hx hb dX2_parse_37 rfl (lv_at hl 1 rfl) ?_
            refine lv_aload_n hx hb dX2_parse_38 rfl (lv_at hl 2 rfl) ?_
            obtain ⟨h_6, e_6, hF⟩ := ob1_some hF
            refine gx_callv (gx_runV (As := [.ref (q 11), .ref (q 47)]) (rest := []) ⟨hx, hb, hml, hown, hts⟩ (c_X2_readClause_3 l G cI cJ cZ cB cT q h_4  h_6 e_6 H.size) (gG_V m_732 m_733 m_734 m_660 m_731) rfl e_X2_readClause ⟨Nat.le_of_ble_eq_true rfl, Nat.le_of_ble_eq_true rfl⟩ hK hP hD hE hS hA 15 wC_at15 rfl rfl hl.1 rfl (Nat.le_of_ble_eq_true rfl) dX2_parse_39 ⟨Nat.le_refl _, Nat.le_refl _⟩) hP hD hS hA (fun u_6 H locs hw_6 hP hD hS => ?_)
            refine lv_iinc (v := (x3 + 1)) (lv' := [(3, .int (x3 + 1)), (0, .ref (q 15)), (1, .ref (q 11)), (2, .ref (q 47))]) hx hb dX2_parse_42 hl (k := 3) rfl rfl (by decide) rfl (fun ls hl => ?_)
            refine lv_goto (tgt := 16) hx hb dX2_parse_45 (by decide) ?_
            exact ih_16 h_6 (x3 + 1) hF H _ ls hP hD hS (lv_sub hl [1, 2, 3, 0] rfl)
  unfold f_X2_parse_3 at hF
  refine lv_aload_n hx hb dX2_parse_0 rfl (lv_at hl 0 rfl) ?_
  refine lv_iconst (v := 0) hx hb dX2_parse_1 (by decide) ?_
  refine va_put (D := G) (ci := 2) (v := .int 0) (ty := .int) (C := RX2) (T := TX2) (N := 3) hx hb hts iX2 tyX2 tyX2_ok nmX2 hown hK hP hD hS 15 wC_at15 rfl 0 (by decide) (hts _ m_646) (fun _ h9 => h9) rfl (tyX2_ok 0 (by decide)) rfl rfl (Nat.le_of_ble_eq_true rfl) dX2_parse_2 (fun H locs hP hD hS => ?_)
  rw [wC_sI15_0] at hP hD
  refine lv_aload_n hx hb dX2_parse_5 rfl (lv_at hl 0 rfl) ?_
  refine lv_iconst (v := (-1)) hx hb dX2_parse_6 (by decide) ?_
  refine va_put (D := G) (ci := 2) (v := .int (-1)) (ty := .int) (C := RX2) (T := TX2) (N := 3) hx hb hts iX2 tyX2 tyX2_ok nmX2 hown hK hP hD hS 15 wC_at15 rfl 1 (by decide) (hts _ m_651) (fun _ h9 => h9) rfl (tyX2_ok 1 (by decide)) rfl rfl (Nat.le_of_ble_eq_true rfl) dX2_parse_7 (fun H locs hP hD hS => ?_)
  rw [wC_sI15_1] at hP hD
  refine lv_aload_n hx hb dX2_parse_10 rfl (lv_at hl 2 rfl) ?_
  obtain ⟨h_1, e_1, hF⟩ := ob1_some hF
  refine gx_callv (gx_runV (As := []) (rest := []) ⟨hx, hb, hml, hown, hts⟩ (c_X6_clear_3 l G cI cJ cZ cB cT q (sI (sI h 5 0 0) 5 1 (-1))  h_1 e_1 H.size) (gG_V m_728 m_729 m_730 m_563 m_727) rfl e_X6_clear ⟨Nat.le_of_ble_eq_true rfl, Nat.le_of_ble_eq_true rfl⟩ hK hP hD hE hS hA 47 wC_at47 rfl rfl hl.1 rfl (Nat.le_of_ble_eq_true rfl) dX2_parse_11 ⟨Nat.le_refl _, Nat.le_refl _⟩) hP hD hS hA (fun u_1 H locs hw_1 hP hD hS => ?_)
  refine lv_iconst (v := 0) hx hb dX2_parse_14 (by decide) ?_
  refine lv_istore_n (lv' := [(3, .int 0), (0, .ref (q 15)), (1, .ref (q 11)), (2, .ref (q 47))]) hx hb dX2_parse_15 rfl hl (by decide) rfl (fun ls hl => ?_)
  exact hJ_16 8589934592 h_1 0 hF H _ ls hP hD hS (lv_sub hl [1, 2, 3, 0] rfl)
def f_X8_market_25 (h : HS) : Option (Int32 × HS) := (some ((-1), h))
def f_X8_market (h : HS) (p1 : Int32) (p2 : Int32) (p3 : Int32) : Option (Int32 × HS) := (if p1 < 1 then (f_X8_market_25 h) else (if 9 < p1 then (f_X8_market_25 h) else (ob1 (f_X8_isDigit p2) (fun r_3 => (if r_3 = 0 then (f_X8_market_25 h) else (ob1 (f_X8_isDigit p3) (fun r_5 => (if r_5 = 0 then (f_X8_market_25 h) else (ob2 (f_X4_addMarket h p1 p2 p3) (fun r_7 h_7 => (some (r_7, h_7))))))))))))
theorem e_X4_addMarket : yX4_addMarket.cls = RX4 ∧ yX4_addMarket.cls ≠ "java/lang/invoke/MethodHandle" ∧ yX4_addMarket.cls ≠ "java/lang/invoke/VarHandle" ∧ (parseMethodDescriptor yX4_addMarket.desc).map (fun d => d.parameters.length) = some 3 := by decide +kernel
theorem e_X8_isDigit : yX8_isDigit.cls = RX8 ∧ yX8_isDigit.cls ≠ "java/lang/invoke/MethodHandle" ∧ yX8_isDigit.cls ≠ "java/lang/invoke/VarHandle" ∧ (parseMethodDescriptor yX8_isDigit.desc).map (fun d => d.parameters.length) = some 1 := by decide +kernel
set_option maxHeartbeats 4000000 in
set_option maxRecDepth 100000 in
theorem c_X8_market (l : Launch) (G : va_G) (cI cJ cZ cB cT : ClassId) (q : Nat → Nat) (h : HS) (p1 : Int32) (p2 : Int32) (p3 : Int32) (rr : Int32) (hh : HS) (hF : f_X8_market h p1 p2 p3 = some (rr, hh)) : gMi l yX8_market (gws yX8_market cX8_market 4 (some .int)) 2 G (gT cI cJ cZ cB cT) [.ref (q 0), .int p1, .int p2, .int p3] (wC q cI cJ cZ cB cT h) (fun x (_ : Unit) => x = rr) (fun (_ : Unit) => (wC q cI cJ cZ cB cT hh)) := by
  intro sz
  refine gM_start (y := yX8_market) (av := [.ref (q 0), .int p1, .int p2, .int p3]) (ws := (wC q cI cJ cZ cB cT h)) (Qf := fun A => va_Qi (fun x (_ : Unit) => x = rr) (gB G (fun (_ : Unit) => (wC q cI cJ cZ cB cT hh)) A) A) (cc := cX8_market) (maxL := 4) (ret := (some .int)) (by decide) (Nat.le_of_ble_eq_true rfl) ?_
  intro p e s m args below meth c A ls H hx hb hr hts hown hin hlocks hml hP hK hD hA hS hl hE
  have hl : lv_has ls 4 [(0, .ref (q 0)), (1, .int p1), (2, .int p2), (3, .int p3)] := hl
  have hJ_25 : ∀ (h : HS), f_X8_market_25 h = some (rr, hh) → ∀ (H : Heap) (locs : List Loc) (ls : Array Slot), va_P G vwCl (wC q cI cJ cZ cB cT h) H → va_D A (wC q cI cJ cZ cB cT h) → va_S A s.heap H locs → lv_has ls 4 [] → W p l e (gRm 2) s m args below meth c H locs 0 0 (MQ below (va_Qi (fun x (_ : Unit) => x = rr) (gB G (fun (_ : Unit) => (wC q cI cJ cZ cB cT hh)) A) A) args s 0 0 A) (F0 m 25 ls []) := by
    intro h hF H locs ls hP hD hS hl
    unfold f_X8_market_25 at hF
    refine lv_iconst (v := (-1)) hx hb dX8_market_25 (by decide) ?_
    obtain ⟨rfl, rfl⟩ := ob_pair hF
    exact gw_iret () hx hb hr hlocks hP hD hS rfl dX8_market_26
  unfold f_X8_market at hF
  refine lv_iload_n hx hb dX8_market_0 rfl (lv_at hl 1 rfl) ?_
  refine lv_iconst (v := 1) hx hb dX8_market_1 (by decide) ?_
  refine lv_icmp_lt (tgt := 25) hx hb dX8_market_2 (by decide) (fun c_1 => ?_) (fun c_1 => ?_)
  · have hF := ob_pos c_1 hF
    exact hJ_25 h hF H _ ls hP hD hS (lv_sub hl [] rfl)
  · have hF := ob_neg c_1 hF
    refine lv_iload_n hx hb dX8_market_5 rfl (lv_at hl 1 rfl) ?_
    refine lv_bipush (v := 9) hx hb dX8_market_6 (by decide) ?_
    refine lv_icmp_gt (tgt := 25) hx hb dX8_market_8 (by decide) (fun c_2 => ?_) (fun c_2 => ?_)
    · have hF := ob_pos c_2 hF
      exact hJ_25 h hF H _ ls hP hD hS (lv_sub hl [] rfl)
    · have hF := ob_neg c_2 hF
      refine lv_iload_n hx hb dX8_market_11 rfl (lv_at hl 2 rfl) ?_
      obtain ⟨r_3, e_3, hF⟩ := ob1_some hF
      refine gx_calli0 (gx_runS0 (As := [.int p2]) (rest := []) ⟨hx, hb, hml, hown, hts⟩ (c_X8_isDigit l G cI cJ cZ cB cT   p2 r_3 e_3 H.size) (gG_S m_736 m_737 m_60 m_735) rfl e_X8_isDigit ⟨Nat.le_of_ble_eq_true rfl, Nat.le_of_ble_eq_true rfl⟩ hK hE hS hA rfl hl.1 rfl (Nat.le_of_ble_eq_true rfl) dX8_market_12 ⟨Nat.le_refl _, Nat.le_refl _⟩) hP hD hS hA (fun x_3 u_3 H locs hw_3 hP hD hS => ?_)
      subst x_3
      refine lv_if_eq (tgt := 25) hx hb dX8_market_15 (by decide) (fun c_4 => ?_) (fun c_4 => ?_)
      · have hF := ob_pos c_4 hF
        exact hJ_25 h hF H _ ls hP hD hS (lv_sub hl [] rfl)
      · have hF := ob_neg c_4 hF
        refine lv_iload_n hx hb dX8_market_18 rfl (lv_at hl 3 rfl) ?_
        obtain ⟨r_5, e_5, hF⟩ := ob1_some hF
        refine gx_calli0 (gx_runS0 (As := [.int p3]) (rest := []) ⟨hx, hb, hml, hown, hts⟩ (c_X8_isDigit l G cI cJ cZ cB cT   p3 r_5 e_5 H.size) (gG_S m_736 m_737 m_60 m_735) rfl e_X8_isDigit ⟨Nat.le_of_ble_eq_true rfl, Nat.le_of_ble_eq_true rfl⟩ hK hE hS hA rfl hl.1 rfl (Nat.le_of_ble_eq_true rfl) dX8_market_19 ⟨Nat.le_refl _, Nat.le_refl _⟩) hP hD hS hA (fun x_5 u_5 H locs hw_5 hP hD hS => ?_)
        subst x_5
        refine lv_if_ne (tgt := 27) hx hb dX8_market_22 (by decide) (fun c_6 => ?_) (fun c_6 => ?_)
        · have hF := ob_neg c_6 hF
          refine lv_aload_n hx hb dX8_market_27 rfl (lv_at hl 0 rfl) ?_
          refine va_get (D := G) (ci := 8) (v := .ref (q 1)) (C := RX8) (T := TX8) (N := 8) hx hb hts iX8 hown hK hP 0 wC_at0 rfl 0 (by decide) (hts _ m_738) (fun _ h9 => h9) rfl dX8_market_28 ?_
          refine lv_iload_n hx hb dX8_market_31 rfl (lv_at hl 1 rfl) ?_
          refine lv_iload_n hx hb dX8_market_32 rfl (lv_at hl 2 rfl) ?_
          refine lv_iload_n hx hb dX8_market_33 rfl (lv_at hl 3 rfl) ?_
          obtain ⟨r_7, h_7, e_7, hF⟩ := ob2_some hF
          refine gx_calli (gx_runV (As := [.int p1, .int p2, .int p3]) (rest := []) ⟨hx, hb, hml, hown, hts⟩ (c_X4_addMarket l G cI cJ cZ cB cT q h p1 p2 p3 r_7 h_7 e_7 H.size) (gG_V m_740 m_741 m_742 m_7 m_739) rfl e_X4_addMarket ⟨Nat.le_of_ble_eq_true rfl, Nat.le_of_ble_eq_true rfl⟩ hK hP hD hE hS hA 1 wC_at1 rfl rfl hl.1 rfl (Nat.le_of_ble_eq_true rfl) dX8_market_34 ⟨Nat.le_refl _, Nat.le_refl _⟩) hP hD hS hA (fun x_7 u_7 H locs hw_7 hP hD hS => ?_)
          subst x_7
          obtain ⟨rfl, rfl⟩ := ob_pair hF
          exact gw_iret () hx hb hr hlocks hP hD hS rfl dX8_market_37
        · have hF := ob_pos c_6 hF
          exact hJ_25 h hF H _ ls hP hD hS (lv_sub hl [] rfl)
def f_X8_goose_21 (h : HS) : Option (Int32 × HS) := (some ((-1), h))
def f_X8_goose (h : HS) (p1 : Int32) (p2 : Int32) : Option (Int32 × HS) := (if p1 < 1 then (f_X8_goose_21 h) else (if 20 < p1 then (f_X8_goose_21 h) else (if p2 < 0 then (f_X8_goose_21 h) else (if p2 ≤ 99 then (ob2 (f_X4_addGoose h p1 p2) (fun r_5 h_5 => (some (r_5, h_5)))) else (f_X8_goose_21 h)))))
theorem e_X4_addGoose : yX4_addGoose.cls = RX4 ∧ yX4_addGoose.cls ≠ "java/lang/invoke/MethodHandle" ∧ yX4_addGoose.cls ≠ "java/lang/invoke/VarHandle" ∧ (parseMethodDescriptor yX4_addGoose.desc).map (fun d => d.parameters.length) = some 2 := by decide +kernel
set_option maxHeartbeats 4000000 in
set_option maxRecDepth 100000 in
theorem c_X8_goose (l : Launch) (G : va_G) (cI cJ cZ cB cT : ClassId) (q : Nat → Nat) (h : HS) (p1 : Int32) (p2 : Int32) (rr : Int32) (hh : HS) (hF : f_X8_goose h p1 p2 = some (rr, hh)) : gMi l yX8_goose (gws yX8_goose cX8_goose 3 (some .int)) 4 G (gT cI cJ cZ cB cT) [.ref (q 0), .int p1, .int p2] (wC q cI cJ cZ cB cT h) (fun x (_ : Unit) => x = rr) (fun (_ : Unit) => (wC q cI cJ cZ cB cT hh)) := by
  intro sz
  refine gM_start (y := yX8_goose) (av := [.ref (q 0), .int p1, .int p2]) (ws := (wC q cI cJ cZ cB cT h)) (Qf := fun A => va_Qi (fun x (_ : Unit) => x = rr) (gB G (fun (_ : Unit) => (wC q cI cJ cZ cB cT hh)) A) A) (cc := cX8_goose) (maxL := 3) (ret := (some .int)) (by decide) (Nat.le_of_ble_eq_true rfl) ?_
  intro p e s m args below meth c A ls H hx hb hr hts hown hin hlocks hml hP hK hD hA hS hl hE
  have hl : lv_has ls 3 [(0, .ref (q 0)), (1, .int p1), (2, .int p2)] := hl
  have hJ_21 : ∀ (h : HS), f_X8_goose_21 h = some (rr, hh) → ∀ (H : Heap) (locs : List Loc) (ls : Array Slot), va_P G vwCl (wC q cI cJ cZ cB cT h) H → va_D A (wC q cI cJ cZ cB cT h) → va_S A s.heap H locs → lv_has ls 3 [] → W p l e (gRm 4) s m args below meth c H locs 0 0 (MQ below (va_Qi (fun x (_ : Unit) => x = rr) (gB G (fun (_ : Unit) => (wC q cI cJ cZ cB cT hh)) A) A) args s 0 0 A) (F0 m 21 ls []) := by
    intro h hF H locs ls hP hD hS hl
    unfold f_X8_goose_21 at hF
    refine lv_iconst (v := (-1)) hx hb dX8_goose_21 (by decide) ?_
    obtain ⟨rfl, rfl⟩ := ob_pair hF
    exact gw_iret () hx hb hr hlocks hP hD hS rfl dX8_goose_22
  unfold f_X8_goose at hF
  refine lv_iload_n hx hb dX8_goose_0 rfl (lv_at hl 1 rfl) ?_
  refine lv_iconst (v := 1) hx hb dX8_goose_1 (by decide) ?_
  refine lv_icmp_lt (tgt := 21) hx hb dX8_goose_2 (by decide) (fun c_1 => ?_) (fun c_1 => ?_)
  · have hF := ob_pos c_1 hF
    exact hJ_21 h hF H _ ls hP hD hS (lv_sub hl [] rfl)
  · have hF := ob_neg c_1 hF
    refine lv_iload_n hx hb dX8_goose_5 rfl (lv_at hl 1 rfl) ?_
    refine lv_bipush (v := 20) hx hb dX8_goose_6 (by decide) ?_
    refine lv_icmp_gt (tgt := 21) hx hb dX8_goose_8 (by decide) (fun c_2 => ?_) (fun c_2 => ?_)
    · have hF := ob_pos c_2 hF
      exact hJ_21 h hF H _ ls hP hD hS (lv_sub hl [] rfl)
    · have hF := ob_neg c_2 hF
      refine lv_iload_n hx hb dX8_goose_11 rfl (lv_at hl 2 rfl) ?_
      refine lv_if_lt (tgt := 21) hx hb dX8_goose_12 (by decide) (fun c_3 => ?_) (fun c_3 => ?_)
      · have hF := ob_pos c_3 hF
        exact hJ_21 h hF H _ ls hP hD hS (lv_sub hl [] rfl)
      · have hF := ob_neg c_3 hF
        refine lv_iload_n hx hb dX8_goose_15 rfl (lv_at hl 2 rfl) ?_
        refine lv_bipush (v := 99) hx hb dX8_goose_16 (by decide) ?_
        refine lv_icmp_le (tgt := 23) hx hb dX8_goose_18 (by decide) (fun c_4 => ?_) (fun c_4 => ?_)
        · have hF := ob_pos c_4 hF
          refine lv_aload_n hx hb dX8_goose_23 rfl (lv_at hl 0 rfl) ?_
          refine va_get (D := G) (ci := 8) (v := .ref (q 1)) (C := RX8) (T := TX8) (N := 8) hx hb hts iX8 hown hK hP 0 wC_at0 rfl 0 (by decide) (hts _ m_738) (fun _ h9 => h9) rfl dX8_goose_24 ?_
          refine lv_iload_n hx hb dX8_goose_27 rfl (lv_at hl 1 rfl) ?_
          refine lv_iload_n hx hb dX8_goose_28 rfl (lv_at hl 2 rfl) ?_
          obtain ⟨r_5, h_5, e_5, hF⟩ := ob2_some hF
          refine gx_calli (gx_runV (As := [.int p1, .int p2]) (rest := []) ⟨hx, hb, hml, hown, hts⟩ (c_X4_addGoose l G cI cJ cZ cB cT q h p1 p2 r_5 h_5 e_5 H.size) (gG_V m_744 m_745 m_746 m_7 m_743) rfl e_X4_addGoose ⟨Nat.le_of_ble_eq_true rfl, Nat.le_of_ble_eq_true rfl⟩ hK hP hD hE hS hA 1 wC_at1 rfl rfl hl.1 rfl (Nat.le_of_ble_eq_true rfl) dX8_goose_29 ⟨Nat.le_refl _, Nat.le_refl _⟩) hP hD hS hA (fun x_5 u_5 H locs hw_5 hP hD hS => ?_)
          subst x_5
          obtain ⟨rfl, rfl⟩ := ob_pair hF
          exact gw_iret () hx hb hr hlocks hP hD hS rfl dX8_goose_32
        · have hF := ob_neg c_4 hF
          exact hJ_21 h hF H _ ls hP hD hS (lv_sub hl [] rfl)
def f_X8_store_21 (h : HS) : Option (Int32 × HS) := (some (0, h))
def f_X8_store (h : HS) (p1 : Int32) (p2 : Int32) : Option (Int32 × HS) := (if p1 < 0 then (f_X8_store_21 h) else (if 9999 < p1 then (f_X8_store_21 h) else (if p2 < 0 then (f_X8_store_21 h) else (if p2 ≤ 99 then (some (1, (sI (sI h 1 5 p1) 1 6 p2))) else (f_X8_store_21 h)))))
set_option maxHeartbeats 4000000 in
set_option maxRecDepth 100000 in
theorem c_X8_store (l : Launch) (G : va_G) (cI cJ cZ cB cT : ClassId) (q : Nat → Nat) (h : HS) (p1 : Int32) (p2 : Int32) (rr : Int32) (hh : HS) (hF : f_X8_store h p1 p2 = some (rr, hh)) : gMi l yX8_store (gws yX8_store cX8_store 3 (some .boolean)) 1 G (gT cI cJ cZ cB cT) [.ref (q 0), .int p1, .int p2] (wC q cI cJ cZ cB cT h) (fun x (_ : Unit) => x = rr) (fun (_ : Unit) => (wC q cI cJ cZ cB cT hh)) := by
  intro sz
  refine gM_start (y := yX8_store) (av := [.ref (q 0), .int p1, .int p2]) (ws := (wC q cI cJ cZ cB cT h)) (Qf := fun A => va_Qi (fun x (_ : Unit) => x = rr) (gB G (fun (_ : Unit) => (wC q cI cJ cZ cB cT hh)) A) A) (cc := cX8_store) (maxL := 3) (ret := (some .boolean)) (by decide) (Nat.le_of_ble_eq_true rfl) ?_
  intro p e s m args below meth c A ls H hx hb hr hts hown hin hlocks hml hP hK hD hA hS hl hE
  have hl : lv_has ls 3 [(0, .ref (q 0)), (1, .int p1), (2, .int p2)] := hl
  have hJ_21 : ∀ (h : HS), f_X8_store_21 h = some (rr, hh) → ∀ (H : Heap) (locs : List Loc) (ls : Array Slot), va_P G vwCl (wC q cI cJ cZ cB cT h) H → va_D A (wC q cI cJ cZ cB cT h) → va_S A s.heap H locs → lv_has ls 3 [] → W p l e (gRm 1) s m args below meth c H locs 0 0 (MQ below (va_Qi (fun x (_ : Unit) => x = rr) (gB G (fun (_ : Unit) => (wC q cI cJ cZ cB cT hh)) A) A) args s 0 0 A) (F0 m 21 ls []) := by
    intro h hF H locs ls hP hD hS hl
    unfold f_X8_store_21 at hF
    refine lv_iconst (v := 0) hx hb dX8_store_21 (by decide) ?_
    obtain ⟨rfl, rfl⟩ := ob_pair hF
    exact gw_zret () hx hb hr hlocks rfl hP hD hS rfl dX8_store_22
  unfold f_X8_store at hF
  refine lv_iload_n hx hb dX8_store_0 rfl (lv_at hl 1 rfl) ?_
  refine lv_if_lt (tgt := 21) hx hb dX8_store_1 (by decide) (fun c_1 => ?_) (fun c_1 => ?_)
  · have hF := ob_pos c_1 hF
    exact hJ_21 h hF H _ ls hP hD hS (lv_sub hl [] rfl)
  · have hF := ob_neg c_1 hF
    refine lv_iload_n hx hb dX8_store_4 rfl (lv_at hl 1 rfl) ?_
    refine lv_sipush (v := 9999) hx hb dX8_store_5 (by decide) ?_
    refine lv_icmp_gt (tgt := 21) hx hb dX8_store_8 (by decide) (fun c_2 => ?_) (fun c_2 => ?_)
    · have hF := ob_pos c_2 hF
      exact hJ_21 h hF H _ ls hP hD hS (lv_sub hl [] rfl)
    · have hF := ob_neg c_2 hF
      refine lv_iload_n hx hb dX8_store_11 rfl (lv_at hl 2 rfl) ?_
      refine lv_if_lt (tgt := 21) hx hb dX8_store_12 (by decide) (fun c_3 => ?_) (fun c_3 => ?_)
      · have hF := ob_pos c_3 hF
        exact hJ_21 h hF H _ ls hP hD hS (lv_sub hl [] rfl)
      · have hF := ob_neg c_3 hF
        refine lv_iload_n hx hb dX8_store_15 rfl (lv_at hl 2 rfl) ?_
        refine lv_bipush (v := 99) hx hb dX8_store_16 (by decide) ?_
        refine lv_icmp_le (tgt := 23) hx hb dX8_store_18 (by decide) (fun c_4 => ?_) (fun c_4 => ?_)
        · have hF := ob_pos c_4 hF
          refine lv_aload_n hx hb dX8_store_23 rfl (lv_at hl 0 rfl) ?_
          refine va_get (D := G) (ci := 8) (v := .ref (q 1)) (C := RX8) (T := TX8) (N := 8) hx hb hts iX8 hown hK hP 0 wC_at0 rfl 0 (by decide) (hts _ m_738) (fun _ h9 => h9) rfl dX8_store_24 ?_
          refine lv_iload_n hx hb dX8_store_27 rfl (lv_at hl 1 rfl) ?_
          refine va_put (D := G) (ci := 4) (v := .int p1) (ty := .int) (C := RX4) (T := TX4) (N := 13) hx hb hts iX4 tyX4 tyX4_ok nmX4 hown hK hP hD hS 1 wC_at1 rfl 5 (by decide) (hts _ m_747) (fun _ h9 => h9) rfl (tyX4_ok 5 (by decide)) rfl rfl (Nat.le_of_ble_eq_true rfl) dX8_store_28 (fun H locs hP hD hS => ?_)
          rw [wC_sI1_5] at hP hD
          refine lv_aload_n hx hb dX8_store_31 rfl (lv_at hl 0 rfl) ?_
          refine va_get (D := G) (ci := 8) (v := .ref (q 1)) (C := RX8) (T := TX8) (N := 8) hx hb hts iX8 hown hK hP 0 wC_at0 rfl 0 (by decide) (hts _ m_738) (fun _ h9 => h9) rfl dX8_store_32 ?_
          refine lv_iload_n hx hb dX8_store_35 rfl (lv_at hl 2 rfl) ?_
          refine va_put (D := G) (ci := 4) (v := .int p2) (ty := .int) (C := RX4) (T := TX4) (N := 13) hx hb hts iX4 tyX4 tyX4_ok nmX4 hown hK hP hD hS 1 wC_at1 rfl 6 (by decide) (hts _ m_748) (fun _ h9 => h9) rfl (tyX4_ok 6 (by decide)) rfl rfl (Nat.le_of_ble_eq_true rfl) dX8_store_36 (fun H locs hP hD hS => ?_)
          rw [wC_sI1_6] at hP hD
          refine lv_iconst (v := 1) hx hb dX8_store_39 (by decide) ?_
          obtain ⟨rfl, rfl⟩ := ob_pair hF
          exact gw_zret () hx hb hr hlocks rfl hP hD hS rfl dX8_store_40
        · have hF := ob_neg c_4 hF
          exact hJ_21 h hF H _ ls hP hD hS (lv_sub hl [] rfl)
def f_X8_seed_11 (h : HS) : Option (Int32 × HS) := (some (0, h))
def f_X8_seed (h : HS) (p1 : Int32) : Option (Int32 × HS) := (if p1 < 0 then (f_X8_seed_11 h) else (if p1 ≤ 9999 then (some (1, (sI h 1 8 ((p1 * 11) + 9)))) else (f_X8_seed_11 h)))
set_option maxHeartbeats 4000000 in
set_option maxRecDepth 100000 in
theorem c_X8_seed (l : Launch) (G : va_G) (cI cJ cZ cB cT : ClassId) (q : Nat → Nat) (h : HS) (p1 : Int32) (rr : Int32) (hh : HS) (hF : f_X8_seed h p1 = some (rr, hh)) : gMi l yX8_seed (gws yX8_seed cX8_seed 2 (some .boolean)) 1 G (gT cI cJ cZ cB cT) [.ref (q 0), .int p1] (wC q cI cJ cZ cB cT h) (fun x (_ : Unit) => x = rr) (fun (_ : Unit) => (wC q cI cJ cZ cB cT hh)) := by
  intro sz
  refine gM_start (y := yX8_seed) (av := [.ref (q 0), .int p1]) (ws := (wC q cI cJ cZ cB cT h)) (Qf := fun A => va_Qi (fun x (_ : Unit) => x = rr) (gB G (fun (_ : Unit) => (wC q cI cJ cZ cB cT hh)) A) A) (cc := cX8_seed) (maxL := 2) (ret := (some .boolean)) (by decide) (Nat.le_of_ble_eq_true rfl) ?_
  intro p e s m args below meth c A ls H hx hb hr hts hown hin hlocks hml hP hK hD hA hS hl hE
  have hl : lv_has ls 2 [(0, .ref (q 0)), (1, .int p1)] := hl
  have hJ_11 : ∀ (h : HS), f_X8_seed_11 h = some (rr, hh) → ∀ (H : Heap) (locs : List Loc) (ls : Array Slot), va_P G vwCl (wC q cI cJ cZ cB cT h) H → va_D A (wC q cI cJ cZ cB cT h) → va_S A s.heap H locs → lv_has ls 2 [] → W p l e (gRm 1) s m args below meth c H locs 0 0 (MQ below (va_Qi (fun x (_ : Unit) => x = rr) (gB G (fun (_ : Unit) => (wC q cI cJ cZ cB cT hh)) A) A) args s 0 0 A) (F0 m 11 ls []) := by
    intro h hF H locs ls hP hD hS hl
    unfold f_X8_seed_11 at hF
    refine lv_iconst (v := 0) hx hb dX8_seed_11 (by decide) ?_
    obtain ⟨rfl, rfl⟩ := ob_pair hF
    exact gw_zret () hx hb hr hlocks rfl hP hD hS rfl dX8_seed_12
  unfold f_X8_seed at hF
  refine lv_iload_n hx hb dX8_seed_0 rfl (lv_at hl 1 rfl) ?_
  refine lv_if_lt (tgt := 11) hx hb dX8_seed_1 (by decide) (fun c_1 => ?_) (fun c_1 => ?_)
  · have hF := ob_pos c_1 hF
    exact hJ_11 h hF H _ ls hP hD hS (lv_sub hl [] rfl)
  · have hF := ob_neg c_1 hF
    refine lv_iload_n hx hb dX8_seed_4 rfl (lv_at hl 1 rfl) ?_
    refine lv_sipush (v := 9999) hx hb dX8_seed_5 (by decide) ?_
    refine lv_icmp_le (tgt := 13) hx hb dX8_seed_8 (by decide) (fun c_2 => ?_) (fun c_2 => ?_)
    · have hF := ob_pos c_2 hF
      refine lv_aload_n hx hb dX8_seed_13 rfl (lv_at hl 0 rfl) ?_
      refine va_get (D := G) (ci := 8) (v := .ref (q 1)) (C := RX8) (T := TX8) (N := 8) hx hb hts iX8 hown hK hP 0 wC_at0 rfl 0 (by decide) (hts _ m_738) (fun _ h9 => h9) rfl dX8_seed_14 ?_
      refine lv_iload_n hx hb dX8_seed_17 rfl (lv_at hl 1 rfl) ?_
      refine lv_bipush (v := 11) hx hb dX8_seed_18 (by decide) ?_
      refine lv_imul hx hb dX8_seed_20 ?_
      refine lv_bipush (v := 9) hx hb dX8_seed_21 (by decide) ?_
      refine lv_iadd hx hb dX8_seed_23 ?_
      refine va_put (D := G) (ci := 4) (v := .int ((p1 * 11) + 9)) (ty := .int) (C := RX4) (T := TX4) (N := 13) hx hb hts iX4 tyX4 tyX4_ok nmX4 hown hK hP hD hS 1 wC_at1 rfl 8 (by decide) (hts _ m_749) (fun _ h9 => h9) rfl (tyX4_ok 8 (by decide)) rfl rfl (Nat.le_of_ble_eq_true rfl) dX8_seed_24 (fun H locs hP hD hS => ?_)
      rw [wC_sI1_8] at hP hD
      refine lv_iconst (v := 1) hx hb dX8_seed_27 (by decide) ?_
      obtain ⟨rfl, rfl⟩ := ob_pair hF
      exact gw_zret () hx hb hr hlocks rfl hP hD hS rfl dX8_seed_28
    · have hF := ob_neg c_2 hF
      exact hJ_11 h hF H _ ls hP hD hS (lv_sub hl [] rfl)
def f_X8_fill_32 (h : HS) : Option (Int32 × HS) := (some ((-1), h))
def f_X8_fill (h : HS) (p1 : Int32) (p2 : Int32) (p3 : Int32) : Option (Int32 × HS) := (ob1 (f_X8_isQuill p2 p3) (fun r_1 => (if r_1 = 0 then (f_X8_fill_32 h) else (ob2 (f_X4_isHome h p1) (fun r_3 h_3 => (if r_3 = 0 then (f_X8_fill_32 h_3) else (ob2 (f_X4_ofGoose h_3 p1 2) (fun r_5 h_5 => (if r_5 = (-1) then (ob2 (f_X1_inkCost h_5 p1 p2 p3) (fun r_7 h_7 => (if r_7 ≤ (eI h_7 1 5) then (ob1 (f_X4_keepStep h_7) (fun h_9 => (ob1 (f_X4_setGoose (sI h_9 1 5 ((eI h_9 1 5) - r_7)) p1 2 p2) (fun h_10 => (ob1 (f_X4_setGoose h_10 p1 3 p3) (fun h_11 => (some ((eI h_11 1 5), h_11)))))))) else (some ((-1), h_7))))) else (f_X8_fill_32 h_5))))))))))
theorem e_X1_inkCost : yX1_inkCost.cls = RX1 ∧ yX1_inkCost.cls ≠ "java/lang/invoke/MethodHandle" ∧ yX1_inkCost.cls ≠ "java/lang/invoke/VarHandle" ∧ (parseMethodDescriptor yX1_inkCost.desc).map (fun d => d.parameters.length) = some 4 := by decide +kernel
theorem e_X4_keepStep : yX4_keepStep.cls = RX4 ∧ yX4_keepStep.cls ≠ "java/lang/invoke/MethodHandle" ∧ yX4_keepStep.cls ≠ "java/lang/invoke/VarHandle" ∧ (parseMethodDescriptor yX4_keepStep.desc).map (fun d => d.parameters.length) = some 0 := by decide +kernel
theorem e_X8_isQuill : yX8_isQuill.cls = RX8 ∧ yX8_isQuill.cls ≠ "java/lang/invoke/MethodHandle" ∧ yX8_isQuill.cls ≠ "java/lang/invoke/VarHandle" ∧ (parseMethodDescriptor yX8_isQuill.desc).map (fun d => d.parameters.length) = some 2 := by decide +kernel
set_option maxHeartbeats 4000000 in
set_option maxRecDepth 100000 in
theorem c_X8_fill (l : Launch) (G : va_G) (cI cJ cZ cB cT : ClassId) (q : Nat → Nat) (h : HS) (p1 : Int32) (p2 : Int32) (p3 : Int32) (rr : Int32) (hh : HS) (hF : f_X8_fill h p1 p2 p3 = some (rr, hh)) : gMi l yX8_fill (gws yX8_fill cX8_fill 5 (some .int)) 5 G (gT cI cJ cZ cB cT) [.ref (q 0), .int p1, .int p2, .int p3] (wC q cI cJ cZ cB cT h) (fun x (_ : Unit) => x = rr) (fun (_ : Unit) => (wC q cI cJ cZ cB cT hh)) := by
  intro sz
  refine gM_start (y := yX8_fill) (av := [.ref (q 0), .int p1, .int p2, .int p3]) (ws := (wC q cI cJ cZ cB cT h)) (Qf := fun A => va_Qi (fun x (_ : Unit) => x = rr) (gB G (fun (_ : Unit) => (wC q cI cJ cZ cB cT hh)) A) A) (cc := cX8_fill) (maxL := 5) (ret := (some .int)) (by decide) (Nat.le_of_ble_eq_true rfl) ?_
  intro p e s m args below meth c A ls H hx hb hr hts hown hin hlocks hml hP hK hD hA hS hl hE
  have hl : lv_has ls 5 [(0, .ref (q 0)), (1, .int p1), (2, .int p2), (3, .int p3)] := hl
  have hJ_32 : ∀ (h : HS), f_X8_fill_32 h = some (rr, hh) → ∀ (H : Heap) (locs : List Loc) (ls : Array Slot), va_P G vwCl (wC q cI cJ cZ cB cT h) H → va_D A (wC q cI cJ cZ cB cT h) → va_S A s.heap H locs → lv_has ls 5 [] → W p l e (gRm 5) s m args below meth c H locs 0 0 (MQ below (va_Qi (fun x (_ : Unit) => x = rr) (gB G (fun (_ : Unit) => (wC q cI cJ cZ cB cT hh)) A) A) args s 0 0 A) (F0 m 32 ls []) := by
    intro h hF H locs ls hP hD hS hl
    unfold f_X8_fill_32 at hF
    refine lv_iconst (v := (-1)) hx hb dX8_fill_32 (by decide) ?_
    obtain ⟨rfl, rfl⟩ := ob_pair hF
    exact gw_iret () hx hb hr hlocks hP hD hS rfl dX8_fill_33
  unfold f_X8_fill at hF
  refine lv_iload_n hx hb dX8_fill_0 rfl (lv_at hl 2 rfl) ?_
  refine lv_iload_n hx hb dX8_fill_1 rfl (lv_at hl 3 rfl) ?_
  obtain ⟨r_1, e_1, hF⟩ := ob1_some hF
  refine gx_calli0 (gx_runS0 (As := [.int p2, .int p3]) (rest := []) ⟨hx, hb, hml, hown, hts⟩ (c_X8_isQuill l G cI cJ cZ cB cT   p2 p3 r_1 e_1 H.size) (gG_S m_751 m_752 m_60 m_750) rfl e_X8_isQuill ⟨Nat.le_of_ble_eq_true rfl, Nat.le_of_ble_eq_true rfl⟩ hK hE hS hA rfl hl.1 rfl (Nat.le_of_ble_eq_true rfl) dX8_fill_2 ⟨Nat.le_refl _, Nat.le_refl _⟩) hP hD hS hA (fun x_1 u_1 H locs hw_1 hP hD hS => ?_)
  subst x_1
  refine lv_if_eq (tgt := 32) hx hb dX8_fill_5 (by decide) (fun c_2 => ?_) (fun c_2 => ?_)
  · have hF := ob_pos c_2 hF
    exact hJ_32 h hF H _ ls hP hD hS (lv_sub hl [] rfl)
  · have hF := ob_neg c_2 hF
    refine lv_aload_n hx hb dX8_fill_8 rfl (lv_at hl 0 rfl) ?_
    refine va_get (D := G) (ci := 8) (v := .ref (q 1)) (C := RX8) (T := TX8) (N := 8) hx hb hts iX8 hown hK hP 0 wC_at0 rfl 0 (by decide) (hts _ m_738) (fun _ h9 => h9) rfl dX8_fill_9 ?_
    refine lv_iload_n hx hb dX8_fill_12 rfl (lv_at hl 1 rfl) ?_
    obtain ⟨r_3, h_3, e_3, hF⟩ := ob2_some hF
    refine gx_calli (gx_runV (As := [.int p1]) (rest := []) ⟨hx, hb, hml, hown, hts⟩ (c_X4_isHome l G cI cJ cZ cB cT q h p1 r_3 h_3 e_3 H.size) (gG_V m_753 m_19 m_20 m_7 m_17) rfl e_X4_isHome ⟨Nat.le_of_ble_eq_true rfl, Nat.le_of_ble_eq_true rfl⟩ hK hP hD hE hS hA 1 wC_at1 rfl rfl hl.1 rfl (Nat.le_of_ble_eq_true rfl) dX8_fill_13 ⟨Nat.le_refl _, Nat.le_refl _⟩) hP hD hS hA (fun x_3 u_3 H locs hw_3 hP hD hS => ?_)
    subst x_3
    refine lv_if_eq (tgt := 32) hx hb dX8_fill_16 (by decide) (fun c_4 => ?_) (fun c_4 => ?_)
    · have hF := ob_pos c_4 hF
      exact hJ_32 h_3 hF H _ ls hP hD hS (lv_sub hl [] rfl)
    · have hF := ob_neg c_4 hF
      refine lv_aload_n hx hb dX8_fill_19 rfl (lv_at hl 0 rfl) ?_
      refine va_get (D := G) (ci := 8) (v := .ref (q 1)) (C := RX8) (T := TX8) (N := 8) hx hb hts iX8 hown hK hP 0 wC_at0 rfl 0 (by decide) (hts _ m_738) (fun _ h9 => h9) rfl dX8_fill_20 ?_
      refine lv_iload_n hx hb dX8_fill_23 rfl (lv_at hl 1 rfl) ?_
      refine lv_iconst (v := 2) hx hb dX8_fill_24 (by decide) ?_
      obtain ⟨r_5, h_5, e_5, hF⟩ := ob2_some hF
      refine gx_calli (gx_runV (As := [.int p1, .int 2]) (rest := []) ⟨hx, hb, hml, hown, hts⟩ (c_X4_ofGoose l G cI cJ cZ cB cT q h_3 p1 2 r_5 h_5 e_5 H.size) (gG_V m_754 m_15 m_16 m_7 m_13) rfl e_X4_ofGoose ⟨Nat.le_of_ble_eq_true rfl, Nat.le_of_ble_eq_true rfl⟩ hK hP hD hE hS hA 1 wC_at1 rfl rfl hl.1 rfl (Nat.le_of_ble_eq_true rfl) dX8_fill_25 ⟨Nat.le_refl _, Nat.le_refl _⟩) hP hD hS hA (fun x_5 u_5 H locs hw_5 hP hD hS => ?_)
      subst x_5
      refine lv_iconst (v := (-1)) hx hb dX8_fill_28 (by decide) ?_
      refine lv_icmp_eq (tgt := 34) hx hb dX8_fill_29 (by decide) (fun c_6 => ?_) (fun c_6 => ?_)
      · have hF := ob_pos c_6 hF
        refine lv_aload_n hx hb dX8_fill_34 rfl (lv_at hl 0 rfl) ?_
        refine va_get (D := G) (ci := 8) (v := .ref (q 16)) (C := RX8) (T := TX8) (N := 8) hx hb hts iX8 hown hK hP 0 wC_at0 rfl 5 (by decide) (hts _ m_755) (fun _ h9 => h9) rfl dX8_fill_35 ?_
        refine lv_aload_n hx hb dX8_fill_38 rfl (lv_at hl 0 rfl) ?_
        refine va_get (D := G) (ci := 8) (v := .ref (q 1)) (C := RX8) (T := TX8) (N := 8) hx hb hts iX8 hown hK hP 0 wC_at0 rfl 0 (by decide) (hts _ m_738) (fun _ h9 => h9) rfl dX8_fill_39 ?_
        refine lv_iload_n hx hb dX8_fill_42 rfl (lv_at hl 1 rfl) ?_
        refine lv_iload_n hx hb dX8_fill_43 rfl (lv_at hl 2 rfl) ?_
        refine lv_iload_n hx hb dX8_fill_44 rfl (lv_at hl 3 rfl) ?_
        obtain ⟨r_7, h_7, e_7, hF⟩ := ob2_some hF
        refine gx_calli (gx_runV (As := [.ref (q 1), .int p1, .int p2, .int p3]) (rest := []) ⟨hx, hb, hml, hown, hts⟩ (c_X1_inkCost l G cI cJ cZ cB cT q h_5 p1 p2 p3 r_7 h_7 e_7 H.size) (gG_V m_757 m_758 m_759 m_436 m_756) rfl e_X1_inkCost ⟨Nat.le_of_ble_eq_true rfl, Nat.le_of_ble_eq_true rfl⟩ hK hP hD hE hS hA 16 wC_at16 rfl rfl hl.1 rfl (Nat.le_of_ble_eq_true rfl) dX8_fill_45 ⟨Nat.le_refl _, Nat.le_refl _⟩) hP hD hS hA (fun x_7 u_7 H locs hw_7 hP hD hS => ?_)
        subst x_7
        refine lv_istore (lv' := [(4, .int r_7), (0, .ref (q 0)), (1, .int p1), (2, .int p2), (3, .int p3)]) hx hb dX8_fill_48 hl (by decide) rfl (fun ls hl => ?_)
        refine lv_iload hx hb dX8_fill_50 (lv_at hl 0 rfl) ?_
        refine lv_aload_n hx hb dX8_fill_52 rfl (lv_at hl 1 rfl) ?_
        refine va_get (D := G) (ci := 8) (v := .ref (q 1)) (C := RX8) (T := TX8) (N := 8) hx hb hts iX8 hown hK hP 0 wC_at0 rfl 0 (by decide) (hts _ m_738) (fun _ h9 => h9) rfl dX8_fill_53 ?_
        refine va_get (D := G) (ci := 4) (v := .int (eI h_7 1 5)) (C := RX4) (T := TX4) (N := 13) hx hb hts iX4 hown hK hP 1 wC_at1 rfl 5 (by decide) (hts _ m_747) (fun _ h9 => h9) rfl dX8_fill_56 ?_
        refine lv_icmp_le (tgt := 64) hx hb dX8_fill_59 (by decide) (fun c_8 => ?_) (fun c_8 => ?_)
        · have hF := ob_pos c_8 hF
          refine lv_aload_n hx hb dX8_fill_64 rfl (lv_at hl 1 rfl) ?_
          refine va_get (D := G) (ci := 8) (v := .ref (q 1)) (C := RX8) (T := TX8) (N := 8) hx hb hts iX8 hown hK hP 0 wC_at0 rfl 0 (by decide) (hts _ m_738) (fun _ h9 => h9) rfl dX8_fill_65 ?_
          obtain ⟨h_9, e_9, hF⟩ := ob1_some hF
          refine gx_callv (gx_runV (As := []) (rest := []) ⟨hx, hb, hml, hown, hts⟩ (c_X4_keepStep l G cI cJ cZ cB cT q h_7  h_9 e_9 H.size) (gG_V m_761 m_762 m_763 m_7 m_760) rfl e_X4_keepStep ⟨Nat.le_of_ble_eq_true rfl, Nat.le_of_ble_eq_true rfl⟩ hK hP hD hE hS hA 1 wC_at1 rfl rfl hl.1 rfl (Nat.le_of_ble_eq_true rfl) dX8_fill_68 ⟨Nat.le_refl _, Nat.le_refl _⟩) hP hD hS hA (fun u_9 H locs hw_9 hP hD hS => ?_)
          refine lv_aload_n hx hb dX8_fill_71 rfl (lv_at hl 1 rfl) ?_
          refine va_get (D := G) (ci := 8) (v := .ref (q 1)) (C := RX8) (T := TX8) (N := 8) hx hb hts iX8 hown hK hP 0 wC_at0 rfl 0 (by decide) (hts _ m_738) (fun _ h9 => h9) rfl dX8_fill_72 ?_
          refine lv_dup hx hb dX8_fill_75 rfl ?_
          refine va_get (D := G) (ci := 4) (v := .int (eI h_9 1 5)) (C := RX4) (T := TX4) (N := 13) hx hb hts iX4 hown hK hP 1 wC_at1 rfl 5 (by decide) (hts _ m_747) (fun _ h9 => h9) rfl dX8_fill_76 ?_
          refine lv_iload hx hb dX8_fill_79 (lv_at hl 0 rfl) ?_
          refine lv_isub hx hb dX8_fill_81 ?_
          refine va_put (D := G) (ci := 4) (v := .int ((eI h_9 1 5) - r_7)) (ty := .int) (C := RX4) (T := TX4) (N := 13) hx hb hts iX4 tyX4 tyX4_ok nmX4 hown hK hP hD hS 1 wC_at1 rfl 5 (by decide) (hts _ m_747) (fun _ h9 => h9) rfl (tyX4_ok 5 (by decide)) rfl rfl (Nat.le_of_ble_eq_true rfl) dX8_fill_82 (fun H locs hP hD hS => ?_)
          rw [wC_sI1_5] at hP hD
          refine lv_aload_n hx hb dX8_fill_85 rfl (lv_at hl 1 rfl) ?_
          refine va_get (D := G) (ci := 8) (v := .ref (q 1)) (C := RX8) (T := TX8) (N := 8) hx hb hts iX8 hown hK hP 0 wC_at0 rfl 0 (by decide) (hts _ m_738) (fun _ h9 => h9) rfl dX8_fill_86 ?_
          refine lv_iload_n hx hb dX8_fill_89 rfl (lv_at hl 2 rfl) ?_
          refine lv_iconst (v := 2) hx hb dX8_fill_90 (by decide) ?_
          refine lv_iload_n hx hb dX8_fill_91 rfl (lv_at hl 3 rfl) ?_
          obtain ⟨h_10, e_10, hF⟩ := ob1_some hF
          refine gx_callv (gx_runV (As := [.int p1, .int 2, .int p2]) (rest := []) ⟨hx, hb, hml, hown, hts⟩ (c_X4_setGoose l G cI cJ cZ cB cT q (sI h_9 1 5 ((eI h_9 1 5) - r_7)) p1 2 p2 h_10 e_10 H.size) (gG_V m_764 m_11 m_12 m_7 m_9) rfl e_X4_setGoose ⟨Nat.le_of_ble_eq_true rfl, Nat.le_of_ble_eq_true rfl⟩ hK hP hD hE hS hA 1 wC_at1 rfl rfl hl.1 rfl (Nat.le_of_ble_eq_true rfl) dX8_fill_92 ⟨Nat.le_refl _, Nat.le_refl _⟩) hP hD hS hA (fun u_10 H locs hw_10 hP hD hS => ?_)
          refine lv_aload_n hx hb dX8_fill_95 rfl (lv_at hl 1 rfl) ?_
          refine va_get (D := G) (ci := 8) (v := .ref (q 1)) (C := RX8) (T := TX8) (N := 8) hx hb hts iX8 hown hK hP 0 wC_at0 rfl 0 (by decide) (hts _ m_738) (fun _ h9 => h9) rfl dX8_fill_96 ?_
          refine lv_iload_n hx hb dX8_fill_99 rfl (lv_at hl 2 rfl) ?_
          refine lv_iconst (v := 3) hx hb dX8_fill_100 (by decide) ?_
          refine lv_iload_n hx hb dX8_fill_101 rfl (lv_at hl 4 rfl) ?_
          obtain ⟨h_11, e_11, hF⟩ := ob1_some hF
          refine gx_callv (gx_runV (As := [.int p1, .int 3, .int p3]) (rest := []) ⟨hx, hb, hml, hown, hts⟩ (c_X4_setGoose l G cI cJ cZ cB cT q h_10 p1 3 p3 h_11 e_11 H.size) (gG_V m_764 m_11 m_12 m_7 m_9) rfl e_X4_setGoose ⟨Nat.le_of_ble_eq_true rfl, Nat.le_of_ble_eq_true rfl⟩ hK hP hD hE hS hA 1 wC_at1 rfl rfl hl.1 rfl (Nat.le_of_ble_eq_true rfl) dX8_fill_102 ⟨Nat.le_refl _, Nat.le_refl _⟩) hP hD hS hA (fun u_11 H locs hw_11 hP hD hS => ?_)
          refine lv_aload_n hx hb dX8_fill_105 rfl (lv_at hl 1 rfl) ?_
          refine va_get (D := G) (ci := 8) (v := .ref (q 1)) (C := RX8) (T := TX8) (N := 8) hx hb hts iX8 hown hK hP 0 wC_at0 rfl 0 (by decide) (hts _ m_738) (fun _ h9 => h9) rfl dX8_fill_106 ?_
          refine va_get (D := G) (ci := 4) (v := .int (eI h_11 1 5)) (C := RX4) (T := TX4) (N := 13) hx hb hts iX4 hown hK hP 1 wC_at1 rfl 5 (by decide) (hts _ m_747) (fun _ h9 => h9) rfl dX8_fill_109 ?_
          obtain ⟨rfl, rfl⟩ := ob_pair hF
          exact gw_iret () hx hb hr hlocks hP hD hS rfl dX8_fill_112
        · have hF := ob_neg c_8 hF
          refine lv_iconst (v := (-1)) hx hb dX8_fill_62 (by decide) ?_
          obtain ⟨rfl, rfl⟩ := ob_pair hF
          exact gw_iret () hx hb hr hlocks hP hD hS rfl dX8_fill_63
      · have hF := ob_neg c_6 hF
        exact hJ_32 h_5 hF H _ ls hP hD hS (lv_sub hl [] rfl)
def f_X8_send_22 (h : HS) : Option (Int32 × HS) := (some ((-1), h))
def f_X8_send (h : HS) (p1 : Int32) (p2 : Int32) : Option (Int32 × HS) := (ob2 (f_X4_hasMarket h p2) (fun r_1 h_1 => (if r_1 = 0 then (f_X8_send_22 h_1) else (ob2 (f_X4_isFree h_1 p1) (fun r_3 h_3 => (if r_3 = 0 then (f_X8_send_22 h_3) else (ob1 (f_X4_keepStep h_3) (fun h_5 => (ob2 (f_X4_ofMarket h_5 p2 0) (fun r_6 h_6 => (ob1 (f_X4_setGoose h_6 p1 4 1) (fun h_7 => (ob1 (f_X4_setGoose h_7 p1 5 p2) (fun h_8 => (ob1 (f_X4_setGoose h_8 p1 6 ((eI h_5 1 7) + r_6)) (fun h_9 => (some (((eI h_5 1 7) + r_6), h_9))))))))))))))))))
theorem e_X4_hasMarket : yX4_hasMarket.cls = RX4 ∧ yX4_hasMarket.cls ≠ "java/lang/invoke/MethodHandle" ∧ yX4_hasMarket.cls ≠ "java/lang/invoke/VarHandle" ∧ (parseMethodDescriptor yX4_hasMarket.desc).map (fun d => d.parameters.length) = some 1 := by decide +kernel
set_option maxHeartbeats 4000000 in
set_option maxRecDepth 100000 in
theorem c_X8_send (l : Launch) (G : va_G) (cI cJ cZ cB cT : ClassId) (q : Nat → Nat) (h : HS) (p1 : Int32) (p2 : Int32) (rr : Int32) (hh : HS) (hF : f_X8_send h p1 p2 = some (rr, hh)) : gMi l yX8_send (gws yX8_send cX8_send 4 (some .int)) 4 G (gT cI cJ cZ cB cT) [.ref (q 0), .int p1, .int p2] (wC q cI cJ cZ cB cT h) (fun x (_ : Unit) => x = rr) (fun (_ : Unit) => (wC q cI cJ cZ cB cT hh)) := by
  intro sz
  refine gM_start (y := yX8_send) (av := [.ref (q 0), .int p1, .int p2]) (ws := (wC q cI cJ cZ cB cT h)) (Qf := fun A => va_Qi (fun x (_ : Unit) => x = rr) (gB G (fun (_ : Unit) => (wC q cI cJ cZ cB cT hh)) A) A) (cc := cX8_send) (maxL := 4) (ret := (some .int)) (by decide) (Nat.le_of_ble_eq_true rfl) ?_
  intro p e s m args below meth c A ls H hx hb hr hts hown hin hlocks hml hP hK hD hA hS hl hE
  have hl : lv_has ls 4 [(0, .ref (q 0)), (1, .int p1), (2, .int p2)] := hl
  have hJ_22 : ∀ (h : HS), f_X8_send_22 h = some (rr, hh) → ∀ (H : Heap) (locs : List Loc) (ls : Array Slot), va_P G vwCl (wC q cI cJ cZ cB cT h) H → va_D A (wC q cI cJ cZ cB cT h) → va_S A s.heap H locs → lv_has ls 4 [] → W p l e (gRm 4) s m args below meth c H locs 0 0 (MQ below (va_Qi (fun x (_ : Unit) => x = rr) (gB G (fun (_ : Unit) => (wC q cI cJ cZ cB cT hh)) A) A) args s 0 0 A) (F0 m 22 ls []) := by
    intro h hF H locs ls hP hD hS hl
    unfold f_X8_send_22 at hF
    refine lv_iconst (v := (-1)) hx hb dX8_send_22 (by decide) ?_
    obtain ⟨rfl, rfl⟩ := ob_pair hF
    exact gw_iret () hx hb hr hlocks hP hD hS rfl dX8_send_23
  unfold f_X8_send at hF
  refine lv_aload_n hx hb dX8_send_0 rfl (lv_at hl 0 rfl) ?_
  refine va_get (D := G) (ci := 8) (v := .ref (q 1)) (C := RX8) (T := TX8) (N := 8) hx hb hts iX8 hown hK hP 0 wC_at0 rfl 0 (by decide) (hts _ m_738) (fun _ h9 => h9) rfl dX8_send_1 ?_
  refine lv_iload_n hx hb dX8_send_4 rfl (lv_at hl 2 rfl) ?_
  obtain ⟨r_1, h_1, e_1, hF⟩ := ob2_some hF
  refine gx_calli (gx_runV (As := [.int p2]) (rest := []) ⟨hx, hb, hml, hown, hts⟩ (c_X4_hasMarket l G cI cJ cZ cB cT q h p2 r_1 h_1 e_1 H.size) (gG_V m_766 m_767 m_768 m_7 m_765) rfl e_X4_hasMarket ⟨Nat.le_of_ble_eq_true rfl, Nat.le_of_ble_eq_true rfl⟩ hK hP hD hE hS hA 1 wC_at1 rfl rfl hl.1 rfl (Nat.le_of_ble_eq_true rfl) dX8_send_5 ⟨Nat.le_refl _, Nat.le_refl _⟩) hP hD hS hA (fun x_1 u_1 H locs hw_1 hP hD hS => ?_)
  subst x_1
  refine lv_if_eq (tgt := 22) hx hb dX8_send_8 (by decide) (fun c_2 => ?_) (fun c_2 => ?_)
  · have hF := ob_pos c_2 hF
    exact hJ_22 h_1 hF H _ ls hP hD hS (lv_sub hl [] rfl)
  · have hF := ob_neg c_2 hF
    refine lv_aload_n hx hb dX8_send_11 rfl (lv_at hl 0 rfl) ?_
    refine va_get (D := G) (ci := 8) (v := .ref (q 1)) (C := RX8) (T := TX8) (N := 8) hx hb hts iX8 hown hK hP 0 wC_at0 rfl 0 (by decide) (hts _ m_738) (fun _ h9 => h9) rfl dX8_send_12 ?_
    refine lv_iload_n hx hb dX8_send_15 rfl (lv_at hl 1 rfl) ?_
    obtain ⟨r_3, h_3, e_3, hF⟩ := ob2_some hF
    refine gx_calli (gx_runV (As := [.int p1]) (rest := []) ⟨hx, hb, hml, hown, hts⟩ (c_X4_isFree l G cI cJ cZ cB cT q h_1 p1 r_3 h_3 e_3 H.size) (gG_V m_769 m_34 m_35 m_7 m_32) rfl e_X4_isFree ⟨Nat.le_of_ble_eq_true rfl, Nat.le_of_ble_eq_true rfl⟩ hK hP hD hE hS hA 1 wC_at1 rfl rfl hl.1 rfl (Nat.le_of_ble_eq_true rfl) dX8_send_16 ⟨Nat.le_refl _, Nat.le_refl _⟩) hP hD hS hA (fun x_3 u_3 H locs hw_3 hP hD hS => ?_)
    subst x_3
    refine lv_if_ne (tgt := 24) hx hb dX8_send_19 (by decide) (fun c_4 => ?_) (fun c_4 => ?_)
    · have hF := ob_neg c_4 hF
      refine lv_aload_n hx hb dX8_send_24 rfl (lv_at hl 0 rfl) ?_
      refine va_get (D := G) (ci := 8) (v := .ref (q 1)) (C := RX8) (T := TX8) (N := 8) hx hb hts iX8 hown hK hP 0 wC_at0 rfl 0 (by decide) (hts _ m_738) (fun _ h9 => h9) rfl dX8_send_25 ?_
      obtain ⟨h_5, e_5, hF⟩ := ob1_some hF
      refine gx_callv (gx_runV (As := []) (rest := []) ⟨hx, hb, hml, hown, hts⟩ (c_X4_keepStep l G cI cJ cZ cB cT q h_3  h_5 e_5 H.size) (gG_V m_761 m_762 m_763 m_7 m_760) rfl e_X4_keepStep ⟨Nat.le_of_ble_eq_true rfl, Nat.le_of_ble_eq_true rfl⟩ hK hP hD hE hS hA 1 wC_at1 rfl rfl hl.1 rfl (Nat.le_of_ble_eq_true rfl) dX8_send_28 ⟨Nat.le_refl _, Nat.le_refl _⟩) hP hD hS hA (fun u_5 H locs hw_5 hP hD hS => ?_)
      refine lv_aload_n hx hb dX8_send_31 rfl (lv_at hl 0 rfl) ?_
      refine va_get (D := G) (ci := 8) (v := .ref (q 1)) (C := RX8) (T := TX8) (N := 8) hx hb hts iX8 hown hK hP 0 wC_at0 rfl 0 (by decide) (hts _ m_738) (fun _ h9 => h9) rfl dX8_send_32 ?_
      refine va_get (D := G) (ci := 4) (v := .int (eI h_5 1 7)) (C := RX4) (T := TX4) (N := 13) hx hb hts iX4 hown hK hP 1 wC_at1 rfl 7 (by decide) (hts _ m_770) (fun _ h9 => h9) rfl dX8_send_35 ?_
      refine lv_aload_n hx hb dX8_send_38 rfl (lv_at hl 0 rfl) ?_
      refine va_get (D := G) (ci := 8) (v := .ref (q 1)) (C := RX8) (T := TX8) (N := 8) hx hb hts iX8 hown hK hP 0 wC_at0 rfl 0 (by decide) (hts _ m_738) (fun _ h9 => h9) rfl dX8_send_39 ?_
      refine lv_iload_n hx hb dX8_send_42 rfl (lv_at hl 2 rfl) ?_
      refine lv_iconst (v := 0) hx hb dX8_send_43 (by decide) ?_
      obtain ⟨r_6, h_6, e_6, hF⟩ := ob2_some hF
      refine gx_calli (gx_runV (As := [.int p2, .int 0]) (rest := [.int (eI h_5 1 7)]) ⟨hx, hb, hml, hown, hts⟩ (c_X4_ofMarket l G cI cJ cZ cB cT q h_5 p2 0 r_6 h_6 e_6 H.size) (gG_V m_771 m_453 m_454 m_7 m_451) rfl e_X4_ofMarket ⟨Nat.le_of_ble_eq_true rfl, Nat.le_of_ble_eq_true rfl⟩ hK hP hD hE hS hA 1 wC_at1 rfl rfl hl.1 rfl (Nat.le_of_ble_eq_true rfl) dX8_send_44 ⟨Nat.le_refl _, Nat.le_refl _⟩) hP hD hS hA (fun x_6 u_6 H locs hw_6 hP hD hS => ?_)
      subst x_6
      refine lv_iadd hx hb dX8_send_47 ?_
      refine lv_istore_n (lv' := [(3, .int ((eI h_5 1 7) + r_6)), (0, .ref (q 0)), (1, .int p1), (2, .int p2)]) hx hb dX8_send_48 rfl hl (by decide) rfl (fun ls hl => ?_)
      refine lv_aload_n hx hb dX8_send_49 rfl (lv_at hl 1 rfl) ?_
      refine va_get (D := G) (ci := 8) (v := .ref (q 1)) (C := RX8) (T := TX8) (N := 8) hx hb hts iX8 hown hK hP 0 wC_at0 rfl 0 (by decide) (hts _ m_738) (fun _ h9 => h9) rfl dX8_send_50 ?_
      refine lv_iload_n hx hb dX8_send_53 rfl (lv_at hl 2 rfl) ?_
      refine lv_iconst (v := 4) hx hb dX8_send_54 (by decide) ?_
      refine lv_iconst (v := 1) hx hb dX8_send_55 (by decide) ?_
      obtain ⟨h_7, e_7, hF⟩ := ob1_some hF
      refine gx_callv (gx_runV (As := [.int p1, .int 4, .int 1]) (rest := []) ⟨hx, hb, hml, hown, hts⟩ (c_X4_setGoose l G cI cJ cZ cB cT q h_6 p1 4 1 h_7 e_7 H.size) (gG_V m_764 m_11 m_12 m_7 m_9) rfl e_X4_setGoose ⟨Nat.le_of_ble_eq_true rfl, Nat.le_of_ble_eq_true rfl⟩ hK hP hD hE hS hA 1 wC_at1 rfl rfl hl.1 rfl (Nat.le_of_ble_eq_true rfl) dX8_send_56 ⟨Nat.le_refl _, Nat.le_refl _⟩) hP hD hS hA (fun u_7 H locs hw_7 hP hD hS => ?_)
      refine lv_aload_n hx hb dX8_send_59 rfl (lv_at hl 1 rfl) ?_
      refine va_get (D := G) (ci := 8) (v := .ref (q 1)) (C := RX8) (T := TX8) (N := 8) hx hb hts iX8 hown hK hP 0 wC_at0 rfl 0 (by decide) (hts _ m_738) (fun _ h9 => h9) rfl dX8_send_60 ?_
      refine lv_iload_n hx hb dX8_send_63 rfl (lv_at hl 2 rfl) ?_
      refine lv_iconst (v := 5) hx hb dX8_send_64 (by decide) ?_
      refine lv_iload_n hx hb dX8_send_65 rfl (lv_at hl 3 rfl) ?_
      obtain ⟨h_8, e_8, hF⟩ := ob1_some hF
      refine gx_callv (gx_runV (As := [.int p1, .int 5, .int p2]) (rest := []) ⟨hx, hb, hml, hown, hts⟩ (c_X4_setGoose l G cI cJ cZ cB cT q h_7 p1 5 p2 h_8 e_8 H.size) (gG_V m_764 m_11 m_12 m_7 m_9) rfl e_X4_setGoose ⟨Nat.le_of_ble_eq_true rfl, Nat.le_of_ble_eq_true rfl⟩ hK hP hD hE hS hA 1 wC_at1 rfl rfl hl.1 rfl (Nat.le_of_ble_eq_true rfl) dX8_send_66 ⟨Nat.le_refl _, Nat.le_refl _⟩) hP hD hS hA (fun u_8 H locs hw_8 hP hD hS => ?_)
      refine lv_aload_n hx hb dX8_send_69 rfl (lv_at hl 1 rfl) ?_
      refine va_get (D := G) (ci := 8) (v := .ref (q 1)) (C := RX8) (T := TX8) (N := 8) hx hb hts iX8 hown hK hP 0 wC_at0 rfl 0 (by decide) (hts _ m_738) (fun _ h9 => h9) rfl dX8_send_70 ?_
      refine lv_iload_n hx hb dX8_send_73 rfl (lv_at hl 2 rfl) ?_
      refine lv_bipush (v := 6) hx hb dX8_send_74 (by decide) ?_
      refine lv_iload_n hx hb dX8_send_76 rfl (lv_at hl 0 rfl) ?_
      obtain ⟨h_9, e_9, hF⟩ := ob1_some hF
      refine gx_callv (gx_runV (As := [.int p1, .int 6, .int ((eI h_5 1 7) + r_6)]) (rest := []) ⟨hx, hb, hml, hown, hts⟩ (c_X4_setGoose l G cI cJ cZ cB cT q h_8 p1 6 ((eI h_5 1 7) + r_6) h_9 e_9 H.size) (gG_V m_764 m_11 m_12 m_7 m_9) rfl e_X4_setGoose ⟨Nat.le_of_ble_eq_true rfl, Nat.le_of_ble_eq_true rfl⟩ hK hP hD hE hS hA 1 wC_at1 rfl rfl hl.1 rfl (Nat.le_of_ble_eq_true rfl) dX8_send_77 ⟨Nat.le_refl _, Nat.le_refl _⟩) hP hD hS hA (fun u_9 H locs hw_9 hP hD hS => ?_)
      refine lv_iload_n hx hb dX8_send_80 rfl (lv_at hl 0 rfl) ?_
      obtain ⟨rfl, rfl⟩ := ob_pair hF
      exact gw_iret () hx hb hr hlocks hP hD hS rfl dX8_send_81
    · have hF := ob_pos c_4 hF
      exact hJ_22 h_3 hF H _ ls hP hD hS (lv_sub hl [] rfl)
def f_X8_fatten_36 (h : HS) : Option (Int32 × HS) := (some ((-1), h))
def f_X8_fatten (h : HS) (p1 : Int32) : Option (Int32 × HS) := (ob2 (f_X4_isHome h p1) (fun r_1 h_1 => (if r_1 = 0 then (f_X8_fatten_36 h_1) else (ob2 (f_X4_ofGoose h_1 p1 0) (fun r_3 h_3 => (if 20 ≤ r_3 then (f_X8_fatten_36 h_3) else (if 1 ≤ (eI h_3 1 5) then (ob1 (f_X4_keepStep h_3) (fun h_6 => (ob2 (f_X4_ofGoose (sI h_6 1 5 ((eI h_6 1 5) - 1)) p1 0) (fun r_7 h_7 => (ob1 (f_X4_setGoose h_7 p1 0 (r_7 + 1)) (fun h_8 => (ob2 (f_X4_ofGoose h_8 p1 0) (fun r_9 h_9 => (some (r_9, h_9)))))))))) else (f_X8_fatten_36 h_3))))))))
set_option maxHeartbeats 4000000 in
set_option maxRecDepth 100000 in
theorem c_X8_fatten (l : Launch) (G : va_G) (cI cJ cZ cB cT : ClassId) (q : Nat → Nat) (h : HS) (p1 : Int32) (rr : Int32) (hh : HS) (hF : f_X8_fatten h p1 = some (rr, hh)) : gMi l yX8_fatten (gws yX8_fatten cX8_fatten 2 (some .int)) 3 G (gT cI cJ cZ cB cT) [.ref (q 0), .int p1] (wC q cI cJ cZ cB cT h) (fun x (_ : Unit) => x = rr) (fun (_ : Unit) => (wC q cI cJ cZ cB cT hh)) := by
  intro sz
  refine gM_start (y := yX8_fatten) (av := [.ref (q 0), .int p1]) (ws := (wC q cI cJ cZ cB cT h)) (Qf := fun A => va_Qi (fun x (_ : Unit) => x = rr) (gB G (fun (_ : Unit) => (wC q cI cJ cZ cB cT hh)) A) A) (cc := cX8_fatten) (maxL := 2) (ret := (some .int)) (by decide) (Nat.le_of_ble_eq_true rfl) ?_
  intro p e s m args below meth c A ls H hx hb hr hts hown hin hlocks hml hP hK hD hA hS hl hE
  have hl : lv_has ls 2 [(0, .ref (q 0)), (1, .int p1)] := hl
  have hJ_36 : ∀ (h : HS), f_X8_fatten_36 h = some (rr, hh) → ∀ (H : Heap) (locs : List Loc) (ls : Array Slot), va_P G vwCl (wC q cI cJ cZ cB cT h) H → va_D A (wC q cI cJ cZ cB cT h) → va_S A s.heap H locs → lv_has ls 2 [] → W p l e (gRm 3) s m args below meth c H locs 0 0 (MQ below (va_Qi (fun x (_ : Unit) => x = rr) (gB G (fun (_ : Unit) => (wC q cI cJ cZ cB cT hh)) A) A) args s 0 0 A) (F0 m 36 ls []) := by
    intro h hF H locs ls hP hD hS hl
    unfold f_X8_fatten_36 at hF
    refine lv_iconst (v := (-1)) hx hb dX8_fatten_36 (by decide) ?_
    obtain ⟨rfl, rfl⟩ := ob_pair hF
    exact gw_iret () hx hb hr hlocks hP hD hS rfl dX8_fatten_37
  unfold f_X8_fatten at hF
  refine lv_aload_n hx hb dX8_fatten_0 rfl (lv_at hl 0 rfl) ?_
  refine va_get (D := G) (ci := 8) (v := .ref (q 1)) (C := RX8) (T := TX8) (N := 8) hx hb hts iX8 hown hK hP 0 wC_at0 rfl 0 (by decide) (hts _ m_738) (fun _ h9 => h9) rfl dX8_fatten_1 ?_
  refine lv_iload_n hx hb dX8_fatten_4 rfl (lv_at hl 1 rfl) ?_
  obtain ⟨r_1, h_1, e_1, hF⟩ := ob2_some hF
  refine gx_calli (gx_runV (As := [.int p1]) (rest := []) ⟨hx, hb, hml, hown, hts⟩ (c_X4_isHome l G cI cJ cZ cB cT q h p1 r_1 h_1 e_1 H.size) (gG_V m_753 m_19 m_20 m_7 m_17) rfl e_X4_isHome ⟨Nat.le_of_ble_eq_true rfl, Nat.le_of_ble_eq_true rfl⟩ hK hP hD hE hS hA 1 wC_at1 rfl rfl hl.1 rfl (Nat.le_of_ble_eq_true rfl) dX8_fatten_5 ⟨Nat.le_refl _, Nat.le_refl _⟩) hP hD hS hA (fun x_1 u_1 H locs hw_1 hP hD hS => ?_)
  subst x_1
  refine lv_if_eq (tgt := 36) hx hb dX8_fatten_8 (by decide) (fun c_2 => ?_) (fun c_2 => ?_)
  · have hF := ob_pos c_2 hF
    exact hJ_36 h_1 hF H _ ls hP hD hS (lv_sub hl [] rfl)
  · have hF := ob_neg c_2 hF
    refine lv_aload_n hx hb dX8_fatten_11 rfl (lv_at hl 0 rfl) ?_
    refine va_get (D := G) (ci := 8) (v := .ref (q 1)) (C := RX8) (T := TX8) (N := 8) hx hb hts iX8 hown hK hP 0 wC_at0 rfl 0 (by decide) (hts _ m_738) (fun _ h9 => h9) rfl dX8_fatten_12 ?_
    refine lv_iload_n hx hb dX8_fatten_15 rfl (lv_at hl 1 rfl) ?_
    refine lv_iconst (v := 0) hx hb dX8_fatten_16 (by decide) ?_
    obtain ⟨r_3, h_3, e_3, hF⟩ := ob2_some hF
    refine gx_calli (gx_runV (As := [.int p1, .int 0]) (rest := []) ⟨hx, hb, hml, hown, hts⟩ (c_X4_ofGoose l G cI cJ cZ cB cT q h_1 p1 0 r_3 h_3 e_3 H.size) (gG_V m_754 m_15 m_16 m_7 m_13) rfl e_X4_ofGoose ⟨Nat.le_of_ble_eq_true rfl, Nat.le_of_ble_eq_true rfl⟩ hK hP hD hE hS hA 1 wC_at1 rfl rfl hl.1 rfl (Nat.le_of_ble_eq_true rfl) dX8_fatten_17 ⟨Nat.le_refl _, Nat.le_refl _⟩) hP hD hS hA (fun x_3 u_3 H locs hw_3 hP hD hS => ?_)
    subst x_3
    refine lv_bipush (v := 20) hx hb dX8_fatten_20 (by decide) ?_
    refine lv_icmp_ge (tgt := 36) hx hb dX8_fatten_22 (by decide) (fun c_4 => ?_) (fun c_4 => ?_)
    · have hF := ob_pos c_4 hF
      exact hJ_36 h_3 hF H _ ls hP hD hS (lv_sub hl [] rfl)
    · have hF := ob_neg c_4 hF
      refine lv_aload_n hx hb dX8_fatten_25 rfl (lv_at hl 0 rfl) ?_
      refine va_get (D := G) (ci := 8) (v := .ref (q 1)) (C := RX8) (T := TX8) (N := 8) hx hb hts iX8 hown hK hP 0 wC_at0 rfl 0 (by decide) (hts _ m_738) (fun _ h9 => h9) rfl dX8_fatten_26 ?_
      refine va_get (D := G) (ci := 4) (v := .int (eI h_3 1 5)) (C := RX4) (T := TX4) (N := 13) hx hb hts iX4 hown hK hP 1 wC_at1 rfl 5 (by decide) (hts _ m_747) (fun _ h9 => h9) rfl dX8_fatten_29 ?_
      refine lv_iconst (v := 1) hx hb dX8_fatten_32 (by decide) ?_
      refine lv_icmp_ge (tgt := 38) hx hb dX8_fatten_33 (by decide) (fun c_5 => ?_) (fun c_5 => ?_)
      · have hF := ob_pos c_5 hF
        refine lv_aload_n hx hb dX8_fatten_38 rfl (lv_at hl 0 rfl) ?_
        refine va_get (D := G) (ci := 8) (v := .ref (q 1)) (C := RX8) (T := TX8) (N := 8) hx hb hts iX8 hown hK hP 0 wC_at0 rfl 0 (by decide) (hts _ m_738) (fun _ h9 => h9) rfl dX8_fatten_39 ?_
        obtain ⟨h_6, e_6, hF⟩ := ob1_some hF
        refine gx_callv (gx_runV (As := []) (rest := []) ⟨hx, hb, hml, hown, hts⟩ (c_X4_keepStep l G cI cJ cZ cB cT q h_3  h_6 e_6 H.size) (gG_V m_761 m_762 m_763 m_7 m_760) rfl e_X4_keepStep ⟨Nat.le_of_ble_eq_true rfl, Nat.le_of_ble_eq_true rfl⟩ hK hP hD hE hS hA 1 wC_at1 rfl rfl hl.1 rfl (Nat.le_of_ble_eq_true rfl) dX8_fatten_42 ⟨Nat.le_refl _, Nat.le_refl _⟩) hP hD hS hA (fun u_6 H locs hw_6 hP hD hS => ?_)
        refine lv_aload_n hx hb dX8_fatten_45 rfl (lv_at hl 0 rfl) ?_
        refine va_get (D := G) (ci := 8) (v := .ref (q 1)) (C := RX8) (T := TX8) (N := 8) hx hb hts iX8 hown hK hP 0 wC_at0 rfl 0 (by decide) (hts _ m_738) (fun _ h9 => h9) rfl dX8_fatten_46 ?_
        refine lv_dup hx hb dX8_fatten_49 rfl ?_
        refine va_get (D := G) (ci := 4) (v := .int (eI h_6 1 5)) (C := RX4) (T := TX4) (N := 13) hx hb hts iX4 hown hK hP 1 wC_at1 rfl 5 (by decide) (hts _ m_747) (fun _ h9 => h9) rfl dX8_fatten_50 ?_
        refine lv_iconst (v := 1) hx hb dX8_fatten_53 (by decide) ?_
        refine lv_isub hx hb dX8_fatten_54 ?_
        refine va_put (D := G) (ci := 4) (v := .int ((eI h_6 1 5) - 1)) (ty := .int) (C := RX4) (T := TX4) (N := 13) hx hb hts iX4 tyX4 tyX4_ok nmX4 hown hK hP hD hS 1 wC_at1 rfl 5 (by decide) (hts _ m_747) (fun _ h9 => h9) rfl (tyX4_ok 5 (by decide)) rfl rfl (Nat.le_of_ble_eq_true rfl) dX8_fatten_55 (fun H locs hP hD hS => ?_)
        rw [wC_sI1_5] at hP hD
        refine lv_aload_n hx hb dX8_fatten_58 rfl (lv_at hl 0 rfl) ?_
        refine va_get (D := G) (ci := 8) (v := .ref (q 1)) (C := RX8) (T := TX8) (N := 8) hx hb hts iX8 hown hK hP 0 wC_at0 rfl 0 (by decide) (hts _ m_738) (fun _ h9 => h9) rfl dX8_fatten_59 ?_
        refine lv_iload_n hx hb dX8_fatten_62 rfl (lv_at hl 1 rfl) ?_
        refine lv_iconst (v := 0) hx hb dX8_fatten_63 (by decide) ?_
        refine lv_aload_n hx hb dX8_fatten_64 rfl (lv_at hl 0 rfl) ?_
        refine va_get (D := G) (ci := 8) (v := .ref (q 1)) (C := RX8) (T := TX8) (N := 8) hx hb hts iX8 hown hK hP 0 wC_at0 rfl 0 (by decide) (hts _ m_738) (fun _ h9 => h9) rfl dX8_fatten_65 ?_
        refine lv_iload_n hx hb dX8_fatten_68 rfl (lv_at hl 1 rfl) ?_
        refine lv_iconst (v := 0) hx hb dX8_fatten_69 (by decide) ?_
        obtain ⟨r_7, h_7, e_7, hF⟩ := ob2_some hF
        refine gx_calli (gx_runV (As := [.int p1, .int 0]) (rest := [.int 0, .int p1, .ref (q 1)]) ⟨hx, hb, hml, hown, hts⟩ (c_X4_ofGoose l G cI cJ cZ cB cT q (sI h_6 1 5 ((eI h_6 1 5) - 1)) p1 0 r_7 h_7 e_7 H.size) (gG_V m_754 m_15 m_16 m_7 m_13) rfl e_X4_ofGoose ⟨Nat.le_of_ble_eq_true rfl, Nat.le_of_ble_eq_true rfl⟩ hK hP hD hE hS hA 1 wC_at1 rfl rfl hl.1 rfl (Nat.le_of_ble_eq_true rfl) dX8_fatten_70 ⟨Nat.le_refl _, Nat.le_refl _⟩) hP hD hS hA (fun x_7 u_7 H locs hw_7 hP hD hS => ?_)
        subst x_7
        refine lv_iconst (v := 1) hx hb dX8_fatten_73 (by decide) ?_
        refine lv_iadd hx hb dX8_fatten_74 ?_
        obtain ⟨h_8, e_8, hF⟩ := ob1_some hF
        refine gx_callv (gx_runV (As := [.int p1, .int 0, .int (r_7 + 1)]) (rest := []) ⟨hx, hb, hml, hown, hts⟩ (c_X4_setGoose l G cI cJ cZ cB cT q h_7 p1 0 (r_7 + 1) h_8 e_8 H.size) (gG_V m_764 m_11 m_12 m_7 m_9) rfl e_X4_setGoose ⟨Nat.le_of_ble_eq_true rfl, Nat.le_of_ble_eq_true rfl⟩ hK hP hD hE hS hA 1 wC_at1 rfl rfl hl.1 rfl (Nat.le_of_ble_eq_true rfl) dX8_fatten_75 ⟨Nat.le_refl _, Nat.le_refl _⟩) hP hD hS hA (fun u_8 H locs hw_8 hP hD hS => ?_)
        refine lv_aload_n hx hb dX8_fatten_78 rfl (lv_at hl 0 rfl) ?_
        refine va_get (D := G) (ci := 8) (v := .ref (q 1)) (C := RX8) (T := TX8) (N := 8) hx hb hts iX8 hown hK hP 0 wC_at0 rfl 0 (by decide) (hts _ m_738) (fun _ h9 => h9) rfl dX8_fatten_79 ?_
        refine lv_iload_n hx hb dX8_fatten_82 rfl (lv_at hl 1 rfl) ?_
        refine lv_iconst (v := 0) hx hb dX8_fatten_83 (by decide) ?_
        obtain ⟨r_9, h_9, e_9, hF⟩ := ob2_some hF
        refine gx_calli (gx_runV (As := [.int p1, .int 0]) (rest := []) ⟨hx, hb, hml, hown, hts⟩ (c_X4_ofGoose l G cI cJ cZ cB cT q h_8 p1 0 r_9 h_9 e_9 H.size) (gG_V m_754 m_15 m_16 m_7 m_13) rfl e_X4_ofGoose ⟨Nat.le_of_ble_eq_true rfl, Nat.le_of_ble_eq_true rfl⟩ hK hP hD hE hS hA 1 wC_at1 rfl rfl hl.1 rfl (Nat.le_of_ble_eq_true rfl) dX8_fatten_84 ⟨Nat.le_refl _, Nat.le_refl _⟩) hP hD hS hA (fun x_9 u_9 H locs hw_9 hP hD hS => ?_)
        subst x_9
        obtain ⟨rfl, rfl⟩ := ob_pair hF
        exact gw_iret () hx hb hr hlocks hP hD hS rfl dX8_fatten_87
      · have hF := ob_neg c_5 hF
        exact hJ_36 h_3 hF H _ ls hP hD hS (lv_sub hl [] rfl)
def f_X8_pluck_24 (h : HS) : Option (Int32 × HS) := (some ((-1), h))
def f_X8_pluck (h : HS) (p1 : Int32) : Option (Int32 × HS) := (ob2 (f_X4_isHome h p1) (fun r_1 h_1 => (if r_1 = 0 then (f_X8_pluck_24 h_1) else (ob2 (f_X4_ofGoose h_1 p1 1) (fun r_3 h_3 => (if 1 ≤ r_3 then (ob1 (f_X4_keepStep h_3) (fun h_5 => (ob2 (f_X4_ofGoose h_5 p1 1) (fun r_6 h_6 => (ob1 (f_X4_setGoose h_6 p1 1 (r_6 - 1)) (fun h_7 => (ob2 (f_X4_ofGoose h_7 p1 1) (fun r_8 h_8 => (some (r_8, h_8)))))))))) else (f_X8_pluck_24 h_3)))))))
set_option maxHeartbeats 4000000 in
set_option maxRecDepth 100000 in
theorem c_X8_pluck (l : Launch) (G : va_G) (cI cJ cZ cB cT : ClassId) (q : Nat → Nat) (h : HS) (p1 : Int32) (rr : Int32) (hh : HS) (hF : f_X8_pluck h p1 = some (rr, hh)) : gMi l yX8_pluck (gws yX8_pluck cX8_pluck 2 (some .int)) 3 G (gT cI cJ cZ cB cT) [.ref (q 0), .int p1] (wC q cI cJ cZ cB cT h) (fun x (_ : Unit) => x = rr) (fun (_ : Unit) => (wC q cI cJ cZ cB cT hh)) := by
  intro sz
  refine gM_start (y := yX8_pluck) (av := [.ref (q 0), .int p1]) (ws := (wC q cI cJ cZ cB cT h)) (Qf := fun A => va_Qi (fun x (_ : Unit) => x = rr) (gB G (fun (_ : Unit) => (wC q cI cJ cZ cB cT hh)) A) A) (cc := cX8_pluck) (maxL := 2) (ret := (some .int)) (by decide) (Nat.le_of_ble_eq_true rfl) ?_
  intro p e s m args below meth c A ls H hx hb hr hts hown hin hlocks hml hP hK hD hA hS hl hE
  have hl : lv_has ls 2 [(0, .ref (q 0)), (1, .int p1)] := hl
  have hJ_24 : ∀ (h : HS), f_X8_pluck_24 h = some (rr, hh) → ∀ (H : Heap) (locs : List Loc) (ls : Array Slot), va_P G vwCl (wC q cI cJ cZ cB cT h) H → va_D A (wC q cI cJ cZ cB cT h) → va_S A s.heap H locs → lv_has ls 2 [] → W p l e (gRm 3) s m args below meth c H locs 0 0 (MQ below (va_Qi (fun x (_ : Unit) => x = rr) (gB G (fun (_ : Unit) => (wC q cI cJ cZ cB cT hh)) A) A) args s 0 0 A) (F0 m 24 ls []) := by
    intro h hF H locs ls hP hD hS hl
    unfold f_X8_pluck_24 at hF
    refine lv_iconst (v := (-1)) hx hb dX8_pluck_24 (by decide) ?_
    obtain ⟨rfl, rfl⟩ := ob_pair hF
    exact gw_iret () hx hb hr hlocks hP hD hS rfl dX8_pluck_25
  unfold f_X8_pluck at hF
  refine lv_aload_n hx hb dX8_pluck_0 rfl (lv_at hl 0 rfl) ?_
  refine va_get (D := G) (ci := 8) (v := .ref (q 1)) (C := RX8) (T := TX8) (N := 8) hx hb hts iX8 hown hK hP 0 wC_at0 rfl 0 (by decide) (hts _ m_738) (fun _ h9 => h9) rfl dX8_pluck_1 ?_
  refine lv_iload_n hx hb dX8_pluck_4 rfl (lv_at hl 1 rfl) ?_
  obtain ⟨r_1, h_1, e_1, hF⟩ := ob2_some hF
  refine gx_calli (gx_runV (As := [.int p1]) (rest := []) ⟨hx, hb, hml, hown, hts⟩ (c_X4_isHome l G cI cJ cZ cB cT q h p1 r_1 h_1 e_1 H.size) (gG_V m_753 m_19 m_20 m_7 m_17) rfl e_X4_isHome ⟨Nat.le_of_ble_eq_true rfl, Nat.le_of_ble_eq_true rfl⟩ hK hP hD hE hS hA 1 wC_at1 rfl rfl hl.1 rfl (Nat.le_of_ble_eq_true rfl) dX8_pluck_5 ⟨Nat.le_refl _, Nat.le_refl _⟩) hP hD hS hA (fun x_1 u_1 H locs hw_1 hP hD hS => ?_)
  subst x_1
  refine lv_if_eq (tgt := 24) hx hb dX8_pluck_8 (by decide) (fun c_2 => ?_) (fun c_2 => ?_)
  · have hF := ob_pos c_2 hF
    exact hJ_24 h_1 hF H _ ls hP hD hS (lv_sub hl [] rfl)
  · have hF := ob_neg c_2 hF
    refine lv_aload_n hx hb dX8_pluck_11 rfl (lv_at hl 0 rfl) ?_
    refine va_get (D := G) (ci := 8) (v := .ref (q 1)) (C := RX8) (T := TX8) (N := 8) hx hb hts iX8 hown hK hP 0 wC_at0 rfl 0 (by decide) (hts _ m_738) (fun _ h9 => h9) rfl dX8_pluck_12 ?_
    refine lv_iload_n hx hb dX8_pluck_15 rfl (lv_at hl 1 rfl) ?_
    refine lv_iconst (v := 1) hx hb dX8_pluck_16 (by decide) ?_
    obtain ⟨r_3, h_3, e_3, hF⟩ := ob2_some hF
    refine gx_calli (gx_runV (As := [.int p1, .int 1]) (rest := []) ⟨hx, hb, hml, hown, hts⟩ (c_X4_ofGoose l G cI cJ cZ cB cT q h_1 p1 1 r_3 h_3 e_3 H.size) (gG_V m_754 m_15 m_16 m_7 m_13) rfl e_X4_ofGoose ⟨Nat.le_of_ble_eq_true rfl, Nat.le_of_ble_eq_true rfl⟩ hK hP hD hE hS hA 1 wC_at1 rfl rfl hl.1 rfl (Nat.le_of_ble_eq_true rfl) dX8_pluck_17 ⟨Nat.le_refl _, Nat.le_refl _⟩) hP hD hS hA (fun x_3 u_3 H locs hw_3 hP hD hS => ?_)
    subst x_3
    refine lv_iconst (v := 1) hx hb dX8_pluck_20 (by decide) ?_
    refine lv_icmp_ge (tgt := 26) hx hb dX8_pluck_21 (by decide) (fun c_4 => ?_) (fun c_4 => ?_)
    · have hF := ob_pos c_4 hF
      refine lv_aload_n hx hb dX8_pluck_26 rfl (lv_at hl 0 rfl) ?_
      refine va_get (D := G) (ci := 8) (v := .ref (q 1)) (C := RX8) (T := TX8) (N := 8) hx hb hts iX8 hown hK hP 0 wC_at0 rfl 0 (by decide) (hts _ m_738) (fun _ h9 => h9) rfl dX8_pluck_27 ?_
      obtain ⟨h_5, e_5, hF⟩ := ob1_some hF
      refine gx_callv (gx_runV (As := []) (rest := []) ⟨hx, hb, hml, hown, hts⟩ (c_X4_keepStep l G cI cJ cZ cB cT q h_3  h_5 e_5 H.size) (gG_V m_761 m_762 m_763 m_7 m_760) rfl e_X4_keepStep ⟨Nat.le_of_ble_eq_true rfl, Nat.le_of_ble_eq_true rfl⟩ hK hP hD hE hS hA 1 wC_at1 rfl rfl hl.1 rfl (Nat.le_of_ble_eq_true rfl) dX8_pluck_30 ⟨Nat.le_refl _, Nat.le_refl _⟩) hP hD hS hA (fun u_5 H locs hw_5 hP hD hS => ?_)
      refine lv_aload_n hx hb dX8_pluck_33 rfl (lv_at hl 0 rfl) ?_
      refine va_get (D := G) (ci := 8) (v := .ref (q 1)) (C := RX8) (T := TX8) (N := 8) hx hb hts iX8 hown hK hP 0 wC_at0 rfl 0 (by decide) (hts _ m_738) (fun _ h9 => h9) rfl dX8_pluck_34 ?_
      refine lv_iload_n hx hb dX8_pluck_37 rfl (lv_at hl 1 rfl) ?_
      refine lv_iconst (v := 1) hx hb dX8_pluck_38 (by decide) ?_
      refine lv_aload_n hx hb dX8_pluck_39 rfl (lv_at hl 0 rfl) ?_
      refine va_get (D := G) (ci := 8) (v := .ref (q 1)) (C := RX8) (T := TX8) (N := 8) hx hb hts iX8 hown hK hP 0 wC_at0 rfl 0 (by decide) (hts _ m_738) (fun _ h9 => h9) rfl dX8_pluck_40 ?_
      refine lv_iload_n hx hb dX8_pluck_43 rfl (lv_at hl 1 rfl) ?_
      refine lv_iconst (v := 1) hx hb dX8_pluck_44 (by decide) ?_
      obtain ⟨r_6, h_6, e_6, hF⟩ := ob2_some hF
      refine gx_calli (gx_runV (As := [.int p1, .int 1]) (rest := [.int 1, .int p1, .ref (q 1)]) ⟨hx, hb, hml, hown, hts⟩ (c_X4_ofGoose l G cI cJ cZ cB cT q h_5 p1 1 r_6 h_6 e_6 H.size) (gG_V m_754 m_15 m_16 m_7 m_13) rfl e_X4_ofGoose ⟨Nat.le_of_ble_eq_true rfl, Nat.le_of_ble_eq_true rfl⟩ hK hP hD hE hS hA 1 wC_at1 rfl rfl hl.1 rfl (Nat.le_of_ble_eq_true rfl) dX8_pluck_45 ⟨Nat.le_refl _, Nat.le_refl _⟩) hP hD hS hA (fun x_6 u_6 H locs hw_6 hP hD hS => ?_)
      subst x_6
      refine lv_iconst (v := 1) hx hb dX8_pluck_48 (by decide) ?_
      refine lv_isub hx hb dX8_pluck_49 ?_
      obtain ⟨h_7, e_7, hF⟩ := ob1_some hF
      refine gx_callv (gx_runV (As := [.int p1, .int 1, .int (r_6 - 1)]) (rest := []) ⟨hx, hb, hml, hown, hts⟩ (c_X4_setGoose l G cI cJ cZ cB cT q h_6 p1 1 (r_6 - 1) h_7 e_7 H.size) (gG_V m_764 m_11 m_12 m_7 m_9) rfl e_X4_setGoose ⟨Nat.le_of_ble_eq_true rfl, Nat.le_of_ble_eq_true rfl⟩ hK hP hD hE hS hA 1 wC_at1 rfl rfl hl.1 rfl (Nat.le_of_ble_eq_true rfl) dX8_pluck_50 ⟨Nat.le_refl _, Nat.le_refl _⟩) hP hD hS hA (fun u_7 H locs hw_7 hP hD hS => ?_)
      refine lv_aload_n hx hb dX8_pluck_53 rfl (lv_at hl 0 rfl) ?_
      refine va_get (D := G) (ci := 8) (v := .ref (q 1)) (C := RX8) (T := TX8) (N := 8) hx hb hts iX8 hown hK hP 0 wC_at0 rfl 0 (by decide) (hts _ m_738) (fun _ h9 => h9) rfl dX8_pluck_54 ?_
      refine lv_iload_n hx hb dX8_pluck_57 rfl (lv_at hl 1 rfl) ?_
      refine lv_iconst (v := 1) hx hb dX8_pluck_58 (by decide) ?_
      obtain ⟨r_8, h_8, e_8, hF⟩ := ob2_some hF
      refine gx_calli (gx_runV (As := [.int p1, .int 1]) (rest := []) ⟨hx, hb, hml, hown, hts⟩ (c_X4_ofGoose l G cI cJ cZ cB cT q h_7 p1 1 r_8 h_8 e_8 H.size) (gG_V m_754 m_15 m_16 m_7 m_13) rfl e_X4_ofGoose ⟨Nat.le_of_ble_eq_true rfl, Nat.le_of_ble_eq_true rfl⟩ hK hP hD hE hS hA 1 wC_at1 rfl rfl hl.1 rfl (Nat.le_of_ble_eq_true rfl) dX8_pluck_59 ⟨Nat.le_refl _, Nat.le_refl _⟩) hP hD hS hA (fun x_8 u_8 H locs hw_8 hP hD hS => ?_)
      subst x_8
      obtain ⟨rfl, rfl⟩ := ob_pair hF
      exact gw_iret () hx hb hr hlocks hP hD hS rfl dX8_pluck_62
    · have hF := ob_neg c_4 hF
      exact hJ_24 h_3 hF H _ ls hP hD hS (lv_sub hl [] rfl)
def f_X8_name (h : HS) (p1 : Int32) : Option (Int32 × HS) := (ob2 (f_X4_isFree h p1) (fun r_1 h_1 => (if r_1 = 0 then (some (0, h_1)) else (ob1 (f_X4_keepStep h_1) (fun h_3 => (ob1 (f_X4_setGoose h_3 p1 8 1) (fun h_4 => (some (1, h_4)))))))))
set_option maxHeartbeats 4000000 in
set_option maxRecDepth 100000 in
theorem c_X8_name (l : Launch) (G : va_G) (cI cJ cZ cB cT : ClassId) (q : Nat → Nat) (h : HS) (p1 : Int32) (rr : Int32) (hh : HS) (hF : f_X8_name h p1 = some (rr, hh)) : gMi l yX8_name (gws yX8_name cX8_name 2 (some .boolean)) 4 G (gT cI cJ cZ cB cT) [.ref (q 0), .int p1] (wC q cI cJ cZ cB cT h) (fun x (_ : Unit) => x = rr) (fun (_ : Unit) => (wC q cI cJ cZ cB cT hh)) := by
  intro sz
  refine gM_start (y := yX8_name) (av := [.ref (q 0), .int p1]) (ws := (wC q cI cJ cZ cB cT h)) (Qf := fun A => va_Qi (fun x (_ : Unit) => x = rr) (gB G (fun (_ : Unit) => (wC q cI cJ cZ cB cT hh)) A) A) (cc := cX8_name) (maxL := 2) (ret := (some .boolean)) (by decide) (Nat.le_of_ble_eq_true rfl) ?_
  intro p e s m args below meth c A ls H hx hb hr hts hown hin hlocks hml hP hK hD hA hS hl hE
  have hl : lv_has ls 2 [(0, .ref (q 0)), (1, .int p1)] := hl
  unfold f_X8_name at hF
  refine lv_aload_n hx hb dX8_name_0 rfl (lv_at hl 0 rfl) ?_
  refine va_get (D := G) (ci := 8) (v := .ref (q 1)) (C := RX8) (T := TX8) (N := 8) hx hb hts iX8 hown hK hP 0 wC_at0 rfl 0 (by decide) (hts _ m_738) (fun _ h9 => h9) rfl dX8_name_1 ?_
  refine lv_iload_n hx hb dX8_name_4 rfl (lv_at hl 1 rfl) ?_
  obtain ⟨r_1, h_1, e_1, hF⟩ := ob2_some hF
  refine gx_calli (gx_runV (As := [.int p1]) (rest := []) ⟨hx, hb, hml, hown, hts⟩ (c_X4_isFree l G cI cJ cZ cB cT q h p1 r_1 h_1 e_1 H.size) (gG_V m_769 m_34 m_35 m_7 m_32) rfl e_X4_isFree ⟨Nat.le_of_ble_eq_true rfl, Nat.le_of_ble_eq_true rfl⟩ hK hP hD hE hS hA 1 wC_at1 rfl rfl hl.1 rfl (Nat.le_of_ble_eq_true rfl) dX8_name_5 ⟨Nat.le_refl _, Nat.le_refl _⟩) hP hD hS hA (fun x_1 u_1 H locs hw_1 hP hD hS => ?_)
  subst x_1
  refine lv_if_ne (tgt := 13) hx hb dX8_name_8 (by decide) (fun c_2 => ?_) (fun c_2 => ?_)
  · have hF := ob_neg c_2 hF
    refine lv_aload_n hx hb dX8_name_13 rfl (lv_at hl 0 rfl) ?_
    refine va_get (D := G) (ci := 8) (v := .ref (q 1)) (C := RX8) (T := TX8) (N := 8) hx hb hts iX8 hown hK hP 0 wC_at0 rfl 0 (by decide) (hts _ m_738) (fun _ h9 => h9) rfl dX8_name_14 ?_
    obtain ⟨h_3, e_3, hF⟩ := ob1_some hF
    refine gx_callv (gx_runV (As := []) (rest := []) ⟨hx, hb, hml, hown, hts⟩ (c_X4_keepStep l G cI cJ cZ cB cT q h_1  h_3 e_3 H.size) (gG_V m_761 m_762 m_763 m_7 m_760) rfl e_X4_keepStep ⟨Nat.le_of_ble_eq_true rfl, Nat.le_of_ble_eq_true rfl⟩ hK hP hD hE hS hA 1 wC_at1 rfl rfl hl.1 rfl (Nat.le_of_ble_eq_true rfl) dX8_name_17 ⟨Nat.le_refl _, Nat.le_refl _⟩) hP hD hS hA (fun u_3 H locs hw_3 hP hD hS => ?_)
    refine lv_aload_n hx hb dX8_name_20 rfl (lv_at hl 0 rfl) ?_
    refine va_get (D := G) (ci := 8) (v := .ref (q 1)) (C := RX8) (T := TX8) (N := 8) hx hb hts iX8 hown hK hP 0 wC_at0 rfl 0 (by decide) (hts _ m_738) (fun _ h9 => h9) rfl dX8_name_21 ?_
    refine lv_iload_n hx hb dX8_name_24 rfl (lv_at hl 1 rfl) ?_
    refine lv_bipush (v := 8) hx hb dX8_name_25 (by decide) ?_
    refine lv_iconst (v := 1) hx hb dX8_name_27 (by decide) ?_
    obtain ⟨h_4, e_4, hF⟩ := ob1_some hF
    refine gx_callv (gx_runV (As := [.int p1, .int 8, .int 1]) (rest := []) ⟨hx, hb, hml, hown, hts⟩ (c_X4_setGoose l G cI cJ cZ cB cT q h_3 p1 8 1 h_4 e_4 H.size) (gG_V m_764 m_11 m_12 m_7 m_9) rfl e_X4_setGoose ⟨Nat.le_of_ble_eq_true rfl, Nat.le_of_ble_eq_true rfl⟩ hK hP hD hE hS hA 1 wC_at1 rfl rfl hl.1 rfl (Nat.le_of_ble_eq_true rfl) dX8_name_28 ⟨Nat.le_refl _, Nat.le_refl _⟩) hP hD hS hA (fun u_4 H locs hw_4 hP hD hS => ?_)
    refine lv_iconst (v := 1) hx hb dX8_name_31 (by decide) ?_
    obtain ⟨rfl, rfl⟩ := ob_pair hF
    exact gw_zret () hx hb hr hlocks rfl hP hD hS rfl dX8_name_32
  · have hF := ob_pos c_2 hF
    refine lv_iconst (v := 0) hx hb dX8_name_11 (by decide) ?_
    obtain ⟨rfl, rfl⟩ := ob_pair hF
    exact gw_zret () hx hb hr hlocks rfl hP hD hS rfl dX8_name_12
def f_X8_fateAtMarket_78 (h : HS) (y0 : Int32) : Option (Int32 × HS) := (some (y0, h))
def f_X8_fateAtMarket (h : HS) (p1 : Int32) : Option (Int32 × HS) := (ob1 (f_X1_lookAtTraveller h p1) (fun h_1 => (ob2 (f_X4_draw h_1) (fun r_2 h_2 => (ob2 (f_X1_rule h_2 0) (fun r_3 h_3 => (if r_2 < r_3 then (ob2 (f_X4_ofGoose h_3 p1 2) (fun r_5 h_5 => (if r_5 = (-1) then (some (3, h_5)) else (ob2 (f_X4_draw h_5) (fun r_7 h_7 => (ob2 (f_X1_rule h_7 1) (fun r_8 h_8 => (if r_8 ≤ r_7 then (f_X8_fateAtMarket_78 h_8 3) else (f_X8_fateAtMarket_78 h_8 4))))))))) else (some (2, h_3)))))))))
theorem e_X4_draw : yX4_draw.cls = RX4 ∧ yX4_draw.cls ≠ "java/lang/invoke/MethodHandle" ∧ yX4_draw.cls ≠ "java/lang/invoke/VarHandle" ∧ (parseMethodDescriptor yX4_draw.desc).map (fun d => d.parameters.length) = some 0 := by decide +kernel
set_option maxHeartbeats 4000000 in
set_option maxRecDepth 100000 in
theorem c_X8_fateAtMarket (l : Launch) (G : va_G) (cI cJ cZ cB cT : ClassId) (q : Nat → Nat) (h : HS) (p1 : Int32) (rr : Int32) (hh : HS) (hF : f_X8_fateAtMarket h p1 = some (rr, hh)) : gMi l yX8_fateAtMarket (gws yX8_fateAtMarket cX8_fateAtMarket 2 (some .int)) 4 G (gT cI cJ cZ cB cT) [.ref (q 0), .int p1] (wC q cI cJ cZ cB cT h) (fun x (_ : Unit) => x = rr) (fun (_ : Unit) => (wC q cI cJ cZ cB cT hh)) := by
  intro sz
  refine gM_start (y := yX8_fateAtMarket) (av := [.ref (q 0), .int p1]) (ws := (wC q cI cJ cZ cB cT h)) (Qf := fun A => va_Qi (fun x (_ : Unit) => x = rr) (gB G (fun (_ : Unit) => (wC q cI cJ cZ cB cT hh)) A) A) (cc := cX8_fateAtMarket) (maxL := 2) (ret := (some .int)) (by decide) (Nat.le_of_ble_eq_true rfl) ?_
  intro p e s m args below meth c A ls H hx hb hr hts hown hin hlocks hml hP hK hD hA hS hl hE
  have hl : lv_has ls 2 [(0, .ref (q 0)), (1, .int p1)] := hl
  have hJ_78 : ∀ (h : HS) (y0 : Int32), f_X8_fateAtMarket_78 h y0 = some (rr, hh) → ∀ (H : Heap) (locs : List Loc) (ls : Array Slot), va_P G vwCl (wC q cI cJ cZ cB cT h) H → va_D A (wC q cI cJ cZ cB cT h) → va_S A s.heap H locs → lv_has ls 2 [] → W p l e (gRm 4) s m args below meth c H locs 0 0 (MQ below (va_Qi (fun x (_ : Unit) => x = rr) (gB G (fun (_ : Unit) => (wC q cI cJ cZ cB cT hh)) A) A) args s 0 0 A) (F0 m 78 ls [.int y0]) := by
    intro h y0 hF H locs ls hP hD hS hl
    unfold f_X8_fateAtMarket_78 at hF
    obtain ⟨rfl, rfl⟩ := ob_pair hF
    exact gw_iret () hx hb hr hlocks hP hD hS rfl dX8_fateAtMarket_78
  unfold f_X8_fateAtMarket at hF
  refine lv_aload_n hx hb dX8_fateAtMarket_0 rfl (lv_at hl 0 rfl) ?_
  refine va_get (D := G) (ci := 8) (v := .ref (q 16)) (C := RX8) (T := TX8) (N := 8) hx hb hts iX8 hown hK hP 0 wC_at0 rfl 5 (by decide) (hts _ m_755) (fun _ h9 => h9) rfl dX8_fateAtMarket_1 ?_
  refine lv_aload_n hx hb dX8_fateAtMarket_4 rfl (lv_at hl 0 rfl) ?_
  refine va_get (D := G) (ci := 8) (v := .ref (q 1)) (C := RX8) (T := TX8) (N := 8) hx hb hts iX8 hown hK hP 0 wC_at0 rfl 0 (by decide) (hts _ m_738) (fun _ h9 => h9) rfl dX8_fateAtMarket_5 ?_
  refine lv_iload_n hx hb dX8_fateAtMarket_8 rfl (lv_at hl 1 rfl) ?_
  obtain ⟨h_1, e_1, hF⟩ := ob1_some hF
  refine gx_callv (gx_runV (As := [.ref (q 1), .int p1]) (rest := []) ⟨hx, hb, hml, hown, hts⟩ (c_X1_lookAtTraveller l G cI cJ cZ cB cT q h p1 h_1 e_1 H.size) (gG_V m_772 m_603 m_604 m_436 m_601) rfl e_X1_lookAtTraveller ⟨Nat.le_of_ble_eq_true rfl, Nat.le_of_ble_eq_true rfl⟩ hK hP hD hE hS hA 16 wC_at16 rfl rfl hl.1 rfl (Nat.le_of_ble_eq_true rfl) dX8_fateAtMarket_9 ⟨Nat.le_refl _, Nat.le_refl _⟩) hP hD hS hA (fun u_1 H locs hw_1 hP hD hS => ?_)
  refine lv_aload_n hx hb dX8_fateAtMarket_12 rfl (lv_at hl 0 rfl) ?_
  refine va_get (D := G) (ci := 8) (v := .ref (q 1)) (C := RX8) (T := TX8) (N := 8) hx hb hts iX8 hown hK hP 0 wC_at0 rfl 0 (by decide) (hts _ m_738) (fun _ h9 => h9) rfl dX8_fateAtMarket_13 ?_
  obtain ⟨r_2, h_2, e_2, hF⟩ := ob2_some hF
  refine gx_calli (gx_runV (As := []) (rest := []) ⟨hx, hb, hml, hown, hts⟩ (c_X4_draw l G cI cJ cZ cB cT q h_1  r_2 h_2 e_2 H.size) (gG_V m_774 m_775 m_776 m_7 m_773) rfl e_X4_draw ⟨Nat.le_of_ble_eq_true rfl, Nat.le_of_ble_eq_true rfl⟩ hK hP hD hE hS hA 1 wC_at1 rfl rfl hl.1 rfl (Nat.le_of_ble_eq_true rfl) dX8_fateAtMarket_16 ⟨Nat.le_refl _, Nat.le_refl _⟩) hP hD hS hA (fun x_2 u_2 H locs hw_2 hP hD hS => ?_)
  subst x_2
  refine lv_aload_n hx hb dX8_fateAtMarket_19 rfl (lv_at hl 0 rfl) ?_
  refine va_get (D := G) (ci := 8) (v := .ref (q 16)) (C := RX8) (T := TX8) (N := 8) hx hb hts iX8 hown hK hP 0 wC_at0 rfl 5 (by decide) (hts _ m_755) (fun _ h9 => h9) rfl dX8_fateAtMarket_20 ?_
  refine lv_aload_n hx hb dX8_fateAtMarket_23 rfl (lv_at hl 0 rfl) ?_
  refine va_get (D := G) (ci := 8) (v := .ref (q 1)) (C := RX8) (T := TX8) (N := 8) hx hb hts iX8 hown hK hP 0 wC_at0 rfl 0 (by decide) (hts _ m_738) (fun _ h9 => h9) rfl dX8_fateAtMarket_24 ?_
  refine lv_iconst (v := 0) hx hb dX8_fateAtMarket_27 (by decide) ?_
  obtain ⟨r_3, h_3, e_3, hF⟩ := ob2_some hF
  refine gx_calli (gx_runV (As := [.ref (q 1), .int 0]) (rest := [.int r_2]) ⟨hx, hb, hml, hown, hts⟩ (c_X1_rule l G cI cJ cZ cB cT q h_2 0 r_3 h_3 e_3 H.size) (gG_V m_777 m_592 m_593 m_436 m_590) rfl e_X1_rule ⟨Nat.le_of_ble_eq_true rfl, Nat.le_of_ble_eq_true rfl⟩ hK hP hD hE hS hA 16 wC_at16 rfl rfl hl.1 rfl (Nat.le_of_ble_eq_true rfl) dX8_fateAtMarket_28 ⟨Nat.le_refl _, Nat.le_refl _⟩) hP hD hS hA (fun x_3 u_3 H locs hw_3 hP hD hS => ?_)
  subst x_3
  refine lv_icmp_lt (tgt := 36) hx hb dX8_fateAtMarket_31 (by decide) (fun c_4 => ?_) (fun c_4 => ?_)
  · have hF := ob_pos c_4 hF
    refine lv_aload_n hx hb dX8_fateAtMarket_36 rfl (lv_at hl 0 rfl) ?_
    refine va_get (D := G) (ci := 8) (v := .ref (q 1)) (C := RX8) (T := TX8) (N := 8) hx hb hts iX8 hown hK hP 0 wC_at0 rfl 0 (by decide) (hts _ m_738) (fun _ h9 => h9) rfl dX8_fateAtMarket_37 ?_
    refine lv_iload_n hx hb dX8_fateAtMarket_40 rfl (lv_at hl 1 rfl) ?_
    refine lv_iconst (v := 2) hx hb dX8_fateAtMarket_41 (by decide) ?_
    obtain ⟨r_5, h_5, e_5, hF⟩ := ob2_some hF
    refine gx_calli (gx_runV (As := [.int p1, .int 2]) (rest := []) ⟨hx, hb, hml, hown, hts⟩ (c_X4_ofGoose l G cI cJ cZ cB cT q h_3 p1 2 r_5 h_5 e_5 H.size) (gG_V m_754 m_15 m_16 m_7 m_13) rfl e_X4_ofGoose ⟨Nat.le_of_ble_eq_true rfl, Nat.le_of_ble_eq_true rfl⟩ hK hP hD hE hS hA 1 wC_at1 rfl rfl hl.1 rfl (Nat.le_of_ble_eq_true rfl) dX8_fateAtMarket_42 ⟨Nat.le_refl _, Nat.le_refl _⟩) hP hD hS hA (fun x_5 u_5 H locs hw_5 hP hD hS => ?_)
    subst x_5
    refine lv_iconst (v := (-1)) hx hb dX8_fateAtMarket_45 (by decide) ?_
    refine lv_icmp_ne (tgt := 51) hx hb dX8_fateAtMarket_46 (by decide) (fun c_6 => ?_) (fun c_6 => ?_)
    · have hF := ob_neg c_6 hF
      refine lv_aload_n hx hb dX8_fateAtMarket_51 rfl (lv_at hl 0 rfl) ?_
      refine va_get (D := G) (ci := 8) (v := .ref (q 1)) (C := RX8) (T := TX8) (N := 8) hx hb hts iX8 hown hK hP 0 wC_at0 rfl 0 (by decide) (hts _ m_738) (fun _ h9 => h9) rfl dX8_fateAtMarket_52 ?_
      obtain ⟨r_7, h_7, e_7, hF⟩ := ob2_some hF
      refine gx_calli (gx_runV (As := []) (rest := []) ⟨hx, hb, hml, hown, hts⟩ (c_X4_draw l G cI cJ cZ cB cT q h_5  r_7 h_7 e_7 H.size) (gG_V m_774 m_775 m_776 m_7 m_773) rfl e_X4_draw ⟨Nat.le_of_ble_eq_true rfl, Nat.le_of_ble_eq_true rfl⟩ hK hP hD hE hS hA 1 wC_at1 rfl rfl hl.1 rfl (Nat.le_of_ble_eq_true rfl) dX8_fateAtMarket_55 ⟨Nat.le_refl _, Nat.le_refl _⟩) hP hD hS hA (fun x_7 u_7 H locs hw_7 hP hD hS => ?_)
      subst x_7
      refine lv_aload_n hx hb dX8_fateAtMarket_58 rfl (lv_at hl 0 rfl) ?_
      refine va_get (D := G) (ci := 8) (v := .ref (q 16)) (C := RX8) (T := TX8) (N := 8) hx hb hts iX8 hown hK hP 0 wC_at0 rfl 5 (by decide) (hts _ m_755) (fun _ h9 => h9) rfl dX8_fateAtMarket_59 ?_
      refine lv_aload_n hx hb dX8_fateAtMarket_62 rfl (lv_at hl 0 rfl) ?_
      refine va_get (D := G) (ci := 8) (v := .ref (q 1)) (C := RX8) (T := TX8) (N := 8) hx hb hts iX8 hown hK hP 0 wC_at0 rfl 0 (by decide) (hts _ m_738) (fun _ h9 => h9) rfl dX8_fateAtMarket_63 ?_
      refine lv_iconst (v := 1) hx hb dX8_fateAtMarket_66 (by decide) ?_
      obtain ⟨r_8, h_8, e_8, hF⟩ := ob2_some hF
      refine gx_calli (gx_runV (As := [.ref (q 1), .int 1]) (rest := [.int r_7]) ⟨hx, hb, hml, hown, hts⟩ (c_X1_rule l G cI cJ cZ cB cT q h_7 1 r_8 h_8 e_8 H.size) (gG_V m_777 m_592 m_593 m_436 m_590) rfl e_X1_rule ⟨Nat.le_of_ble_eq_true rfl, Nat.le_of_ble_eq_true rfl⟩ hK hP hD hE hS hA 16 wC_at16 rfl rfl hl.1 rfl (Nat.le_of_ble_eq_true rfl) dX8_fateAtMarket_67 ⟨Nat.le_refl _, Nat.le_refl _⟩) hP hD hS hA (fun x_8 u_8 H locs hw_8 hP hD hS => ?_)
      subst x_8
      refine lv_icmp_ge (tgt := 77) hx hb dX8_fateAtMarket_70 (by decide) (fun c_9 => ?_) (fun c_9 => ?_)
      · have hF := ob_pos c_9 hF
        refine lv_iconst (v := 3) hx hb dX8_fateAtMarket_77 (by decide) ?_
        exact hJ_78 h_8 3 hF H _ ls hP hD hS (lv_sub hl [] rfl)
      · have hF := ob_neg c_9 hF
        refine lv_iconst (v := 4) hx hb dX8_fateAtMarket_73 (by decide) ?_
        refine lv_goto (tgt := 78) hx hb dX8_fateAtMarket_74 (by decide) ?_
        exact hJ_78 h_8 4 hF H _ ls hP hD hS (lv_sub hl [] rfl)
    · have hF := ob_pos c_6 hF
      refine lv_iconst (v := 3) hx hb dX8_fateAtMarket_49 (by decide) ?_
      obtain ⟨rfl, rfl⟩ := ob_pair hF
      exact gw_iret () hx hb hr hlocks hP hD hS rfl dX8_fateAtMarket_50
  · have hF := ob_neg c_4 hF
    refine lv_iconst (v := 2) hx hb dX8_fateAtMarket_34 (by decide) ?_
    obtain ⟨rfl, rfl⟩ := ob_pair hF
    exact gw_iret () hx hb hr hlocks hP hD hS rfl dX8_fateAtMarket_35
def f_X8_passOneDay_72 (k15 : HS → Int32 → Option HS) (h : HS) (x1 : Int32) : Option HS := (k15 h (x1 + 1))
def f_X8_passOneDay_15 : Nat → HS → Int32 → Option HS
  | 0, _, _ => none
  | n + 1, h, x1 => (if (eI h 1 3) ≤ x1 then (ob1 (f_X4_eatDaily h) (fun h_2 => (some h_2))) else (ob2 (f_X4_ofGoose h x1 4) (fun r_3 h_3 => (if r_3 = 1 then (ob2 (f_X4_ofGoose h_3 x1 6) (fun r_5 h_5 => (if r_5 = (eI h_5 1 7) then (ob2 (f_X8_fateAtMarket h_5 x1) (fun r_7 h_7 => (ob1 (f_X4_settle h_7 x1 r_7) (fun h_8 => (f_X8_passOneDay_72 (f_X8_passOneDay_15 n) h_8 x1))))) else (f_X8_passOneDay_72 (f_X8_passOneDay_15 n) h_5 x1)))) else (f_X8_passOneDay_72 (f_X8_passOneDay_15 n) h_3 x1)))))
theorem f_X8_passOneDay_15_s (n : Nat) (h : HS) (x1 : Int32) : f_X8_passOneDay_15 (n + 1) h x1 = (if (eI h 1 3) ≤ x1 then (ob1 (f_X4_eatDaily h) (fun h_2 => (some h_2))) else (ob2 (f_X4_ofGoose h x1 4) (fun r_3 h_3 => (if r_3 = 1 then (ob2 (f_X4_ofGoose h_3 x1 6) (fun r_5 h_5 => (if r_5 = (eI h_5 1 7) then (ob2 (f_X8_fateAtMarket h_5 x1) (fun r_7 h_7 => (ob1 (f_X4_settle h_7 x1 r_7) (fun h_8 => (f_X8_passOneDay_72 (f_X8_passOneDay_15 n) h_8 x1))))) else (f_X8_passOneDay_72 (f_X8_passOneDay_15 n) h_5 x1)))) else (f_X8_passOneDay_72 (f_X8_passOneDay_15 n) h_3 x1))))) := rfl
def f_X8_passOneDay (h : HS) : Option HS := (f_X8_passOneDay_15 8589934592 (sI h 1 7 ((eI h 1 7) + 1)) 0)
theorem e_X4_eatDaily : yX4_eatDaily.cls = RX4 ∧ yX4_eatDaily.cls ≠ "java/lang/invoke/MethodHandle" ∧ yX4_eatDaily.cls ≠ "java/lang/invoke/VarHandle" ∧ (parseMethodDescriptor yX4_eatDaily.desc).map (fun d => d.parameters.length) = some 0 := by decide +kernel
theorem e_X8_fateAtMarket : yX8_fateAtMarket.cls = RX8 ∧ yX8_fateAtMarket.cls ≠ "java/lang/invoke/MethodHandle" ∧ yX8_fateAtMarket.cls ≠ "java/lang/invoke/VarHandle" ∧ (parseMethodDescriptor yX8_fateAtMarket.desc).map (fun d => d.parameters.length) = some 1 := by decide +kernel
set_option maxHeartbeats 4000000 in
set_option maxRecDepth 100000 in
theorem c_X8_passOneDay (l : Launch) (G : va_G) (cI cJ cZ cB cT : ClassId) (q : Nat → Nat) (h : HS)  (hh : HS) (hF : f_X8_passOneDay h = some hh) : gMv l yX8_passOneDay (gws yX8_passOneDay cX8_passOneDay 2 none) 5 G (gT cI cJ cZ cB cT) [.ref (q 0)] (wC q cI cJ cZ cB cT h) (fun (_ : Unit) => True) (fun (_ : Unit) => (wC q cI cJ cZ cB cT hh)) := by
  intro sz
  refine gM_start (y := yX8_passOneDay) (av := [.ref (q 0)]) (ws := (wC q cI cJ cZ cB cT h)) (Qf := fun A => va_Qv (fun (_ : Unit) => True) (gB G (fun (_ : Unit) => (wC q cI cJ cZ cB cT hh)) A) A) (cc := cX8_passOneDay) (maxL := 2) (ret := none) (by decide) (Nat.le_of_ble_eq_true rfl) ?_
  intro p e s m args below meth c A ls H hx hb hr hts hown hin hlocks hml hP hK hD hA hS hl hE
  have hl : lv_has ls 2 [(0, .ref (q 0))] := hl
  have hJ_15 : ∀ (n_15 : Nat) (h : HS) (x1 : Int32), f_X8_passOneDay_15 n_15 h x1 = some hh → ∀ (H : Heap) (locs : List Loc) (ls : Array Slot), va_P G vwCl (wC q cI cJ cZ cB cT h) H → va_D A (wC q cI cJ cZ cB cT h) → va_S A s.heap H locs → lv_has ls 2 [(0, .ref (q 0)), (1, .int x1)] → W p l e (gRm 5) s m args below meth c H locs 0 0 (MQ below (va_Qv (fun (_ : Unit) => True) (gB G (fun (_ : Unit) => (wC q cI cJ cZ cB cT hh)) A) A) args s 0 0 A) (F0 m 15 ls []) := by
    intro n_15
    induction n_15 with
    | zero =>
      intro h x1 hF
      exact absurd hF (by simp [f_X8_passOneDay_15])
    | succ n_15 ih_15 =>
      have hJ_72 : ∀ (h : HS) (x1 : Int32), f_X8_passOneDay_72 (f_X8_passOneDay_15 n_15) h x1 = some hh → ∀ (H : Heap) (locs : List Loc) (ls : Array Slot), va_P G vwCl (wC q cI cJ cZ cB cT h) H → va_D A (wC q cI cJ cZ cB cT h) → va_S A s.heap H locs → lv_has ls 2 [(0, .ref (q 0)), (1, .int x1)] → W p l e (gRm 5) s m args below meth c H locs 0 0 (MQ below (va_Qv (fun (_ : Unit) => True) (gB G (fun (_ : Unit) => (wC q cI cJ cZ cB cT hh)) A) A) args s 0 0 A) (F0 m 72 ls []) := by
        intro h x1 hF H locs ls hP hD hS hl
        unfold f_X8_passOneDay_72 at hF
        refine lv_iinc (v := (x1 + 1)) (lv' := [(1, .int (x1 + 1)), (0, .ref (q 0))]) hx hb dX8_passOneDay_72 hl (k := 1) rfl rfl (by decide) rfl (fun ls hl => ?_)
        refine lv_goto (tgt := 15) hx hb dX8_passOneDay_75 (by decide) ?_
        exact ih_15 h (x1 + 1) hF H _ ls hP hD hS (lv_sub hl [1, 0] rfl)
      intro h x1 hF H locs ls hP hD hS hl
      rw [f_X8_passOneDay_15_s] at hF
      refine lv_iload_n hx hb dX8_passOneDay_15 rfl (lv_at hl 1 rfl) ?_
      refine lv_aload_n hx hb dX8_passOneDay_16 rfl (lv_at hl 0 rfl) ?_
      refine va_get (D := G) (ci := 8) (v := .ref (q 1)) (C := RX8) (T := TX8) (N := 8) hx hb hts iX8 hown hK hP 0 wC_at0 rfl 0 (by decide) (hts _ m_738) (fun _ h9 => h9) rfl dX8_passOneDay_17 ?_
      refine va_get (D := G) (ci := 4) (v := .int (eI h 1 3)) (C := RX4) (T := TX4) (N := 13) hx hb hts iX4 hown hK hP 1 wC_at1 rfl 3 (by decide) (hts _ m_778) (fun _ h9 => h9) rfl dX8_passOneDay_20 ?_
      refine lv_icmp_ge (tgt := 78) hx hb dX8_passOneDay_23 (by decide) (fun c_1 => ?_) (fun c_1 => ?_)
      · have hF := ob_pos c_1 hF
        refine lv_aload_n hx hb dX8_passOneDay_78 rfl (lv_at hl 0 rfl) ?_
        refine va_get (D := G) (ci := 8) (v := .ref (q 1)) (C := RX8) (T := TX8) (N := 8) hx hb hts iX8 hown hK hP 0 wC_at0 rfl 0 (by decide) (hts _ m_738) (fun _ h9 => h9) rfl dX8_passOneDay_79 ?_
        obtain ⟨h_2, e_2, hF⟩ := ob1_some hF
        refine gx_callv (gx_runV (As := []) (rest := []) ⟨hx, hb, hml, hown, hts⟩ (c_X4_eatDaily l G cI cJ cZ cB cT q h  h_2 e_2 H.size) (gG_V m_780 m_781 m_782 m_7 m_779) rfl e_X4_eatDaily ⟨Nat.le_of_ble_eq_true rfl, Nat.le_of_ble_eq_true rfl⟩ hK hP hD hE hS hA 1 wC_at1 rfl rfl hl.1 rfl (Nat.le_of_ble_eq_true rfl) dX8_passOneDay_82 ⟨Nat.le_refl _, Nat.le_refl _⟩) hP hD hS hA (fun u_2 H locs hw_2 hP hD hS => ?_)
        obtain rfl := ob_one hF
        exact gw_vret () hx hb hr hlocks hP hD hS trivial dX8_passOneDay_85
      · have hF := ob_neg c_1 hF
        refine lv_aload_n hx hb dX8_passOneDay_26 rfl (lv_at hl 0 rfl) ?_
        refine va_get (D := G) (ci := 8) (v := .ref (q 1)) (C := RX8) (T := TX8) (N := 8) hx hb hts iX8 hown hK hP 0 wC_at0 rfl 0 (by decide) (hts _ m_738) (fun _ h9 => h9) rfl dX8_passOneDay_27 ?_
        refine lv_iload_n hx hb dX8_passOneDay_30 rfl (lv_at hl 1 rfl) ?_
        refine lv_iconst (v := 4) hx hb dX8_passOneDay_31 (by decide) ?_
        obtain ⟨r_3, h_3, e_3, hF⟩ := ob2_some hF
        refine gx_calli (gx_runV (As := [.int x1, .int 4]) (rest := []) ⟨hx, hb, hml, hown, hts⟩ (c_X4_ofGoose l G cI cJ cZ cB cT q h x1 4 r_3 h_3 e_3 H.size) (gG_V m_754 m_15 m_16 m_7 m_13) rfl e_X4_ofGoose ⟨Nat.le_of_ble_eq_true rfl, Nat.le_of_ble_eq_true rfl⟩ hK hP hD hE hS hA 1 wC_at1 rfl rfl hl.1 rfl (Nat.le_of_ble_eq_true rfl) dX8_passOneDay_32 ⟨Nat.le_refl _, Nat.le_refl _⟩) hP hD hS hA (fun x_3 u_3 H locs hw_3 hP hD hS => ?_)
        subst x_3
        refine lv_iconst (v := 1) hx hb dX8_passOneDay_35 (by decide) ?_
        refine lv_icmp_ne (tgt := 72) hx hb dX8_passOneDay_36 (by decide) (fun c_4 => ?_) (fun c_4 => ?_)
        · have hF := ob_neg c_4 hF
          exact hJ_72 h_3 x1 hF H _ ls hP hD hS (lv_sub hl [0, 1] rfl)
        · have hF := ob_pos c_4 hF
          refine lv_aload_n hx hb dX8_passOneDay_39 rfl (lv_at hl 0 rfl) ?_
          refine va_get (D := G) (ci := 8) (v := .ref (q 1)) (C := RX8) (T := TX8) (N := 8) hx hb hts iX8 hown hK hP 0 wC_at0 rfl 0 (by decide) (hts _ m_738) (fun _ h9 => h9) rfl dX8_passOneDay_40 ?_
          refine lv_iload_n hx hb dX8_passOneDay_43 rfl (lv_at hl 1 rfl) ?_
          refine lv_bipush (v := 6) hx hb dX8_passOneDay_44 (by decide) ?_
          obtain ⟨r_5, h_5, e_5, hF⟩ := ob2_some hF
          refine gx_calli (gx_runV (As := [.int x1, .int 6]) (rest := []) ⟨hx, hb, hml, hown, hts⟩ (c_X4_ofGoose l G cI cJ cZ cB cT q h_3 x1 6 r_5 h_5 e_5 H.size) (gG_V m_754 m_15 m_16 m_7 m_13) rfl e_X4_ofGoose ⟨Nat.le_of_ble_eq_true rfl, Nat.le_of_ble_eq_true rfl⟩ hK hP hD hE hS hA 1 wC_at1 rfl rfl hl.1 rfl (Nat.le_of_ble_eq_true rfl) dX8_passOneDay_46 ⟨Nat.le_refl _, Nat.le_refl _⟩) hP hD hS hA (fun x_5 u_5 H locs hw_5 hP hD hS => ?_)
          subst x_5
          refine lv_aload_n hx hb dX8_passOneDay_49 rfl (lv_at hl 0 rfl) ?_
          refine va_get (D := G) (ci := 8) (v := .ref (q 1)) (C := RX8) (T := TX8) (N := 8) hx hb hts iX8 hown hK hP 0 wC_at0 rfl 0 (by decide) (hts _ m_738) (fun _ h9 => h9) rfl dX8_passOneDay_50 ?_
          refine va_get (D := G) (ci := 4) (v := .int (eI h_5 1 7)) (C := RX4) (T := TX4) (N := 13) hx hb hts iX4 hown hK hP 1 wC_at1 rfl 7 (by decide) (hts _ m_770) (fun _ h9 => h9) rfl dX8_passOneDay_53 ?_
          refine lv_icmp_ne (tgt := 72) hx hb dX8_passOneDay_56 (by decide) (fun c_6 => ?_) (fun c_6 => ?_)
          · have hF := ob_neg c_6 hF
            exact hJ_72 h_5 x1 hF H _ ls hP hD hS (lv_sub hl [0, 1] rfl)
          · have hF := ob_pos c_6 hF
            refine lv_aload_n hx hb dX8_passOneDay_59 rfl (lv_at hl 0 rfl) ?_
            refine va_get (D := G) (ci := 8) (v := .ref (q 1)) (C := RX8) (T := TX8) (N := 8) hx hb hts iX8 hown hK hP 0 wC_at0 rfl 0 (by decide) (hts _ m_738) (fun _ h9 => h9) rfl dX8_passOneDay_60 ?_
            refine lv_iload_n hx hb dX8_passOneDay_63 rfl (lv_at hl 1 rfl) ?_
            refine lv_aload_n hx hb dX8_passOneDay_64 rfl (lv_at hl 0 rfl) ?_
            refine lv_iload_n hx hb dX8_passOneDay_65 rfl (lv_at hl 1 rfl) ?_
            obtain ⟨r_7, h_7, e_7, hF⟩ := ob2_some hF
            refine gx_calli (gx_runV (As := [.int x1]) (rest := [.int x1, .ref (q 1)]) ⟨hx, hb, hml, hown, hts⟩ (c_X8_fateAtMarket l G cI cJ cZ cB cT q h_5 x1 r_7 h_7 e_7 H.size) (gG_V m_784 m_785 m_786 m_60 m_783) rfl e_X8_fateAtMarket ⟨Nat.le_of_ble_eq_true rfl, Nat.le_of_ble_eq_true rfl⟩ hK hP hD hE hS hA 0 wC_at0 rfl rfl hl.1 rfl (Nat.le_of_ble_eq_true rfl) dX8_passOneDay_66 ⟨Nat.le_refl _, Nat.le_refl _⟩) hP hD hS hA (fun x_7 u_7 H locs hw_7 hP hD hS => ?_)
            subst x_7
            obtain ⟨h_8, e_8, hF⟩ := ob1_some hF
            refine gx_callv (gx_runV (As := [.int x1, .int r_7]) (rest := []) ⟨hx, hb, hml, hown, hts⟩ (c_X4_settle l G cI cJ cZ cB cT q h_7 x1 r_7 h_8 e_8 H.size) (gG_V m_787 m_38 m_39 m_7 m_36) rfl e_X4_settle ⟨Nat.le_of_ble_eq_true rfl, Nat.le_of_ble_eq_true rfl⟩ hK hP hD hE hS hA 1 wC_at1 rfl rfl hl.1 rfl (Nat.le_of_ble_eq_true rfl) dX8_passOneDay_69 ⟨Nat.le_refl _, Nat.le_refl _⟩) hP hD hS hA (fun u_8 H locs hw_8 hP hD hS => ?_)
            exact hJ_72 h_8 x1 hF H _ ls hP hD hS (lv_sub hl [0, 1] rfl)
  unfold f_X8_passOneDay at hF
  refine lv_aload_n hx hb dX8_passOneDay_0 rfl (lv_at hl 0 rfl) ?_
  refine va_get (D := G) (ci := 8) (v := .ref (q 1)) (C := RX8) (T := TX8) (N := 8) hx hb hts iX8 hown hK hP 0 wC_at0 rfl 0 (by decide) (hts _ m_738) (fun _ h9 => h9) rfl dX8_passOneDay_1 ?_
  refine lv_dup hx hb dX8_passOneDay_4 rfl ?_
  refine va_get (D := G) (ci := 4) (v := .int (eI h 1 7)) (C := RX4) (T := TX4) (N := 13) hx hb hts iX4 hown hK hP 1 wC_at1 rfl 7 (by decide) (hts _ m_770) (fun _ h9 => h9) rfl dX8_passOneDay_5 ?_
  refine lv_iconst (v := 1) hx hb dX8_passOneDay_8 (by decide) ?_
  refine lv_iadd hx hb dX8_passOneDay_9 ?_
  refine va_put (D := G) (ci := 4) (v := .int ((eI h 1 7) + 1)) (ty := .int) (C := RX4) (T := TX4) (N := 13) hx hb hts iX4 tyX4 tyX4_ok nmX4 hown hK hP hD hS 1 wC_at1 rfl 7 (by decide) (hts _ m_770) (fun _ h9 => h9) rfl (tyX4_ok 7 (by decide)) rfl rfl (Nat.le_of_ble_eq_true rfl) dX8_passOneDay_10 (fun H locs hP hD hS => ?_)
  rw [wC_sI1_7] at hP hD
  refine lv_iconst (v := 0) hx hb dX8_passOneDay_13 (by decide) ?_
  refine lv_istore_n (lv' := [(1, .int 0), (0, .ref (q 0))]) hx hb dX8_passOneDay_14 rfl hl (by decide) rfl (fun ls hl => ?_)
  exact hJ_15 8589934592 (sI h 1 7 ((eI h 1 7) + 1)) 0 hF H _ ls hP hD hS (lv_sub hl [1, 0] rfl)
def f_X8_pass_26 (h : HS) : Option (Int32 × HS) := (some ((-1), h))
def f_X8_pass_37 : Nat → HS → Int32 → Int32 → Option (Int32 × HS)
  | 0, _, _, _ => none
  | n + 1, h, x1, x2 => (if x1 ≤ x2 then (some ((eI h 1 7), h)) else (ob1 (f_X8_passOneDay h) (fun h_6 => ((f_X8_pass_37 n) h_6 x1 (x2 + 1)))))
theorem f_X8_pass_37_s (n : Nat) (h : HS) (x1 : Int32) (x2 : Int32) : f_X8_pass_37 (n + 1) h x1 x2 = (if x1 ≤ x2 then (some ((eI h 1 7), h)) else (ob1 (f_X8_passOneDay h) (fun h_6 => ((f_X8_pass_37 n) h_6 x1 (x2 + 1))))) := rfl
def f_X8_pass (h : HS) (p1 : Int32) : Option (Int32 × HS) := (if p1 < 1 then (f_X8_pass_26 h) else (if 99 < p1 then (f_X8_pass_26 h) else (if ((eI h 1 7) + p1) ≤ 999 then (ob1 (f_X4_keepStep h) (fun h_4 => (f_X8_pass_37 8589934592 h_4 p1 0))) else (f_X8_pass_26 h))))
theorem e_X8_passOneDay : yX8_passOneDay.cls = RX8 ∧ yX8_passOneDay.cls ≠ "java/lang/invoke/MethodHandle" ∧ yX8_passOneDay.cls ≠ "java/lang/invoke/VarHandle" ∧ (parseMethodDescriptor yX8_passOneDay.desc).map (fun d => d.parameters.length) = some 0 := by decide +kernel
set_option maxHeartbeats 4000000 in
set_option maxRecDepth 100000 in
theorem c_X8_pass (l : Launch) (G : va_G) (cI cJ cZ cB cT : ClassId) (q : Nat → Nat) (h : HS) (p1 : Int32) (rr : Int32) (hh : HS) (hF : f_X8_pass h p1 = some (rr, hh)) : gMi l yX8_pass (gws yX8_pass cX8_pass 3 (some .int)) 6 G (gT cI cJ cZ cB cT) [.ref (q 0), .int p1] (wC q cI cJ cZ cB cT h) (fun x (_ : Unit) => x = rr) (fun (_ : Unit) => (wC q cI cJ cZ cB cT hh)) := by
  intro sz
  refine gM_start (y := yX8_pass) (av := [.ref (q 0), .int p1]) (ws := (wC q cI cJ cZ cB cT h)) (Qf := fun A => va_Qi (fun x (_ : Unit) => x = rr) (gB G (fun (_ : Unit) => (wC q cI cJ cZ cB cT hh)) A) A) (cc := cX8_pass) (maxL := 3) (ret := (some .int)) (by decide) (Nat.le_of_ble_eq_true rfl) ?_
  intro p e s m args below meth c A ls H hx hb hr hts hown hin hlocks hml hP hK hD hA hS hl hE
  have hl : lv_has ls 3 [(0, .ref (q 0)), (1, .int p1)] := hl
  have hJ_26 : ∀ (h : HS), f_X8_pass_26 h = some (rr, hh) → ∀ (H : Heap) (locs : List Loc) (ls : Array Slot), va_P G vwCl (wC q cI cJ cZ cB cT h) H → va_D A (wC q cI cJ cZ cB cT h) → va_S A s.heap H locs → lv_has ls 3 [] → W p l e (gRm 6) s m args below meth c H locs 0 0 (MQ below (va_Qi (fun x (_ : Unit) => x = rr) (gB G (fun (_ : Unit) => (wC q cI cJ cZ cB cT hh)) A) A) args s 0 0 A) (F0 m 26 ls []) := by
    intro h hF H locs ls hP hD hS hl
    unfold f_X8_pass_26 at hF
    refine lv_iconst (v := (-1)) hx hb dX8_pass_26 (by decide) ?_
    obtain ⟨rfl, rfl⟩ := ob_pair hF
    exact gw_iret () hx hb hr hlocks hP hD hS rfl dX8_pass_27
  have hJ_37 : ∀ (n_37 : Nat) (h : HS) (x1 : Int32) (x2 : Int32), f_X8_pass_37 n_37 h x1 x2 = some (rr, hh) → ∀ (H : Heap) (locs : List Loc) (ls : Array Slot), va_P G vwCl (wC q cI cJ cZ cB cT h) H → va_D A (wC q cI cJ cZ cB cT h) → va_S A s.heap H locs → lv_has ls 3 [(0, .ref (q 0)), (1, .int x1), (2, .int x2)] → W p l e (gRm 6) s m args below meth c H locs 0 0 (MQ below (va_Qi (fun x (_ : Unit) => x = rr) (gB G (fun (_ : Unit) => (wC q cI cJ cZ cB cT hh)) A) A) args s 0 0 A) (F0 m 37 ls []) := by
    intro n_37
    induction n_37 with
    | zero =>
      intro h x1 x2 hF
      exact absurd hF (by simp [f_X8_pass_37])
    | succ n_37 ih_37 =>
      intro h x1 x2 hF H locs ls hP hD hS hl
      rw [f_X8_pass_37_s] at hF
      refine lv_iload_n hx hb dX8_pass_37 rfl (lv_at hl 2 rfl) ?_
      refine lv_iload_n hx hb dX8_pass_38 rfl (lv_at hl 1 rfl) ?_
      refine lv_icmp_ge (tgt := 52) hx hb dX8_pass_39 (by decide) (fun c_5 => ?_) (fun c_5 => ?_)
      · have hF := ob_pos c_5 hF
        refine lv_aload_n hx hb dX8_pass_52 rfl (lv_at hl 0 rfl) ?_
        refine va_get (D := G) (ci := 8) (v := .ref (q 1)) (C := RX8) (T := TX8) (N := 8) hx hb hts iX8 hown hK hP 0 wC_at0 rfl 0 (by decide) (hts _ m_738) (fun _ h9 => h9) rfl dX8_pass_53 ?_
        refine va_get (D := G) (ci := 4) (v := .int (eI h 1 7)) (C := RX4) (T := TX4) (N := 13) hx hb hts iX4 hown hK hP 1 wC_at1 rfl 7 (by decide) (hts _ m_770) (fun _ h9 => h9) rfl dX8_pass_56 ?_
        obtain ⟨rfl, rfl⟩ := ob_pair hF
        exact gw_iret () hx hb hr hlocks hP hD hS rfl dX8_pass_59
      · have hF := ob_neg c_5 hF
        refine lv_aload_n hx hb dX8_pass_42 rfl (lv_at hl 0 rfl) ?_
        obtain ⟨h_6, e_6, hF⟩ := ob1_some hF
        refine gx_callv (gx_runV (As := []) (rest := []) ⟨hx, hb, hml, hown, hts⟩ (c_X8_passOneDay l G cI cJ cZ cB cT q h  h_6 e_6 H.size) (gG_V m_789 m_790 m_791 m_60 m_788) rfl e_X8_passOneDay ⟨Nat.le_of_ble_eq_true rfl, Nat.le_of_ble_eq_true rfl⟩ hK hP hD hE hS hA 0 wC_at0 rfl rfl hl.1 rfl (Nat.le_of_ble_eq_true rfl) dX8_pass_43 ⟨Nat.le_refl _, Nat.le_refl _⟩) hP hD hS hA (fun u_6 H locs hw_6 hP hD hS => ?_)
        refine lv_iinc (v := (x2 + 1)) (lv' := [(2, .int (x2 + 1)), (0, .ref (q 0)), (1, .int x1)]) hx hb dX8_pass_46 hl (k := 2) rfl rfl (by decide) rfl (fun ls hl => ?_)
        refine lv_goto (tgt := 37) hx hb dX8_pass_49 (by decide) ?_
        exact ih_37 h_6 x1 (x2 + 1) hF H _ ls hP hD hS (lv_sub hl [1, 2, 0] rfl)
  unfold f_X8_pass at hF
  refine lv_iload_n hx hb dX8_pass_0 rfl (lv_at hl 1 rfl) ?_
  refine lv_iconst (v := 1) hx hb dX8_pass_1 (by decide) ?_
  refine lv_icmp_lt (tgt := 26) hx hb dX8_pass_2 (by decide) (fun c_1 => ?_) (fun c_1 => ?_)
  · have hF := ob_pos c_1 hF
    exact hJ_26 h hF H _ ls hP hD hS (lv_sub hl [] rfl)
  · have hF := ob_neg c_1 hF
    refine lv_iload_n hx hb dX8_pass_5 rfl (lv_at hl 1 rfl) ?_
    refine lv_bipush (v := 99) hx hb dX8_pass_6 (by decide) ?_
    refine lv_icmp_gt (tgt := 26) hx hb dX8_pass_8 (by decide) (fun c_2 => ?_) (fun c_2 => ?_)
    · have hF := ob_pos c_2 hF
      exact hJ_26 h hF H _ ls hP hD hS (lv_sub hl [] rfl)
    · have hF := ob_neg c_2 hF
      refine lv_aload_n hx hb dX8_pass_11 rfl (lv_at hl 0 rfl) ?_
      refine va_get (D := G) (ci := 8) (v := .ref (q 1)) (C := RX8) (T := TX8) (N := 8) hx hb hts iX8 hown hK hP 0 wC_at0 rfl 0 (by decide) (hts _ m_738) (fun _ h9 => h9) rfl dX8_pass_12 ?_
      refine va_get (D := G) (ci := 4) (v := .int (eI h 1 7)) (C := RX4) (T := TX4) (N := 13) hx hb hts iX4 hown hK hP 1 wC_at1 rfl 7 (by decide) (hts _ m_770) (fun _ h9 => h9) rfl dX8_pass_15 ?_
      refine lv_iload_n hx hb dX8_pass_18 rfl (lv_at hl 1 rfl) ?_
      refine lv_iadd hx hb dX8_pass_19 ?_
      refine lv_sipush (v := 999) hx hb dX8_pass_20 (by decide) ?_
      refine lv_icmp_le (tgt := 28) hx hb dX8_pass_23 (by decide) (fun c_3 => ?_) (fun c_3 => ?_)
      · have hF := ob_pos c_3 hF
        refine lv_aload_n hx hb dX8_pass_28 rfl (lv_at hl 0 rfl) ?_
        refine va_get (D := G) (ci := 8) (v := .ref (q 1)) (C := RX8) (T := TX8) (N := 8) hx hb hts iX8 hown hK hP 0 wC_at0 rfl 0 (by decide) (hts _ m_738) (fun _ h9 => h9) rfl dX8_pass_29 ?_
        obtain ⟨h_4, e_4, hF⟩ := ob1_some hF
        refine gx_callv (gx_runV (As := []) (rest := []) ⟨hx, hb, hml, hown, hts⟩ (c_X4_keepStep l G cI cJ cZ cB cT q h  h_4 e_4 H.size) (gG_V m_761 m_762 m_763 m_7 m_760) rfl e_X4_keepStep ⟨Nat.le_of_ble_eq_true rfl, Nat.le_of_ble_eq_true rfl⟩ hK hP hD hE hS hA 1 wC_at1 rfl rfl hl.1 rfl (Nat.le_of_ble_eq_true rfl) dX8_pass_32 ⟨Nat.le_refl _, Nat.le_refl _⟩) hP hD hS hA (fun u_4 H locs hw_4 hP hD hS => ?_)
        refine lv_iconst (v := 0) hx hb dX8_pass_35 (by decide) ?_
        refine lv_istore_n (lv' := [(2, .int 0), (0, .ref (q 0)), (1, .int p1)]) hx hb dX8_pass_36 rfl hl (by decide) rfl (fun ls hl => ?_)
        exact hJ_37 8589934592 h_4 p1 0 hF H _ ls hP hD hS (lv_sub hl [1, 2, 0] rfl)
      · have hF := ob_neg c_3 hF
        exact hJ_26 h hF H _ ls hP hD hS (lv_sub hl [] rfl)
def f_X8_feed (h : HS) (p1 : Int32) (p2 : Int32) (p3 : Int32) (p4 : Int32) (p5 : Int32) : Option (Int32 × HS) := (if ((eI h 3 1) + 20) ≤ 300 then (ob1 (f_X5_addFour h p1) (fun h_2 => (ob1 (f_X5_addFour h_2 p2) (fun h_3 => (ob1 (f_X5_addFour h_3 p3) (fun h_4 => (ob1 (f_X5_addFour h_4 p4) (fun h_5 => (ob1 (f_X5_addFour h_5 p5) (fun h_6 => (some ((eI h_6 3 1), h_6)))))))))))) else (some ((-1), h)))
theorem e_X5_addFour : yX5_addFour.cls = RX5 ∧ yX5_addFour.cls ≠ "java/lang/invoke/MethodHandle" ∧ yX5_addFour.cls ≠ "java/lang/invoke/VarHandle" ∧ (parseMethodDescriptor yX5_addFour.desc).map (fun d => d.parameters.length) = some 1 := by decide +kernel
set_option maxHeartbeats 4000000 in
set_option maxRecDepth 100000 in
theorem c_X8_feed (l : Launch) (G : va_G) (cI cJ cZ cB cT : ClassId) (q : Nat → Nat) (h : HS) (p1 : Int32) (p2 : Int32) (p3 : Int32) (p4 : Int32) (p5 : Int32) (rr : Int32) (hh : HS) (hF : f_X8_feed h p1 p2 p3 p4 p5 = some (rr, hh)) : gMi l yX8_feed (gws yX8_feed cX8_feed 6 (some .int)) 2 G (gT cI cJ cZ cB cT) [.ref (q 0), .int p1, .int p2, .int p3, .int p4, .int p5] (wC q cI cJ cZ cB cT h) (fun x (_ : Unit) => x = rr) (fun (_ : Unit) => (wC q cI cJ cZ cB cT hh)) := by
  intro sz
  refine gM_start (y := yX8_feed) (av := [.ref (q 0), .int p1, .int p2, .int p3, .int p4, .int p5]) (ws := (wC q cI cJ cZ cB cT h)) (Qf := fun A => va_Qi (fun x (_ : Unit) => x = rr) (gB G (fun (_ : Unit) => (wC q cI cJ cZ cB cT hh)) A) A) (cc := cX8_feed) (maxL := 6) (ret := (some .int)) (by decide) (Nat.le_of_ble_eq_true rfl) ?_
  intro p e s m args below meth c A ls H hx hb hr hts hown hin hlocks hml hP hK hD hA hS hl hE
  have hl : lv_has ls 6 [(0, .ref (q 0)), (1, .int p1), (2, .int p2), (3, .int p3), (4, .int p4), (5, .int p5)] := hl
  unfold f_X8_feed at hF
  refine lv_aload_n hx hb dX8_feed_0 rfl (lv_at hl 0 rfl) ?_
  refine va_get (D := G) (ci := 8) (v := .ref (q 9)) (C := RX8) (T := TX8) (N := 8) hx hb hts iX8 hown hK hP 0 wC_at0 rfl 2 (by decide) (hts _ m_792) (fun _ h9 => h9) rfl dX8_feed_1 ?_
  refine va_get (D := G) (ci := 5) (v := .int (eI h 3 1)) (C := RX5) (T := TX5) (N := 2) hx hb hts iX5 hown hK hP 9 wC_at9 rfl 1 (by decide) (hts _ m_793) (fun _ h9 => h9) rfl dX8_feed_4 ?_
  refine lv_bipush (v := 20) hx hb dX8_feed_7 (by decide) ?_
  refine lv_iadd hx hb dX8_feed_9 ?_
  refine lv_sipush (v := 300) hx hb dX8_feed_10 (by decide) ?_
  refine lv_icmp_le (tgt := 18) hx hb dX8_feed_13 (by decide) (fun c_1 => ?_) (fun c_1 => ?_)
  · have hF := ob_pos c_1 hF
    refine lv_aload_n hx hb dX8_feed_18 rfl (lv_at hl 0 rfl) ?_
    refine va_get (D := G) (ci := 8) (v := .ref (q 9)) (C := RX8) (T := TX8) (N := 8) hx hb hts iX8 hown hK hP 0 wC_at0 rfl 2 (by decide) (hts _ m_792) (fun _ h9 => h9) rfl dX8_feed_19 ?_
    refine lv_iload_n hx hb dX8_feed_22 rfl (lv_at hl 1 rfl) ?_
    obtain ⟨h_2, e_2, hF⟩ := ob1_some hF
    refine gx_callv (gx_runV (As := [.int p1]) (rest := []) ⟨hx, hb, hml, hown, hts⟩ (c_X5_addFour l G cI cJ cZ cB cT q h p1 h_2 e_2 H.size) (gG_V m_795 m_796 m_797 m_413 m_794) rfl e_X5_addFour ⟨Nat.le_of_ble_eq_true rfl, Nat.le_of_ble_eq_true rfl⟩ hK hP hD hE hS hA 9 wC_at9 rfl rfl hl.1 rfl (Nat.le_of_ble_eq_true rfl) dX8_feed_23 ⟨Nat.le_refl _, Nat.le_refl _⟩) hP hD hS hA (fun u_2 H locs hw_2 hP hD hS => ?_)
    refine lv_aload_n hx hb dX8_feed_26 rfl (lv_at hl 0 rfl) ?_
    refine va_get (D := G) (ci := 8) (v := .ref (q 9)) (C := RX8) (T := TX8) (N := 8) hx hb hts iX8 hown hK hP 0 wC_at0 rfl 2 (by decide) (hts _ m_792) (fun _ h9 => h9) rfl dX8_feed_27 ?_
    refine lv_iload_n hx hb dX8_feed_30 rfl (lv_at hl 2 rfl) ?_
    obtain ⟨h_3, e_3, hF⟩ := ob1_some hF
    refine gx_callv (gx_runV (As := [.int p2]) (rest := []) ⟨hx, hb, hml, hown, hts⟩ (c_X5_addFour l G cI cJ cZ cB cT q h_2 p2 h_3 e_3 H.size) (gG_V m_795 m_796 m_797 m_413 m_794) rfl e_X5_addFour ⟨Nat.le_of_ble_eq_true rfl, Nat.le_of_ble_eq_true rfl⟩ hK hP hD hE hS hA 9 wC_at9 rfl rfl hl.1 rfl (Nat.le_of_ble_eq_true rfl) dX8_feed_31 ⟨Nat.le_refl _, Nat.le_refl _⟩) hP hD hS hA (fun u_3 H locs hw_3 hP hD hS => ?_)
    refine lv_aload_n hx hb dX8_feed_34 rfl (lv_at hl 0 rfl) ?_
    refine va_get (D := G) (ci := 8) (v := .ref (q 9)) (C := RX8) (T := TX8) (N := 8) hx hb hts iX8 hown hK hP 0 wC_at0 rfl 2 (by decide) (hts _ m_792) (fun _ h9 => h9) rfl dX8_feed_35 ?_
    refine lv_iload_n hx hb dX8_feed_38 rfl (lv_at hl 3 rfl) ?_
    obtain ⟨h_4, e_4, hF⟩ := ob1_some hF
    refine gx_callv (gx_runV (As := [.int p3]) (rest := []) ⟨hx, hb, hml, hown, hts⟩ (c_X5_addFour l G cI cJ cZ cB cT q h_3 p3 h_4 e_4 H.size) (gG_V m_795 m_796 m_797 m_413 m_794) rfl e_X5_addFour ⟨Nat.le_of_ble_eq_true rfl, Nat.le_of_ble_eq_true rfl⟩ hK hP hD hE hS hA 9 wC_at9 rfl rfl hl.1 rfl (Nat.le_of_ble_eq_true rfl) dX8_feed_39 ⟨Nat.le_refl _, Nat.le_refl _⟩) hP hD hS hA (fun u_4 H locs hw_4 hP hD hS => ?_)
    refine lv_aload_n hx hb dX8_feed_42 rfl (lv_at hl 0 rfl) ?_
    refine va_get (D := G) (ci := 8) (v := .ref (q 9)) (C := RX8) (T := TX8) (N := 8) hx hb hts iX8 hown hK hP 0 wC_at0 rfl 2 (by decide) (hts _ m_792) (fun _ h9 => h9) rfl dX8_feed_43 ?_
    refine lv_iload hx hb dX8_feed_46 (lv_at hl 4 rfl) ?_
    obtain ⟨h_5, e_5, hF⟩ := ob1_some hF
    refine gx_callv (gx_runV (As := [.int p4]) (rest := []) ⟨hx, hb, hml, hown, hts⟩ (c_X5_addFour l G cI cJ cZ cB cT q h_4 p4 h_5 e_5 H.size) (gG_V m_795 m_796 m_797 m_413 m_794) rfl e_X5_addFour ⟨Nat.le_of_ble_eq_true rfl, Nat.le_of_ble_eq_true rfl⟩ hK hP hD hE hS hA 9 wC_at9 rfl rfl hl.1 rfl (Nat.le_of_ble_eq_true rfl) dX8_feed_48 ⟨Nat.le_refl _, Nat.le_refl _⟩) hP hD hS hA (fun u_5 H locs hw_5 hP hD hS => ?_)
    refine lv_aload_n hx hb dX8_feed_51 rfl (lv_at hl 0 rfl) ?_
    refine va_get (D := G) (ci := 8) (v := .ref (q 9)) (C := RX8) (T := TX8) (N := 8) hx hb hts iX8 hown hK hP 0 wC_at0 rfl 2 (by decide) (hts _ m_792) (fun _ h9 => h9) rfl dX8_feed_52 ?_
    refine lv_iload hx hb dX8_feed_55 (lv_at hl 5 rfl) ?_
    obtain ⟨h_6, e_6, hF⟩ := ob1_some hF
    refine gx_callv (gx_runV (As := [.int p5]) (rest := []) ⟨hx, hb, hml, hown, hts⟩ (c_X5_addFour l G cI cJ cZ cB cT q h_5 p5 h_6 e_6 H.size) (gG_V m_795 m_796 m_797 m_413 m_794) rfl e_X5_addFour ⟨Nat.le_of_ble_eq_true rfl, Nat.le_of_ble_eq_true rfl⟩ hK hP hD hE hS hA 9 wC_at9 rfl rfl hl.1 rfl (Nat.le_of_ble_eq_true rfl) dX8_feed_57 ⟨Nat.le_refl _, Nat.le_refl _⟩) hP hD hS hA (fun u_6 H locs hw_6 hP hD hS => ?_)
    refine lv_aload_n hx hb dX8_feed_60 rfl (lv_at hl 0 rfl) ?_
    refine va_get (D := G) (ci := 8) (v := .ref (q 9)) (C := RX8) (T := TX8) (N := 8) hx hb hts iX8 hown hK hP 0 wC_at0 rfl 2 (by decide) (hts _ m_792) (fun _ h9 => h9) rfl dX8_feed_61 ?_
    refine va_get (D := G) (ci := 5) (v := .int (eI h_6 3 1)) (C := RX5) (T := TX5) (N := 2) hx hb hts iX5 hown hK hP 9 wC_at9 rfl 1 (by decide) (hts _ m_793) (fun _ h9 => h9) rfl dX8_feed_64 ?_
    obtain ⟨rfl, rfl⟩ := ob_pair hF
    exact gw_iret () hx hb hr hlocks hP hD hS rfl dX8_feed_67
  · have hF := ob_neg c_1 hF
    refine lv_iconst (v := (-1)) hx hb dX8_feed_16 (by decide) ?_
    obtain ⟨rfl, rfl⟩ := ob_pair hF
    exact gw_iret () hx hb hr hlocks hP hD hS rfl dX8_feed_17
def f_X8_end_15 (h : HS) : Option (Int32 × HS) := (some ((-1), h))
def f_X8_end (h : HS) (p1 : Int32) : Option (Int32 × HS) := (if p1 < 0 then (f_X8_end_15 h) else (if p1 ≤ (eI h 3 1) then (some (p1, (sI h 3 1 p1))) else (f_X8_end_15 h)))
set_option maxHeartbeats 4000000 in
set_option maxRecDepth 100000 in
theorem c_X8_end (l : Launch) (G : va_G) (cI cJ cZ cB cT : ClassId) (q : Nat → Nat) (h : HS) (p1 : Int32) (rr : Int32) (hh : HS) (hF : f_X8_end h p1 = some (rr, hh)) : gMi l yX8_end (gws yX8_end cX8_end 2 (some .int)) 1 G (gT cI cJ cZ cB cT) [.ref (q 0), .int p1] (wC q cI cJ cZ cB cT h) (fun x (_ : Unit) => x = rr) (fun (_ : Unit) => (wC q cI cJ cZ cB cT hh)) := by
  intro sz
  refine gM_start (y := yX8_end) (av := [.ref (q 0), .int p1]) (ws := (wC q cI cJ cZ cB cT h)) (Qf := fun A => va_Qi (fun x (_ : Unit) => x = rr) (gB G (fun (_ : Unit) => (wC q cI cJ cZ cB cT hh)) A) A) (cc := cX8_end) (maxL := 2) (ret := (some .int)) (by decide) (Nat.le_of_ble_eq_true rfl) ?_
  intro p e s m args below meth c A ls H hx hb hr hts hown hin hlocks hml hP hK hD hA hS hl hE
  have hl : lv_has ls 2 [(0, .ref (q 0)), (1, .int p1)] := hl
  have hJ_15 : ∀ (h : HS), f_X8_end_15 h = some (rr, hh) → ∀ (H : Heap) (locs : List Loc) (ls : Array Slot), va_P G vwCl (wC q cI cJ cZ cB cT h) H → va_D A (wC q cI cJ cZ cB cT h) → va_S A s.heap H locs → lv_has ls 2 [] → W p l e (gRm 1) s m args below meth c H locs 0 0 (MQ below (va_Qi (fun x (_ : Unit) => x = rr) (gB G (fun (_ : Unit) => (wC q cI cJ cZ cB cT hh)) A) A) args s 0 0 A) (F0 m 15 ls []) := by
    intro h hF H locs ls hP hD hS hl
    unfold f_X8_end_15 at hF
    refine lv_iconst (v := (-1)) hx hb dX8_end_15 (by decide) ?_
    obtain ⟨rfl, rfl⟩ := ob_pair hF
    exact gw_iret () hx hb hr hlocks hP hD hS rfl dX8_end_16
  unfold f_X8_end at hF
  refine lv_iload_n hx hb dX8_end_0 rfl (lv_at hl 1 rfl) ?_
  refine lv_if_lt (tgt := 15) hx hb dX8_end_1 (by decide) (fun c_1 => ?_) (fun c_1 => ?_)
  · have hF := ob_pos c_1 hF
    exact hJ_15 h hF H _ ls hP hD hS (lv_sub hl [] rfl)
  · have hF := ob_neg c_1 hF
    refine lv_iload_n hx hb dX8_end_4 rfl (lv_at hl 1 rfl) ?_
    refine lv_aload_n hx hb dX8_end_5 rfl (lv_at hl 0 rfl) ?_
    refine va_get (D := G) (ci := 8) (v := .ref (q 9)) (C := RX8) (T := TX8) (N := 8) hx hb hts iX8 hown hK hP 0 wC_at0 rfl 2 (by decide) (hts _ m_792) (fun _ h9 => h9) rfl dX8_end_6 ?_
    refine va_get (D := G) (ci := 5) (v := .int (eI h 3 1)) (C := RX5) (T := TX5) (N := 2) hx hb hts iX5 hown hK hP 9 wC_at9 rfl 1 (by decide) (hts _ m_793) (fun _ h9 => h9) rfl dX8_end_9 ?_
    refine lv_icmp_le (tgt := 17) hx hb dX8_end_12 (by decide) (fun c_2 => ?_) (fun c_2 => ?_)
    · have hF := ob_pos c_2 hF
      refine lv_aload_n hx hb dX8_end_17 rfl (lv_at hl 0 rfl) ?_
      refine va_get (D := G) (ci := 8) (v := .ref (q 9)) (C := RX8) (T := TX8) (N := 8) hx hb hts iX8 hown hK hP 0 wC_at0 rfl 2 (by decide) (hts _ m_792) (fun _ h9 => h9) rfl dX8_end_18 ?_
      refine lv_iload_n hx hb dX8_end_21 rfl (lv_at hl 1 rfl) ?_
      refine va_put (D := G) (ci := 5) (v := .int p1) (ty := .int) (C := RX5) (T := TX5) (N := 2) hx hb hts iX5 tyX5 tyX5_ok nmX5 hown hK hP hD hS 9 wC_at9 rfl 1 (by decide) (hts _ m_793) (fun _ h9 => h9) rfl (tyX5_ok 1 (by decide)) rfl rfl (Nat.le_of_ble_eq_true rfl) dX8_end_22 (fun H locs hP hD hS => ?_)
      rw [wC_sI9_1] at hP hD
      refine lv_iload_n hx hb dX8_end_25 rfl (lv_at hl 1 rfl) ?_
      obtain ⟨rfl, rfl⟩ := ob_pair hF
      exact gw_iret () hx hb hr hlocks hP hD hS rfl dX8_end_26
    · have hF := ob_neg c_2 hF
      exact hJ_15 h hF H _ ls hP hD hS (lv_sub hl [] rfl)
