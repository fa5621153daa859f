def f_X8_text (h : HS) : Option (Int32 × HS) := (if (eI h 1 9) = 0 then (ob1 (f_X7_split h) (fun h_3 => (ob1 (f_X2_parse_0 h_3) (fun h_4 => (if (eI h_4 5 0) = 0 then (some ((((eI h_4 1 9) + 1) - 1), (sI (sI h_4 3 1 0) 1 9 ((eI h_4 1 9) + 1)))) else (some ((-1), (sI h_4 3 1 0)))))))) else (if (eI h 1 9) = 1 then (ob1 (f_X7_split h) (fun h_8 => (ob1 (f_X2_parse_1 h_8) (fun h_9 => (if (eI h_9 5 0) = 0 then (some ((((eI h_9 1 9) + 1) - 1), (sI (sI h_9 3 1 0) 1 9 ((eI h_9 1 9) + 1)))) else (some ((-1), (sI h_9 3 1 0)))))))) else (if (eI h 1 9) = 2 then (ob1 (f_X7_split h) (fun h_13 => (ob1 (f_X2_parse_2 h_13) (fun h_14 => (if (eI h_14 5 0) = 0 then (some ((((eI h_14 1 9) + 1) - 1), (sI (sI h_14 3 1 0) 1 9 ((eI h_14 1 9) + 1)))) else (some ((-1), (sI h_14 3 1 0)))))))) else (if (eI h 1 9) = 3 then (ob1 (f_X7_split h) (fun h_18 => (ob1 (f_X2_parse_3 h_18) (fun h_19 => (if (eI h_19 5 0) = 0 then (some ((((eI h_19 1 9) + 1) - 1), (sI (sI h_19 3 1 0) 1 9 ((eI h_19 1 9) + 1)))) else (some ((-1), (sI h_19 3 1 0)))))))) else (some ((-1), h))))))
theorem e_X2_parse : yX2_parse.cls = RX2 ∧ yX2_parse.cls ≠ "java/lang/invoke/MethodHandle" ∧ yX2_parse.cls ≠ "java/lang/invoke/VarHandle" ∧ (parseMethodDescriptor yX2_parse.desc).map (fun d => d.parameters.length) = some 2 := by decide +kernel
theorem e_X7_split : yX7_split.cls = RX7 ∧ yX7_split.cls ≠ "java/lang/invoke/MethodHandle" ∧ yX7_split.cls ≠ "java/lang/invoke/VarHandle" ∧ (parseMethodDescriptor yX7_split.desc).map (fun d => d.parameters.length) = some 1 := by decide +kernel
set_option maxHeartbeats 4000000 in
set_option maxRecDepth 100000 in
theorem c_X8_text (l : Launch) (G : va_G) (cI cJ cZ cB cT : ClassId) (q : Nat → Nat) (h : HS)  (rr : Int32) (hh : HS) (hF : f_X8_text h = some (rr, hh)) : gMi l yX8_text (gws yX8_text cX8_text 2 (some .int)) 207 G (gT cI cJ cZ cB cT) [.ref (q 0)] (wC q cI cJ cZ cB cT h) (fun x (_ : Unit) => x = rr) (fun (_ : Unit) => (wC q cI cJ cZ cB cT hh)) := by
  intro sz
  refine gM_start (y := yX8_text) (av := [.ref (q 0)]) (ws := (wC q cI cJ cZ cB cT h)) (Qf := fun A => va_Qi (fun x (_ : Unit) => x = rr) (gB G (fun (_ : Unit) => (wC q cI cJ cZ cB cT hh)) A) A) (cc := cX8_text) (maxL := 2) (ret := (some .int)) (by decide) (Nat.le_of_ble_eq_true rfl) ?_
  intro p e s m args below meth c A ls H hx hb hr hts hown hin hlocks hml hP hK hD hA hS hl hE
  have hl : lv_has ls 2 [(0, .ref (q 0))] := hl
  unfold f_X8_text at hF
  refine lv_aload_n hx hb dX8_text_0 rfl (lv_at hl 0 rfl) ?_
  refine va_get (D := G) (ci := 8) (v := .ref (q 16)) (C := RX8) (T := TX8) (N := 8) hx hb hts iX8 hown hK hP 0 wC_at0 rfl 5 (by decide) (hts _ m_755) (fun _ h9 => h9) rfl dX8_text_1 ?_
  refine lv_aload_n hx hb dX8_text_4 rfl (lv_at hl 0 rfl) ?_
  refine va_get (D := G) (ci := 8) (v := .ref (q 1)) (C := RX8) (T := TX8) (N := 8) hx hb hts iX8 hown hK hP 0 wC_at0 rfl 0 (by decide) (hts _ m_738) (fun _ h9 => h9) rfl dX8_text_5 ?_
  refine va_get (D := G) (ci := 4) (v := .int (eI h 1 9)) (C := RX4) (T := TX4) (N := 13) hx hb hts iX4 hown hK hP 1 wC_at1 rfl 9 (by decide) (hts _ m_798) (fun _ h9 => h9) rfl dX8_text_8 ?_
  by_cases c_1 : (eI h 1 9) = 0
  · have hF := ob_pos c_1 hF
    refine gx_callq (gx_runV (As := [.int (eI h 1 9)]) (rest := []) ⟨hx, hb, hml, hown, hts⟩ (c_textOf_e0 l G cI cJ cZ cB cT q h (eI h 1 9) c_1 H.size) (gG_V m_799 m_556 m_557 m_436 m_558) rfl e_X1_textOf ⟨Nat.le_of_ble_eq_true rfl, Nat.le_of_ble_eq_true rfl⟩ hK hP hD hE hS hA 16 wC_at16 rfl rfl hl.1 rfl (Nat.le_of_ble_eq_true rfl) dX8_text_11 ⟨Nat.le_refl _, Nat.le_refl _⟩) hP hD hS hA (fun x_2 u_2 H locs hw_2 hP hD hS => ?_)
    subst x_2
    refine W.eq (g2 := F0 m 14 ls [.ref (q 32)]) rfl ?_
    refine lv_astore_n (lv' := [(1, .ref (q 32)), (0, .ref (q 0))]) hx hb dX8_text_14 rfl hl (by decide) rfl (fun ls hl => ?_)
    refine lv_aload_n hx hb dX8_text_15 rfl (lv_at hl 0 rfl) ?_
    refine lv_ifnonnull (tgt := 21) hx hb dX8_text_16 (by decide) ?_
    refine lv_aload_n hx hb dX8_text_21 rfl (lv_at hl 1 rfl) ?_
    refine va_get (D := G) (ci := 8) (v := .ref (q 11)) (C := RX8) (T := TX8) (N := 8) hx hb hts iX8 hown hK hP 0 wC_at0 rfl 3 (by decide) (hts _ m_800) (fun _ h9 => h9) rfl dX8_text_22 ?_
    refine lv_aload_n hx hb dX8_text_25 rfl (lv_at hl 1 rfl) ?_
    refine va_get (D := G) (ci := 8) (v := .ref (q 9)) (C := RX8) (T := TX8) (N := 8) hx hb hts iX8 hown hK hP 0 wC_at0 rfl 2 (by decide) (hts _ m_792) (fun _ h9 => h9) rfl dX8_text_26 ?_
    obtain ⟨h_3, e_3, hF⟩ := ob1_some hF
    refine gx_callv (gx_runV (As := [.ref (q 9)]) (rest := []) ⟨hx, hb, hml, hown, hts⟩ (c_X7_split l G cI cJ cZ cB cT q h  h_3 e_3 H.size) (gG_V m_802 m_803 m_804 m_417 m_801) rfl e_X7_split ⟨Nat.le_of_ble_eq_true rfl, Nat.le_of_ble_eq_true rfl⟩ hK hP hD hE hS hA 11 wC_at11 rfl rfl hl.1 rfl (Nat.le_of_ble_eq_true rfl) dX8_text_29 ⟨Nat.le_refl _, Nat.le_refl _⟩) hP hD hS hA (fun u_3 H locs hw_3 hP hD hS => ?_)
    refine lv_aload_n hx hb dX8_text_32 rfl (lv_at hl 1 rfl) ?_
    refine va_get (D := G) (ci := 8) (v := .ref (q 15)) (C := RX8) (T := TX8) (N := 8) hx hb hts iX8 hown hK hP 0 wC_at0 rfl 4 (by decide) (hts _ m_805) (fun _ h9 => h9) rfl dX8_text_33 ?_
    refine lv_aload_n hx hb dX8_text_36 rfl (lv_at hl 1 rfl) ?_
    refine va_get (D := G) (ci := 8) (v := .ref (q 11)) (C := RX8) (T := TX8) (N := 8) hx hb hts iX8 hown hK hP 0 wC_at0 rfl 3 (by decide) (hts _ m_800) (fun _ h9 => h9) rfl dX8_text_37 ?_
    refine lv_aload_n hx hb dX8_text_40 rfl (lv_at hl 0 rfl) ?_
    obtain ⟨h_4, e_4, hF⟩ := ob1_some hF
    refine gx_callv (gx_runV (As := [.ref (q 11), .ref (q 32)]) (rest := []) ⟨hx, hb, hml, hown, hts⟩ (c_X2_parse_0 l G cI cJ cZ cB cT q h_3  h_4 e_4 H.size) (gG_V m_807 m_808 m_809 m_660 m_806) rfl e_X2_parse ⟨Nat.le_of_ble_eq_true rfl, Nat.le_of_ble_eq_true rfl⟩ hK hP hD hE hS hA 15 wC_at15 rfl rfl hl.1 rfl (Nat.le_of_ble_eq_true rfl) dX8_text_41 ⟨Nat.le_refl _, Nat.le_refl _⟩) hP hD hS hA (fun u_4 H locs hw_4 hP hD hS => ?_)
    refine lv_aload_n hx hb dX8_text_44 rfl (lv_at hl 1 rfl) ?_
    refine va_get (D := G) (ci := 8) (v := .ref (q 9)) (C := RX8) (T := TX8) (N := 8) hx hb hts iX8 hown hK hP 0 wC_at0 rfl 2 (by decide) (hts _ m_792) (fun _ h9 => h9) rfl dX8_text_45 ?_
    refine lv_iconst (v := 0) hx hb dX8_text_48 (by decide) ?_
    refine va_put (D := G) (ci := 5) (v := .int 0) (ty := .int) (C := RX5) (T := TX5) (N := 2) hx hb hts iX5 tyX5 tyX5_ok nmX5 hown hK hP hD hS 9 wC_at9 rfl 1 (by decide) (hts _ m_793) (fun _ h9 => h9) rfl (tyX5_ok 1 (by decide)) rfl rfl (Nat.le_of_ble_eq_true rfl) dX8_text_49 (fun H locs hP hD hS => ?_)
    rw [wC_sI9_1] at hP hD
    refine lv_aload_n hx hb dX8_text_52 rfl (lv_at hl 1 rfl) ?_
    refine va_get (D := G) (ci := 8) (v := .ref (q 15)) (C := RX8) (T := TX8) (N := 8) hx hb hts iX8 hown hK hP 0 wC_at0 rfl 4 (by decide) (hts _ m_805) (fun _ h9 => h9) rfl dX8_text_53 ?_
    refine va_get (D := G) (ci := 2) (v := .int (eI h_4 5 0)) (C := RX2) (T := TX2) (N := 3) hx hb hts iX2 hown hK hP 15 wC_at15 rfl 0 (by decide) (hts _ m_810) (fun _ h9 => h9) rfl dX8_text_56 ?_
    refine lv_if_eq (tgt := 64) hx hb dX8_text_59 (by decide) (fun c_5 => ?_) (fun c_5 => ?_)
    · have hF := ob_pos c_5 hF
      refine lv_aload_n hx hb dX8_text_64 rfl (lv_at hl 1 rfl) ?_
      refine va_get (D := G) (ci := 8) (v := .ref (q 1)) (C := RX8) (T := TX8) (N := 8) hx hb hts iX8 hown hK hP 0 wC_at0 rfl 0 (by decide) (hts _ m_738) (fun _ h9 => h9) rfl dX8_text_65 ?_
      refine lv_dup hx hb dX8_text_68 rfl ?_
      refine va_get (D := G) (ci := 4) (v := .int (eI h_4 1 9)) (C := RX4) (T := TX4) (N := 13) hx hb hts iX4 hown hK hP 1 wC_at1 rfl 9 (by decide) (hts _ m_798) (fun _ h9 => h9) rfl dX8_text_69 ?_
      refine lv_iconst (v := 1) hx hb dX8_text_72 (by decide) ?_
      refine lv_iadd hx hb dX8_text_73 ?_
      refine va_put (D := G) (ci := 4) (v := .int ((eI h_4 1 9) + 1)) (ty := .int) (C := RX4) (T := TX4) (N := 13) hx hb hts iX4 tyX4 tyX4_ok nmX4 hown hK hP hD hS 1 wC_at1 rfl 9 (by decide) (hts _ m_798) (fun _ h9 => h9) rfl (tyX4_ok 9 (by decide)) rfl rfl (Nat.le_of_ble_eq_true rfl) dX8_text_74 (fun H locs hP hD hS => ?_)
      rw [wC_sI1_9] at hP hD
      refine lv_aload_n hx hb dX8_text_77 rfl (lv_at hl 1 rfl) ?_
      refine va_get (D := G) (ci := 8) (v := .ref (q 1)) (C := RX8) (T := TX8) (N := 8) hx hb hts iX8 hown hK hP 0 wC_at0 rfl 0 (by decide) (hts _ m_738) (fun _ h9 => h9) rfl dX8_text_78 ?_
      refine va_get (D := G) (ci := 4) (v := .int ((eI h_4 1 9) + 1)) (C := RX4) (T := TX4) (N := 13) hx hb hts iX4 hown hK hP 1 wC_at1 rfl 9 (by decide) (hts _ m_798) (fun _ h9 => h9) rfl dX8_text_81 ?_
      refine lv_iconst (v := 1) hx hb dX8_text_84 (by decide) ?_
      refine lv_isub hx hb dX8_text_85 ?_
      obtain ⟨rfl, rfl⟩ := ob_pair hF
      exact gw_iret () hx hb hr hlocks hP hD hS rfl dX8_text_86
    · have hF := ob_neg c_5 hF
      refine lv_iconst (v := (-1)) hx hb dX8_text_62 (by decide) ?_
      obtain ⟨rfl, rfl⟩ := ob_pair hF
      exact gw_iret () hx hb hr hlocks hP hD hS rfl dX8_text_63
  have hF := ob_neg c_1 hF
  by_cases c_6 : (eI h 1 9) = 1
  · have hF := ob_pos c_6 hF
    refine gx_callq (gx_runV (As := [.int (eI h 1 9)]) (rest := []) ⟨hx, hb, hml, hown, hts⟩ (c_textOf_e1 l G cI cJ cZ cB cT q h (eI h 1 9) c_6 H.size) (gG_V m_799 m_556 m_557 m_436 m_558) rfl e_X1_textOf ⟨Nat.le_of_ble_eq_true rfl, Nat.le_of_ble_eq_true rfl⟩ hK hP hD hE hS hA 16 wC_at16 rfl rfl hl.1 rfl (Nat.le_of_ble_eq_true rfl) dX8_text_11 ⟨Nat.le_refl _, Nat.le_refl _⟩) hP hD hS hA (fun x_7 u_7 H locs hw_7 hP hD hS => ?_)
    subst x_7
    refine W.eq (g2 := F0 m 14 ls [.ref (q 37)]) rfl ?_
    refine lv_astore_n (lv' := [(1, .ref (q 37)), (0, .ref (q 0))]) hx hb dX8_text_14 rfl hl (by decide) rfl (fun ls hl => ?_)
    refine lv_aload_n hx hb dX8_text_15 rfl (lv_at hl 0 rfl) ?_
    refine lv_ifnonnull (tgt := 21) hx hb dX8_text_16 (by decide) ?_
    refine lv_aload_n hx hb dX8_text_21 rfl (lv_at hl 1 rfl) ?_
    refine va_get (D := G) (ci := 8) (v := .ref (q 11)) (C := RX8) (T := TX8) (N := 8) hx hb hts iX8 hown hK hP 0 wC_at0 rfl 3 (by decide) (hts _ m_800) (fun _ h9 => h9) rfl dX8_text_22 ?_
    refine lv_aload_n hx hb dX8_text_25 rfl (lv_at hl 1 rfl) ?_
    refine va_get (D := G) (ci := 8) (v := .ref (q 9)) (C := RX8) (T := TX8) (N := 8) hx hb hts iX8 hown hK hP 0 wC_at0 rfl 2 (by decide) (hts _ m_792) (fun _ h9 => h9) rfl dX8_text_26 ?_
    obtain ⟨h_8, e_8, hF⟩ := ob1_some hF
    refine gx_callv (gx_runV (As := [.ref (q 9)]) (rest := []) ⟨hx, hb, hml, hown, hts⟩ (c_X7_split l G cI cJ cZ cB cT q h  h_8 e_8 H.size) (gG_V m_802 m_803 m_804 m_417 m_801) rfl e_X7_split ⟨Nat.le_of_ble_eq_true rfl, Nat.le_of_ble_eq_true rfl⟩ hK hP hD hE hS hA 11 wC_at11 rfl rfl hl.1 rfl (Nat.le_of_ble_eq_true rfl) dX8_text_29 ⟨Nat.le_refl _, Nat.le_refl _⟩) hP hD hS hA (fun u_8 H locs hw_8 hP hD hS => ?_)
    refine lv_aload_n hx hb dX8_text_32 rfl (lv_at hl 1 rfl) ?_
    refine va_get (D := G) (ci := 8) (v := .ref (q 15)) (C := RX8) (T := TX8) (N := 8) hx hb hts iX8 hown hK hP 0 wC_at0 rfl 4 (by decide) (hts _ m_805) (fun _ h9 => h9) rfl dX8_text_33 ?_
    refine lv_aload_n hx hb dX8_text_36 rfl (lv_at hl 1 rfl) ?_
    refine va_get (D := G) (ci := 8) (v := .ref (q 11)) (C := RX8) (T := TX8) (N := 8) hx hb hts iX8 hown hK hP 0 wC_at0 rfl 3 (by decide) (hts _ m_800) (fun _ h9 => h9) rfl dX8_text_37 ?_
    refine lv_aload_n hx hb dX8_text_40 rfl (lv_at hl 0 rfl) ?_
    obtain ⟨h_9, e_9, hF⟩ := ob1_some hF
    refine gx_callv (gx_runV (As := [.ref (q 11), .ref (q 37)]) (rest := []) ⟨hx, hb, hml, hown, hts⟩ (c_X2_parse_1 l G cI cJ cZ cB cT q h_8  h_9 e_9 H.size) (gG_V m_807 m_808 m_809 m_660 m_806) rfl e_X2_parse ⟨Nat.le_of_ble_eq_true rfl, Nat.le_of_ble_eq_true rfl⟩ hK hP hD hE hS hA 15 wC_at15 rfl rfl hl.1 rfl (Nat.le_of_ble_eq_true rfl) dX8_text_41 ⟨Nat.le_refl _, Nat.le_refl _⟩) hP hD hS hA (fun u_9 H locs hw_9 hP hD hS => ?_)
    refine lv_aload_n hx hb dX8_text_44 rfl (lv_at hl 1 rfl) ?_
    refine va_get (D := G) (ci := 8) (v := .ref (q 9)) (C := RX8) (T := TX8) (N := 8) hx hb hts iX8 hown hK hP 0 wC_at0 rfl 2 (by decide) (hts _ m_792) (fun _ h9 => h9) rfl dX8_text_45 ?_
    refine lv_iconst (v := 0) hx hb dX8_text_48 (by decide) ?_
    refine va_put (D := G) (ci := 5) (v := .int 0) (ty := .int) (C := RX5) (T := TX5) (N := 2) hx hb hts iX5 tyX5 tyX5_ok nmX5 hown hK hP hD hS 9 wC_at9 rfl 1 (by decide) (hts _ m_793) (fun _ h9 => h9) rfl (tyX5_ok 1 (by decide)) rfl rfl (Nat.le_of_ble_eq_true rfl) dX8_text_49 (fun H locs hP hD hS => ?_)
    rw [wC_sI9_1] at hP hD
    refine lv_aload_n hx hb dX8_text_52 rfl (lv_at hl 1 rfl) ?_
    refine va_get (D := G) (ci := 8) (v := .ref (q 15)) (C := RX8) (T := TX8) (N := 8) hx hb hts iX8 hown hK hP 0 wC_at0 rfl 4 (by decide) (hts _ m_805) (fun _ h9 => h9) rfl dX8_text_53 ?_
    refine va_get (D := G) (ci := 2) (v := .int (eI h_9 5 0)) (C := RX2) (T := TX2) (N := 3) hx hb hts iX2 hown hK hP 15 wC_at15 rfl 0 (by decide) (hts _ m_810) (fun _ h9 => h9) rfl dX8_text_56 ?_
    refine lv_if_eq (tgt := 64) hx hb dX8_text_59 (by decide) (fun c_10 => ?_) (fun c_10 => ?_)
    · have hF := ob_pos c_10 hF
      refine lv_aload_n hx hb dX8_text_64 rfl (lv_at hl 1 rfl) ?_
      refine va_get (D := G) (ci := 8) (v := .ref (q 1)) (C := RX8) (T := TX8) (N := 8) hx hb hts iX8 hown hK hP 0 wC_at0 rfl 0 (by decide) (hts _ m_738) (fun _ h9 => h9) rfl dX8_text_65 ?_
      refine lv_dup hx hb dX8_text_68 rfl ?_
      refine va_get (D := G) (ci := 4) (v := .int (eI h_9 1 9)) (C := RX4) (T := TX4) (N := 13) hx hb hts iX4 hown hK hP 1 wC_at1 rfl 9 (by decide) (hts _ m_798) (fun _ h9 => h9) rfl dX8_text_69 ?_
      refine lv_iconst (v := 1) hx hb dX8_text_72 (by decide) ?_
      refine lv_iadd hx hb dX8_text_73 ?_
      refine va_put (D := G) (ci := 4) (v := .int ((eI h_9 1 9) + 1)) (ty := .int) (C := RX4) (T := TX4) (N := 13) hx hb hts iX4 tyX4 tyX4_ok nmX4 hown hK hP hD hS 1 wC_at1 rfl 9 (by decide) (hts _ m_798) (fun _ h9 => h9) rfl (tyX4_ok 9 (by decide)) rfl rfl (Nat.le_of_ble_eq_true rfl) dX8_text_74 (fun H locs hP hD hS => ?_)
      rw [wC_sI1_9] at hP hD
      refine lv_aload_n hx hb dX8_text_77 rfl (lv_at hl 1 rfl) ?_
      refine va_get (D := G) (ci := 8) (v := .ref (q 1)) (C := RX8) (T := TX8) (N := 8) hx hb hts iX8 hown hK hP 0 wC_at0 rfl 0 (by decide) (hts _ m_738) (fun _ h9 => h9) rfl dX8_text_78 ?_
      refine va_get (D := G) (ci := 4) (v := .int ((eI h_9 1 9) + 1)) (C := RX4) (T := TX4) (N := 13) hx hb hts iX4 hown hK hP 1 wC_at1 rfl 9 (by decide) (hts _ m_798) (fun _ h9 => h9) rfl dX8_text_81 ?_
      refine lv_iconst (v := 1) hx hb dX8_text_84 (by decide) ?_
      refine lv_isub hx hb dX8_text_85 ?_
      obtain ⟨rfl, rfl⟩ := ob_pair hF
      exact gw_iret () hx hb hr hlocks hP hD hS rfl dX8_text_86
    · have hF := ob_neg c_10 hF
      refine lv_iconst (v := (-1)) hx hb dX8_text_62 (by decide) ?_
      obtain ⟨rfl, rfl⟩ := ob_pair hF
      exact gw_iret () hx hb hr hlocks hP hD hS rfl dX8_text_63
  have hF := ob_neg c_6 hF
  by_cases c_11 : (eI h 1 9) = 2
  · have hF := ob_pos c_11 hF
    refine gx_callq (gx_runV (As := [.int (eI h 1 9)]) (rest := []) ⟨hx, hb, hml, hown, hts⟩ (c_textOf_e2 l G cI cJ cZ cB cT q h (eI h 1 9) c_11 H.size) (gG_V m_799 m_556 m_557 m_436 m_558) rfl e_X1_textOf ⟨Nat.le_of_ble_eq_true rfl, Nat.le_of_ble_eq_true rfl⟩ hK hP hD hE hS hA 16 wC_at16 rfl rfl hl.1 rfl (Nat.le_of_ble_eq_true rfl) dX8_text_11 ⟨Nat.le_refl _, Nat.le_refl _⟩) hP hD hS hA (fun x_12 u_12 H locs hw_12 hP hD hS => ?_)
    subst x_12
    refine W.eq (g2 := F0 m 14 ls [.ref (q 42)]) rfl ?_
    refine lv_astore_n (lv' := [(1, .ref (q 42)), (0, .ref (q 0))]) hx hb dX8_text_14 rfl hl (by decide) rfl (fun ls hl => ?_)
    refine lv_aload_n hx hb dX8_text_15 rfl (lv_at hl 0 rfl) ?_
    refine lv_ifnonnull (tgt := 21) hx hb dX8_text_16 (by decide) ?_
    refine lv_aload_n hx hb dX8_text_21 rfl (lv_at hl 1 rfl) ?_
    refine va_get (D := G) (ci := 8) (v := .ref (q 11)) (C := RX8) (T := TX8) (N := 8) hx hb hts iX8 hown hK hP 0 wC_at0 rfl 3 (by decide) (hts _ m_800) (fun _ h9 => h9) rfl dX8_text_22 ?_
    refine lv_aload_n hx hb dX8_text_25 rfl (lv_at hl 1 rfl) ?_
    refine va_get (D := G) (ci := 8) (v := .ref (q 9)) (C := RX8) (T := TX8) (N := 8) hx hb hts iX8 hown hK hP 0 wC_at0 rfl 2 (by decide) (hts _ m_792) (fun _ h9 => h9) rfl dX8_text_26 ?_
    obtain ⟨h_13, e_13, hF⟩ := ob1_some hF
    refine gx_callv (gx_runV (As := [.ref (q 9)]) (rest := []) ⟨hx, hb, hml, hown, hts⟩ (c_X7_split l G cI cJ cZ cB cT q h  h_13 e_13 H.size) (gG_V m_802 m_803 m_804 m_417 m_801) rfl e_X7_split ⟨Nat.le_of_ble_eq_true rfl, Nat.le_of_ble_eq_true rfl⟩ hK hP hD hE hS hA 11 wC_at11 rfl rfl hl.1 rfl (Nat.le_of_ble_eq_true rfl) dX8_text_29 ⟨Nat.le_refl _, Nat.le_refl _⟩) hP hD hS hA (fun u_13 H locs hw_13 hP hD hS => ?_)
    refine lv_aload_n hx hb dX8_text_32 rfl (lv_at hl 1 rfl) ?_
    refine va_get (D := G) (ci := 8) (v := .ref (q 15)) (C := RX8) (T := TX8) (N := 8) hx hb hts iX8 hown hK hP 0 wC_at0 rfl 4 (by decide) (hts _ m_805) (fun _ h9 => h9) rfl dX8_text_33 ?_
    refine lv_aload_n hx hb dX8_text_36 rfl (lv_at hl 1 rfl) ?_
    refine va_get (D := G) (ci := 8) (v := .ref (q 11)) (C := RX8) (T := TX8) (N := 8) hx hb hts iX8 hown hK hP 0 wC_at0 rfl 3 (by decide) (hts _ m_800) (fun _ h9 => h9) rfl dX8_text_37 ?_
    refine lv_aload_n hx hb dX8_text_40 rfl (lv_at hl 0 rfl) ?_
    obtain ⟨h_14, e_14, hF⟩ := ob1_some hF
    refine gx_callv (gx_runV (As := [.ref (q 11), .ref (q 42)]) (rest := []) ⟨hx, hb, hml, hown, hts⟩ (c_X2_parse_2 l G cI cJ cZ cB cT q h_13  h_14 e_14 H.size) (gG_V m_807 m_808 m_809 m_660 m_806) rfl e_X2_parse ⟨Nat.le_of_ble_eq_true rfl, Nat.le_of_ble_eq_true rfl⟩ hK hP hD hE hS hA 15 wC_at15 rfl rfl hl.1 rfl (Nat.le_of_ble_eq_true rfl) dX8_text_41 ⟨Nat.le_refl _, Nat.le_refl _⟩) hP hD hS hA (fun u_14 H locs hw_14 hP hD hS => ?_)
    refine lv_aload_n hx hb dX8_text_44 rfl (lv_at hl 1 rfl) ?_
    refine va_get (D := G) (ci := 8) (v := .ref (q 9)) (C := RX8) (T := TX8) (N := 8) hx hb hts iX8 hown hK hP 0 wC_at0 rfl 2 (by decide) (hts _ m_792) (fun _ h9 => h9) rfl dX8_text_45 ?_
    refine lv_iconst (v := 0) hx hb dX8_text_48 (by decide) ?_
    refine va_put (D := G) (ci := 5) (v := .int 0) (ty := .int) (C := RX5) (T := TX5) (N := 2) hx hb hts iX5 tyX5 tyX5_ok nmX5 hown hK hP hD hS 9 wC_at9 rfl 1 (by decide) (hts _ m_793) (fun _ h9 => h9) rfl (tyX5_ok 1 (by decide)) rfl rfl (Nat.le_of_ble_eq_true rfl) dX8_text_49 (fun H locs hP hD hS => ?_)
    rw [wC_sI9_1] at hP hD
    refine lv_aload_n hx hb dX8_text_52 rfl (lv_at hl 1 rfl) ?_
    refine va_get (D := G) (ci := 8) (v := .ref (q 15)) (C := RX8) (T := TX8) (N := 8) hx hb hts iX8 hown hK hP 0 wC_at0 rfl 4 (by decide) (hts _ m_805) (fun _ h9 => h9) rfl dX8_text_53 ?_
    refine va_get (D := G) (ci := 2) (v := .int (eI h_14 5 0)) (C := RX2) (T := TX2) (N := 3) hx hb hts iX2 hown hK hP 15 wC_at15 rfl 0 (by decide) (hts _ m_810) (fun _ h9 => h9) rfl dX8_text_56 ?_
    refine lv_if_eq (tgt := 64) hx hb dX8_text_59 (by decide) (fun c_15 => ?_) (fun c_15 => ?_)
    · have hF := ob_pos c_15 hF
      refine lv_aload_n hx hb dX8_text_64 rfl (lv_at hl 1 rfl) ?_
      refine va_get (D := G) (ci := 8) (v := .ref (q 1)) (C := RX8) (T := TX8) (N := 8) hx hb hts iX8 hown hK hP 0 wC_at0 rfl 0 (by decide) (hts _ m_738) (fun _ h9 => h9) rfl dX8_text_65 ?_
      refine lv_dup hx hb dX8_text_68 rfl ?_
      refine va_get (D := G) (ci := 4) (v := .int (eI h_14 1 9)) (C := RX4) (T := TX4) (N := 13) hx hb hts iX4 hown hK hP 1 wC_at1 rfl 9 (by decide) (hts _ m_798) (fun _ h9 => h9) rfl dX8_text_69 ?_
      refine lv_iconst (v := 1) hx hb dX8_text_72 (by decide) ?_
      refine lv_iadd hx hb dX8_text_73 ?_
      refine va_put (D := G) (ci := 4) (v := .int ((eI h_14 1 9) + 1)) (ty := .int) (C := RX4) (T := TX4) (N := 13) hx hb hts iX4 tyX4 tyX4_ok nmX4 hown hK hP hD hS 1 wC_at1 rfl 9 (by decide) (hts _ m_798) (fun _ h9 => h9) rfl (tyX4_ok 9 (by decide)) rfl rfl (Nat.le_of_ble_eq_true rfl) dX8_text_74 (fun H locs hP hD hS => ?_)
      rw [wC_sI1_9] at hP hD
      refine lv_aload_n hx hb dX8_text_77 rfl (lv_at hl 1 rfl) ?_
      refine va_get (D := G) (ci := 8) (v := .ref (q 1)) (C := RX8) (T := TX8) (N := 8) hx hb hts iX8 hown hK hP 0 wC_at0 rfl 0 (by decide) (hts _ m_738) (fun _ h9 => h9) rfl dX8_text_78 ?_
      refine va_get (D := G) (ci := 4) (v := .int ((eI h_14 1 9) + 1)) (C := RX4) (T := TX4) (N := 13) hx hb hts iX4 hown hK hP 1 wC_at1 rfl 9 (by decide) (hts _ m_798) (fun _ h9 => h9) rfl dX8_text_81 ?_
      refine lv_iconst (v := 1) hx hb dX8_text_84 (by decide) ?_
      refine lv_isub hx hb dX8_text_85 ?_
      obtain ⟨rfl, rfl⟩ := ob_pair hF
      exact gw_iret () hx hb hr hlocks hP hD hS rfl dX8_text_86
    · have hF := ob_neg c_15 hF
      refine lv_iconst (v := (-1)) hx hb dX8_text_62 (by decide) ?_
      obtain ⟨rfl, rfl⟩ := ob_pair hF
      exact gw_iret () hx hb hr hlocks hP hD hS rfl dX8_text_63
  have hF := ob_neg c_11 hF
  by_cases c_16 : (eI h 1 9) = 3
  · have hF := ob_pos c_16 hF
    refine gx_callq (gx_runV (As := [.int (eI h 1 9)]) (rest := []) ⟨hx, hb, hml, hown, hts⟩ (c_textOf_e3 l G cI cJ cZ cB cT q h (eI h 1 9) c_16 H.size) (gG_V m_799 m_556 m_557 m_436 m_558) rfl e_X1_textOf ⟨Nat.le_of_ble_eq_true rfl, Nat.le_of_ble_eq_true rfl⟩ hK hP hD hE hS hA 16 wC_at16 rfl rfl hl.1 rfl (Nat.le_of_ble_eq_true rfl) dX8_text_11 ⟨Nat.le_refl _, Nat.le_refl _⟩) hP hD hS hA (fun x_17 u_17 H locs hw_17 hP hD hS => ?_)
    subst x_17
    refine W.eq (g2 := F0 m 14 ls [.ref (q 47)]) rfl ?_
    refine lv_astore_n (lv' := [(1, .ref (q 47)), (0, .ref (q 0))]) hx hb dX8_text_14 rfl hl (by decide) rfl (fun ls hl => ?_)
    refine lv_aload_n hx hb dX8_text_15 rfl (lv_at hl 0 rfl) ?_
    refine lv_ifnonnull (tgt := 21) hx hb dX8_text_16 (by decide) ?_
    refine lv_aload_n hx hb dX8_text_21 rfl (lv_at hl 1 rfl) ?_
    refine va_get (D := G) (ci := 8) (v := .ref (q 11)) (C := RX8) (T := TX8) (N := 8) hx hb hts iX8 hown hK hP 0 wC_at0 rfl 3 (by decide) (hts _ m_800) (fun _ h9 => h9) rfl dX8_text_22 ?_
    refine lv_aload_n hx hb dX8_text_25 rfl (lv_at hl 1 rfl) ?_
    refine va_get (D := G) (ci := 8) (v := .ref (q 9)) (C := RX8) (T := TX8) (N := 8) hx hb hts iX8 hown hK hP 0 wC_at0 rfl 2 (by decide) (hts _ m_792) (fun _ h9 => h9) rfl dX8_text_26 ?_
    obtain ⟨h_18, e_18, hF⟩ := ob1_some hF
    refine gx_callv (gx_runV (As := [.ref (q 9)]) (rest := []) ⟨hx, hb, hml, hown, hts⟩ (c_X7_split l G cI cJ cZ cB cT q h  h_18 e_18 H.size) (gG_V m_802 m_803 m_804 m_417 m_801) rfl e_X7_split ⟨Nat.le_of_ble_eq_true rfl, Nat.le_of_ble_eq_true rfl⟩ hK hP hD hE hS hA 11 wC_at11 rfl rfl hl.1 rfl (Nat.le_of_ble_eq_true rfl) dX8_text_29 ⟨Nat.le_refl _, Nat.le_refl _⟩) hP hD hS hA (fun u_18 H locs hw_18 hP hD hS => ?_)
    refine lv_aload_n hx hb dX8_text_32 rfl (lv_at hl 1 rfl) ?_
    refine va_get (D := G) (ci := 8) (v := .ref (q 15)) (C := RX8) (T := TX8) (N := 8) hx hb hts iX8 hown hK hP 0 wC_at0 rfl 4 (by decide) (hts _ m_805) (fun _ h9 => h9) rfl dX8_text_33 ?_
    refine lv_aload_n hx hb dX8_text_36 rfl (lv_at hl 1 rfl) ?_
    refine va_get (D := G) (ci := 8) (v := .ref (q 11)) (C := RX8) (T := TX8) (N := 8) hx hb hts iX8 hown hK hP 0 wC_at0 rfl 3 (by decide) (hts _ m_800) (fun _ h9 => h9) rfl dX8_text_37 ?_
    refine lv_aload_n hx hb dX8_text_40 rfl (lv_at hl 0 rfl) ?_
    obtain ⟨h_19, e_19, hF⟩ := ob1_some hF
    refine gx_callv (gx_runV (As := [.ref (q 11), .ref (q 47)]) (rest := []) ⟨hx, hb, hml, hown, hts⟩ (c_X2_parse_3 l G cI cJ cZ cB cT q h_18  h_19 e_19 H.size) (gG_V m_807 m_808 m_809 m_660 m_806) rfl e_X2_parse ⟨Nat.le_of_ble_eq_true rfl, Nat.le_of_ble_eq_true rfl⟩ hK hP hD hE hS hA 15 wC_at15 rfl rfl hl.1 rfl (Nat.le_of_ble_eq_true rfl) dX8_text_41 ⟨Nat.le_refl _, Nat.le_refl _⟩) hP hD hS hA (fun u_19 H locs hw_19 hP hD hS => ?_)
    refine lv_aload_n hx hb dX8_text_44 rfl (lv_at hl 1 rfl) ?_
    refine va_get (D := G) (ci := 8) (v := .ref (q 9)) (C := RX8) (T := TX8) (N := 8) hx hb hts iX8 hown hK hP 0 wC_at0 rfl 2 (by decide) (hts _ m_792) (fun _ h9 => h9) rfl dX8_text_45 ?_
    refine lv_iconst (v := 0) hx hb dX8_text_48 (by decide) ?_
    refine va_put (D := G) (ci := 5) (v := .int 0) (ty := .int) (C := RX5) (T := TX5) (N := 2) hx hb hts iX5 tyX5 tyX5_ok nmX5 hown hK hP hD hS 9 wC_at9 rfl 1 (by decide) (hts _ m_793) (fun _ h9 => h9) rfl (tyX5_ok 1 (by decide)) rfl rfl (Nat.le_of_ble_eq_true rfl) dX8_text_49 (fun H locs hP hD hS => ?_)
    rw [wC_sI9_1] at hP hD
    refine lv_aload_n hx hb dX8_text_52 rfl (lv_at hl 1 rfl) ?_
    refine va_get (D := G) (ci := 8) (v := .ref (q 15)) (C := RX8) (T := TX8) (N := 8) hx hb hts iX8 hown hK hP 0 wC_at0 rfl 4 (by decide) (hts _ m_805) (fun _ h9 => h9) rfl dX8_text_53 ?_
    refine va_get (D := G) (ci := 2) (v := .int (eI h_19 5 0)) (C := RX2) (T := TX2) (N := 3) hx hb hts iX2 hown hK hP 15 wC_at15 rfl 0 (by decide) (hts _ m_810) (fun _ h9 => h9) rfl dX8_text_56 ?_
    refine lv_if_eq (tgt := 64) hx hb dX8_text_59 (by decide) (fun c_20 => ?_) (fun c_20 => ?_)
    · have hF := ob_pos c_20 hF
      refine lv_aload_n hx hb dX8_text_64 rfl (lv_at hl 1 rfl) ?_
      refine va_get (D := G) (ci := 8) (v := .ref (q 1)) (C := RX8) (T := TX8) (N := 8) hx hb hts iX8 hown hK hP 0 wC_at0 rfl 0 (by decide) (hts _ m_738) (fun _ h9 => h9) rfl dX8_text_65 ?_
      refine lv_dup hx hb dX8_text_68 rfl ?_
      refine va_get (D := G) (ci := 4) (v := .int (eI h_19 1 9)) (C := RX4) (T := TX4) (N := 13) hx hb hts iX4 hown hK hP 1 wC_at1 rfl 9 (by decide) (hts _ m_798) (fun _ h9 => h9) rfl dX8_text_69 ?_
      refine lv_iconst (v := 1) hx hb dX8_text_72 (by decide) ?_
      refine lv_iadd hx hb dX8_text_73 ?_
      refine va_put (D := G) (ci := 4) (v := .int ((eI h_19 1 9) + 1)) (ty := .int) (C := RX4) (T := TX4) (N := 13) hx hb hts iX4 tyX4 tyX4_ok nmX4 hown hK hP hD hS 1 wC_at1 rfl 9 (by decide) (hts _ m_798) (fun _ h9 => h9) rfl (tyX4_ok 9 (by decide)) rfl rfl (Nat.le_of_ble_eq_true rfl) dX8_text_74 (fun H locs hP hD hS => ?_)
      rw [wC_sI1_9] at hP hD
      refine lv_aload_n hx hb dX8_text_77 rfl (lv_at hl 1 rfl) ?_
      refine va_get (D := G) (ci := 8) (v := .ref (q 1)) (C := RX8) (T := TX8) (N := 8) hx hb hts iX8 hown hK hP 0 wC_at0 rfl 0 (by decide) (hts _ m_738) (fun _ h9 => h9) rfl dX8_text_78 ?_
      refine va_get (D := G) (ci := 4) (v := .int ((eI h_19 1 9) + 1)) (C := RX4) (T := TX4) (N := 13) hx hb hts iX4 hown hK hP 1 wC_at1 rfl 9 (by decide) (hts _ m_798) (fun _ h9 => h9) rfl dX8_text_81 ?_
      refine lv_iconst (v := 1) hx hb dX8_text_84 (by decide) ?_
      refine lv_isub hx hb dX8_text_85 ?_
      obtain ⟨rfl, rfl⟩ := ob_pair hF
      exact gw_iret () hx hb hr hlocks hP hD hS rfl dX8_text_86
    · have hF := ob_neg c_20 hF
      refine lv_iconst (v := (-1)) hx hb dX8_text_62 (by decide) ?_
      obtain ⟨rfl, rfl⟩ := ob_pair hF
      exact gw_iret () hx hb hr hlocks hP hD hS rfl dX8_text_63
  have hF := ob_neg c_16 hF
  refine gx_callq (gx_runV (As := [.int (eI h 1 9)]) (rest := []) ⟨hx, hb, hml, hown, hts⟩ (c_textOf_no l G cI cJ cZ cB cT q h (eI h 1 9) c_1 c_6 c_11 c_16 H.size) (gG_V m_799 m_556 m_557 m_436 m_558) rfl e_X1_textOf ⟨Nat.le_of_ble_eq_true rfl, Nat.le_of_ble_eq_true rfl⟩ hK hP hD hE hS hA 16 wC_at16 rfl rfl hl.1 rfl (Nat.le_of_ble_eq_true rfl) dX8_text_11 ⟨Nat.le_refl _, Nat.le_refl _⟩) hP hD hS hA (fun x_21 u_21 H locs hw_21 hP hD hS => ?_)
  subst x_21
  refine W.eq (g2 := F0 m 14 ls [.null]) rfl ?_
  refine lv_astore_nN (lv' := [(1, .null), (0, .ref (q 0))]) hx hb dX8_text_14 rfl hl (by decide) rfl (fun ls hl => ?_)
  refine lv_aload_nN hx hb dX8_text_15 rfl (lv_at hl 0 rfl) ?_
  refine lv_ifnonnullN hx hb dX8_text_16 ?_
  refine lv_iconst (v := (-1)) hx hb dX8_text_19 (by decide) ?_
  obtain ⟨rfl, rfl⟩ := ob_pair hF
  exact gw_iret () hx hb hr hlocks hP hD hS rfl dX8_text_20
def f_X8_fault_28 (h : HS) (y0 : Int32) : Option (Int32 × HS) := (some (y0, h))
def f_X8_fault (h : HS) (p1 : Int32) : Option (Int32 × HS) := (if p1 = 0 then (some ((eI h 5 0), h)) else (if p1 = 1 then (f_X8_fault_28 h (eI h 5 1)) else (f_X8_fault_28 h (-1))))
set_option maxHeartbeats 4000000 in
set_option maxRecDepth 100000 in
theorem c_X8_fault (l : Launch) (G : va_G) (cI cJ cZ cB cT : ClassId) (q : Nat → Nat) (h : HS) (p1 : Int32) (rr : Int32) (hh : HS) (hF : f_X8_fault h p1 = some (rr, hh)) : gMi l yX8_fault (gws yX8_fault cX8_fault 2 (some .int)) 1 G (gT cI cJ cZ cB cT) [.ref (q 0), .int p1] (wC q cI cJ cZ cB cT h) (fun x (_ : Unit) => x = rr) (fun (_ : Unit) => (wC q cI cJ cZ cB cT hh)) := by
  intro sz
  refine gM_start (y := yX8_fault) (av := [.ref (q 0), .int p1]) (ws := (wC q cI cJ cZ cB cT h)) (Qf := fun A => va_Qi (fun x (_ : Unit) => x = rr) (gB G (fun (_ : Unit) => (wC q cI cJ cZ cB cT hh)) A) A) (cc := cX8_fault) (maxL := 2) (ret := (some .int)) (by decide) (Nat.le_of_ble_eq_true rfl) ?_
  intro p e s m args below meth c A ls H hx hb hr hts hown hin hlocks hml hP hK hD hA hS hl hE
  have hl : lv_has ls 2 [(0, .ref (q 0)), (1, .int p1)] := hl
  have hJ_28 : ∀ (h : HS) (y0 : Int32), f_X8_fault_28 h y0 = some (rr, hh) → ∀ (H : Heap) (locs : List Loc) (ls : Array Slot), va_P G vwCl (wC q cI cJ cZ cB cT h) H → va_D A (wC q cI cJ cZ cB cT h) → va_S A s.heap H locs → lv_has ls 2 [] → W p l e (gRm 1) s m args below meth c H locs 0 0 (MQ below (va_Qi (fun x (_ : Unit) => x = rr) (gB G (fun (_ : Unit) => (wC q cI cJ cZ cB cT hh)) A) A) args s 0 0 A) (F0 m 28 ls [.int y0]) := by
    intro h y0 hF H locs ls hP hD hS hl
    unfold f_X8_fault_28 at hF
    obtain ⟨rfl, rfl⟩ := ob_pair hF
    exact gw_iret () hx hb hr hlocks hP hD hS rfl dX8_fault_28
  unfold f_X8_fault at hF
  refine lv_iload_n hx hb dX8_fault_0 rfl (lv_at hl 1 rfl) ?_
  refine lv_if_ne (tgt := 12) hx hb dX8_fault_1 (by decide) (fun c_1 => ?_) (fun c_1 => ?_)
  · have hF := ob_neg c_1 hF
    refine lv_iload_n hx hb dX8_fault_12 rfl (lv_at hl 1 rfl) ?_
    refine lv_iconst (v := 1) hx hb dX8_fault_13 (by decide) ?_
    refine lv_icmp_ne (tgt := 27) hx hb dX8_fault_14 (by decide) (fun c_2 => ?_) (fun c_2 => ?_)
    · have hF := ob_neg c_2 hF
      refine lv_iconst (v := (-1)) hx hb dX8_fault_27 (by decide) ?_
      exact hJ_28 h (-1) hF H _ ls hP hD hS (lv_sub hl [] rfl)
    · have hF := ob_pos c_2 hF
      refine lv_aload_n hx hb dX8_fault_17 rfl (lv_at hl 0 rfl) ?_
      refine va_get (D := G) (ci := 8) (v := .ref (q 15)) (C := RX8) (T := TX8) (N := 8) hx hb hts iX8 hown hK hP 0 wC_at0 rfl 4 (by decide) (hts _ m_805) (fun _ h9 => h9) rfl dX8_fault_18 ?_
      refine va_get (D := G) (ci := 2) (v := .int (eI h 5 1)) (C := RX2) (T := TX2) (N := 3) hx hb hts iX2 hown hK hP 15 wC_at15 rfl 1 (by decide) (hts _ m_811) (fun _ h9 => h9) rfl dX8_fault_21 ?_
      refine lv_goto (tgt := 28) hx hb dX8_fault_24 (by decide) ?_
      exact hJ_28 h (eI h 5 1) hF H _ ls hP hD hS (lv_sub hl [] rfl)
  · have hF := ob_pos c_1 hF
    refine lv_aload_n hx hb dX8_fault_4 rfl (lv_at hl 0 rfl) ?_
    refine va_get (D := G) (ci := 8) (v := .ref (q 15)) (C := RX8) (T := TX8) (N := 8) hx hb hts iX8 hown hK hP 0 wC_at0 rfl 4 (by decide) (hts _ m_805) (fun _ h9 => h9) rfl dX8_fault_5 ?_
    refine va_get (D := G) (ci := 2) (v := .int (eI h 5 0)) (C := RX2) (T := TX2) (N := 3) hx hb hts iX2 hown hK hP 15 wC_at15 rfl 0 (by decide) (hts _ m_810) (fun _ h9 => h9) rfl dX8_fault_8 ?_
    obtain ⟨rfl, rfl⟩ := ob_pair hF
    exact gw_iret () hx hb hr hlocks hP hD hS rfl dX8_fault_11
def f_X8_by_16 (h : HS) : Option (Int32 × HS) := (some (0, h))
def f_X8_by (h : HS) (p1 : Int32) : Option (Int32 × HS) := (if p1 < (-1) then (f_X8_by_16 h) else (if p1 < (eI h 1 9) then (some (1, (sI h 1 10 p1))) else (f_X8_by_16 h)))
set_option maxHeartbeats 4000000 in
set_option maxRecDepth 100000 in
theorem c_X8_by (l : Launch) (G : va_G) (cI cJ cZ cB cT : ClassId) (q : Nat → Nat) (h : HS) (p1 : Int32) (rr : Int32) (hh : HS) (hF : f_X8_by h p1 = some (rr, hh)) : gMi l yX8_by (gws yX8_by cX8_by 2 (some .boolean)) 1 G (gT cI cJ cZ cB cT) [.ref (q 0), .int p1] (wC q cI cJ cZ cB cT h) (fun x (_ : Unit) => x = rr) (fun (_ : Unit) => (wC q cI cJ cZ cB cT hh)) := by
  intro sz
  refine gM_start (y := yX8_by) (av := [.ref (q 0), .int p1]) (ws := (wC q cI cJ cZ cB cT h)) (Qf := fun A => va_Qi (fun x (_ : Unit) => x = rr) (gB G (fun (_ : Unit) => (wC q cI cJ cZ cB cT hh)) A) A) (cc := cX8_by) (maxL := 2) (ret := (some .boolean)) (by decide) (Nat.le_of_ble_eq_true rfl) ?_
  intro p e s m args below meth c A ls H hx hb hr hts hown hin hlocks hml hP hK hD hA hS hl hE
  have hl : lv_has ls 2 [(0, .ref (q 0)), (1, .int p1)] := hl
  have hJ_16 : ∀ (h : HS), f_X8_by_16 h = some (rr, hh) → ∀ (H : Heap) (locs : List Loc) (ls : Array Slot), va_P G vwCl (wC q cI cJ cZ cB cT h) H → va_D A (wC q cI cJ cZ cB cT h) → va_S A s.heap H locs → lv_has ls 2 [] → W p l e (gRm 1) s m args below meth c H locs 0 0 (MQ below (va_Qi (fun x (_ : Unit) => x = rr) (gB G (fun (_ : Unit) => (wC q cI cJ cZ cB cT hh)) A) A) args s 0 0 A) (F0 m 16 ls []) := by
    intro h hF H locs ls hP hD hS hl
    unfold f_X8_by_16 at hF
    refine lv_iconst (v := 0) hx hb dX8_by_16 (by decide) ?_
    obtain ⟨rfl, rfl⟩ := ob_pair hF
    exact gw_zret () hx hb hr hlocks rfl hP hD hS rfl dX8_by_17
  unfold f_X8_by at hF
  refine lv_iload_n hx hb dX8_by_0 rfl (lv_at hl 1 rfl) ?_
  refine lv_iconst (v := (-1)) hx hb dX8_by_1 (by decide) ?_
  refine lv_icmp_lt (tgt := 16) hx hb dX8_by_2 (by decide) (fun c_1 => ?_) (fun c_1 => ?_)
  · have hF := ob_pos c_1 hF
    exact hJ_16 h hF H _ ls hP hD hS (lv_sub hl [] rfl)
  · have hF := ob_neg c_1 hF
    refine lv_iload_n hx hb dX8_by_5 rfl (lv_at hl 1 rfl) ?_
    refine lv_aload_n hx hb dX8_by_6 rfl (lv_at hl 0 rfl) ?_
    refine va_get (D := G) (ci := 8) (v := .ref (q 1)) (C := RX8) (T := TX8) (N := 8) hx hb hts iX8 hown hK hP 0 wC_at0 rfl 0 (by decide) (hts _ m_738) (fun _ h9 => h9) rfl dX8_by_7 ?_
    refine va_get (D := G) (ci := 4) (v := .int (eI h 1 9)) (C := RX4) (T := TX4) (N := 13) hx hb hts iX4 hown hK hP 1 wC_at1 rfl 9 (by decide) (hts _ m_798) (fun _ h9 => h9) rfl dX8_by_10 ?_
    refine lv_icmp_lt (tgt := 18) hx hb dX8_by_13 (by decide) (fun c_2 => ?_) (fun c_2 => ?_)
    · have hF := ob_pos c_2 hF
      refine lv_aload_n hx hb dX8_by_18 rfl (lv_at hl 0 rfl) ?_
      refine va_get (D := G) (ci := 8) (v := .ref (q 1)) (C := RX8) (T := TX8) (N := 8) hx hb hts iX8 hown hK hP 0 wC_at0 rfl 0 (by decide) (hts _ m_738) (fun _ h9 => h9) rfl dX8_by_19 ?_
      refine lv_iload_n hx hb dX8_by_22 rfl (lv_at hl 1 rfl) ?_
      refine va_put (D := G) (ci := 4) (v := .int p1) (ty := .int) (C := RX4) (T := TX4) (N := 13) hx hb hts iX4 tyX4 tyX4_ok nmX4 hown hK hP hD hS 1 wC_at1 rfl 10 (by decide) (hts _ m_812) (fun _ h9 => h9) rfl (tyX4_ok 10 (by decide)) rfl rfl (Nat.le_of_ble_eq_true rfl) dX8_by_23 (fun H locs hP hD hS => ?_)
      rw [wC_sI1_10] at hP hD
      refine lv_iconst (v := 1) hx hb dX8_by_26 (by decide) ?_
      obtain ⟨rfl, rfl⟩ := ob_pair hF
      exact gw_zret () hx hb hr hlocks rfl hP hD hS rfl dX8_by_27
    · have hF := ob_neg c_2 hF
      exact hJ_16 h hF H _ ls hP hD hS (lv_sub hl [] rfl)
def f_X8_played_24 (h : HS) : Option (Int32 × HS) := (some ((-2), h))
def f_X8_played_146 (k29 : HS → Int32 → Option (Int32 × HS)) (h : HS) (x3 : Int32) (x6 : Int32) : Option (Int32 × HS) := (if x6 = (-1) then (some (x3, h)) else (k29 h (x3 + 1)))
def f_X8_played_29 : Nat → HS → Int32 → Option (Int32 × HS)
  | 0, _, _ => none
  | n + 1, h, x3 => (if (eI h 9 1) ≤ x3 then (some ((-1), h)) else (ob2 (f_X6_clauseField_0 h x3 1) (fun r_16 h_16 => (ob2 (f_X6_clauseField_0 h_16 x3 2) (fun r_17 h_17 => (ob2 (f_X6_clauseField_0 h_17 x3 0) (fun r_18 h_18 => (if r_18 = 20 then (ob2 (f_X6_clauseField_0 h_18 x3 3) (fun r_20 h_20 => (ob2 (f_X8_fill h_20 r_16 r_17 r_20) (fun r_21 h_21 => (f_X8_played_146 (f_X8_played_29 n) h_21 x3 r_21))))) else (if r_18 = 21 then (ob2 (f_X8_send h_18 r_16 r_17) (fun r_23 h_23 => (f_X8_played_146 (f_X8_played_29 n) h_23 x3 r_23))) else (if r_18 = 22 then (ob2 (f_X8_fatten h_18 r_16) (fun r_25 h_25 => (f_X8_played_146 (f_X8_played_29 n) h_25 x3 r_25))) else (if r_18 = 23 then (ob2 (f_X8_pass h_18 r_16) (fun r_27 h_27 => (f_X8_played_146 (f_X8_played_29 n) h_27 x3 r_27))) else (f_X8_played_146 (f_X8_played_29 n) h_18 x3 0))))))))))))
theorem f_X8_played_29_s (n : Nat) (h : HS) (x3 : Int32) : f_X8_played_29 (n + 1) h x3 = (if (eI h 9 1) ≤ x3 then (some ((-1), h)) else (ob2 (f_X6_clauseField_0 h x3 1) (fun r_16 h_16 => (ob2 (f_X6_clauseField_0 h_16 x3 2) (fun r_17 h_17 => (ob2 (f_X6_clauseField_0 h_17 x3 0) (fun r_18 h_18 => (if r_18 = 20 then (ob2 (f_X6_clauseField_0 h_18 x3 3) (fun r_20 h_20 => (ob2 (f_X8_fill h_20 r_16 r_17 r_20) (fun r_21 h_21 => (f_X8_played_146 (f_X8_played_29 n) h_21 x3 r_21))))) else (if r_18 = 21 then (ob2 (f_X8_send h_18 r_16 r_17) (fun r_23 h_23 => (f_X8_played_146 (f_X8_played_29 n) h_23 x3 r_23))) else (if r_18 = 22 then (ob2 (f_X8_fatten h_18 r_16) (fun r_25 h_25 => (f_X8_played_146 (f_X8_played_29 n) h_25 x3 r_25))) else (if r_18 = 23 then (ob2 (f_X8_pass h_18 r_16) (fun r_27 h_27 => (f_X8_played_146 (f_X8_played_29 n) h_27 x3 r_27))) else (f_X8_played_146 (f_X8_played_29 n) h_18 x3 0)))))))))))) := rfl
def f_X8_played_146b (k29b : HS → Int32 → Option (Int32 × HS)) (h : HS) (x3 : Int32) (x6 : Int32) : Option (Int32 × HS) := (if x6 = (-1) then (some (x3, h)) else (k29b h (x3 + 1)))
def f_X8_played_29b : Nat → HS → Int32 → Option (Int32 × HS)
  | 0, _, _ => none
  | n + 1, h, x3 => (if (eI h 10 1) ≤ x3 then (some ((-1), h)) else (ob2 (f_X6_clauseField_1 h x3 1) (fun r_29 h_29 => (ob2 (f_X6_clauseField_1 h_29 x3 2) (fun r_30 h_30 => (ob2 (f_X6_clauseField_1 h_30 x3 0) (fun r_31 h_31 => (if r_31 = 20 then (ob2 (f_X6_clauseField_1 h_31 x3 3) (fun r_33 h_33 => (ob2 (f_X8_fill h_33 r_29 r_30 r_33) (fun r_34 h_34 => (f_X8_played_146b (f_X8_played_29b n) h_34 x3 r_34))))) else (if r_31 = 21 then (ob2 (f_X8_send h_31 r_29 r_30) (fun r_36 h_36 => (f_X8_played_146b (f_X8_played_29b n) h_36 x3 r_36))) else (if r_31 = 22 then (ob2 (f_X8_fatten h_31 r_29) (fun r_38 h_38 => (f_X8_played_146b (f_X8_played_29b n) h_38 x3 r_38))) else (if r_31 = 23 then (ob2 (f_X8_pass h_31 r_29) (fun r_40 h_40 => (f_X8_played_146b (f_X8_played_29b n) h_40 x3 r_40))) else (f_X8_played_146b (f_X8_played_29b n) h_31 x3 0))))))))))))
theorem f_X8_played_29b_s (n : Nat) (h : HS) (x3 : Int32) : f_X8_played_29b (n + 1) h x3 = (if (eI h 10 1) ≤ x3 then (some ((-1), h)) else (ob2 (f_X6_clauseField_1 h x3 1) (fun r_29 h_29 => (ob2 (f_X6_clauseField_1 h_29 x3 2) (fun r_30 h_30 => (ob2 (f_X6_clauseField_1 h_30 x3 0) (fun r_31 h_31 => (if r_31 = 20 then (ob2 (f_X6_clauseField_1 h_31 x3 3) (fun r_33 h_33 => (ob2 (f_X8_fill h_33 r_29 r_30 r_33) (fun r_34 h_34 => (f_X8_played_146b (f_X8_played_29b n) h_34 x3 r_34))))) else (if r_31 = 21 then (ob2 (f_X8_send h_31 r_29 r_30) (fun r_36 h_36 => (f_X8_played_146b (f_X8_played_29b n) h_36 x3 r_36))) else (if r_31 = 22 then (ob2 (f_X8_fatten h_31 r_29) (fun r_38 h_38 => (f_X8_played_146b (f_X8_played_29b n) h_38 x3 r_38))) else (if r_31 = 23 then (ob2 (f_X8_pass h_31 r_29) (fun r_40 h_40 => (f_X8_played_146b (f_X8_played_29b n) h_40 x3 r_40))) else (f_X8_played_146b (f_X8_played_29b n) h_31 x3 0)))))))))))) := rfl
def f_X8_played_146c (k29c : HS → Int32 → Option (Int32 × HS)) (h : HS) (x3 : Int32) (x6 : Int32) : Option (Int32 × HS) := (if x6 = (-1) then (some (x3, h)) else (k29c h (x3 + 1)))
def f_X8_played_29c : Nat → HS → Int32 → Option (Int32 × HS)
  | 0, _, _ => none
  | n + 1, h, x3 => (if (eI h 11 1) ≤ x3 then (some ((-1), h)) else (ob2 (f_X6_clauseField_2 h x3 1) (fun r_42 h_42 => (ob2 (f_X6_clauseField_2 h_42 x3 2) (fun r_43 h_43 => (ob2 (f_X6_clauseField_2 h_43 x3 0) (fun r_44 h_44 => (if r_44 = 20 then (ob2 (f_X6_clauseField_2 h_44 x3 3) (fun r_46 h_46 => (ob2 (f_X8_fill h_46 r_42 r_43 r_46) (fun r_47 h_47 => (f_X8_played_146c (f_X8_played_29c n) h_47 x3 r_47))))) else (if r_44 = 21 then (ob2 (f_X8_send h_44 r_42 r_43) (fun r_49 h_49 => (f_X8_played_146c (f_X8_played_29c n) h_49 x3 r_49))) else (if r_44 = 22 then (ob2 (f_X8_fatten h_44 r_42) (fun r_51 h_51 => (f_X8_played_146c (f_X8_played_29c n) h_51 x3 r_51))) else (if r_44 = 23 then (ob2 (f_X8_pass h_44 r_42) (fun r_53 h_53 => (f_X8_played_146c (f_X8_played_29c n) h_53 x3 r_53))) else (f_X8_played_146c (f_X8_played_29c n) h_44 x3 0))))))))))))
theorem f_X8_played_29c_s (n : Nat) (h : HS) (x3 : Int32) : f_X8_played_29c (n + 1) h x3 = (if (eI h 11 1) ≤ x3 then (some ((-1), h)) else (ob2 (f_X6_clauseField_2 h x3 1) (fun r_42 h_42 => (ob2 (f_X6_clauseField_2 h_42 x3 2) (fun r_43 h_43 => (ob2 (f_X6_clauseField_2 h_43 x3 0) (fun r_44 h_44 => (if r_44 = 20 then (ob2 (f_X6_clauseField_2 h_44 x3 3) (fun r_46 h_46 => (ob2 (f_X8_fill h_46 r_42 r_43 r_46) (fun r_47 h_47 => (f_X8_played_146c (f_X8_played_29c n) h_47 x3 r_47))))) else (if r_44 = 21 then (ob2 (f_X8_send h_44 r_42 r_43) (fun r_49 h_49 => (f_X8_played_146c (f_X8_played_29c n) h_49 x3 r_49))) else (if r_44 = 22 then (ob2 (f_X8_fatten h_44 r_42) (fun r_51 h_51 => (f_X8_played_146c (f_X8_played_29c n) h_51 x3 r_51))) else (if r_44 = 23 then (ob2 (f_X8_pass h_44 r_42) (fun r_53 h_53 => (f_X8_played_146c (f_X8_played_29c n) h_53 x3 r_53))) else (f_X8_played_146c (f_X8_played_29c n) h_44 x3 0)))))))))))) := rfl
def f_X8_played_146d (k29d : HS → Int32 → Option (Int32 × HS)) (h : HS) (x3 : Int32) (x6 : Int32) : Option (Int32 × HS) := (if x6 = (-1) then (some (x3, h)) else (k29d h (x3 + 1)))
def f_X8_played_29d : Nat → HS → Int32 → Option (Int32 × HS)
  | 0, _, _ => none
  | n + 1, h, x3 => (if (eI h 12 1) ≤ x3 then (some ((-1), h)) else (ob2 (f_X6_clauseField_3 h x3 1) (fun r_55 h_55 => (ob2 (f_X6_clauseField_3 h_55 x3 2) (fun r_56 h_56 => (ob2 (f_X6_clauseField_3 h_56 x3 0) (fun r_57 h_57 => (if r_57 = 20 then (ob2 (f_X6_clauseField_3 h_57 x3 3) (fun r_59 h_59 => (ob2 (f_X8_fill h_59 r_55 r_56 r_59) (fun r_60 h_60 => (f_X8_played_146d (f_X8_played_29d n) h_60 x3 r_60))))) else (if r_57 = 21 then (ob2 (f_X8_send h_57 r_55 r_56) (fun r_62 h_62 => (f_X8_played_146d (f_X8_played_29d n) h_62 x3 r_62))) else (if r_57 = 22 then (ob2 (f_X8_fatten h_57 r_55) (fun r_64 h_64 => (f_X8_played_146d (f_X8_played_29d n) h_64 x3 r_64))) else (if r_57 = 23 then (ob2 (f_X8_pass h_57 r_55) (fun r_66 h_66 => (f_X8_played_146d (f_X8_played_29d n) h_66 x3 r_66))) else (f_X8_played_146d (f_X8_played_29d n) h_57 x3 0))))))))))))
theorem f_X8_played_29d_s (n : Nat) (h : HS) (x3 : Int32) : f_X8_played_29d (n + 1) h x3 = (if (eI h 12 1) ≤ x3 then (some ((-1), h)) else (ob2 (f_X6_clauseField_3 h x3 1) (fun r_55 h_55 => (ob2 (f_X6_clauseField_3 h_55 x3 2) (fun r_56 h_56 => (ob2 (f_X6_clauseField_3 h_56 x3 0) (fun r_57 h_57 => (if r_57 = 20 then (ob2 (f_X6_clauseField_3 h_57 x3 3) (fun r_59 h_59 => (ob2 (f_X8_fill h_59 r_55 r_56 r_59) (fun r_60 h_60 => (f_X8_played_146d (f_X8_played_29d n) h_60 x3 r_60))))) else (if r_57 = 21 then (ob2 (f_X8_send h_57 r_55 r_56) (fun r_62 h_62 => (f_X8_played_146d (f_X8_played_29d n) h_62 x3 r_62))) else (if r_57 = 22 then (ob2 (f_X8_fatten h_57 r_55) (fun r_64 h_64 => (f_X8_played_146d (f_X8_played_29d n) h_64 x3 r_64))) else (if r_57 = 23 then (ob2 (f_X8_pass h_57 r_55) (fun r_66 h_66 => (f_X8_played_146d (f_X8_played_29d n) h_66 x3 r_66))) else (f_X8_played_146d (f_X8_played_29d n) h_57 x3 0)))))))))))) := rfl
def f_X8_played (h : HS) (p1 : Int32) : Option (Int32 × HS) := (if p1 = 0 then (if (eI h 1 9) ≤ p1 then (f_X8_played_24 h) else (f_X8_played_29 8589934592 h 0)) else (if p1 = 1 then (if (eI h 1 9) ≤ p1 then (f_X8_played_24 h) else (f_X8_played_29b 8589934592 h 0)) else (if p1 = 2 then (if (eI h 1 9) ≤ p1 then (f_X8_played_24 h) else (f_X8_played_29c 8589934592 h 0)) else (if p1 = 3 then (if (eI h 1 9) ≤ p1 then (f_X8_played_24 h) else (f_X8_played_29d 8589934592 h 0)) else (if (eI h 1 9) ≤ p1 then (f_X8_played_24 h) else (f_X8_played_24 h))))))
theorem e_X6_clauseField : yX6_clauseField.cls = RX6 ∧ yX6_clauseField.cls ≠ "java/lang/invoke/MethodHandle" ∧ yX6_clauseField.cls ≠ "java/lang/invoke/VarHandle" ∧ (parseMethodDescriptor yX6_clauseField.desc).map (fun d => d.parameters.length) = some 2 := by decide +kernel
theorem e_X8_fatten : yX8_fatten.cls = RX8 ∧ yX8_fatten.cls ≠ "java/lang/invoke/MethodHandle" ∧ yX8_fatten.cls ≠ "java/lang/invoke/VarHandle" ∧ (parseMethodDescriptor yX8_fatten.desc).map (fun d => d.parameters.length) = some 1 := by decide +kernel
theorem e_X8_fill : yX8_fill.cls = RX8 ∧ yX8_fill.cls ≠ "java/lang/invoke/MethodHandle" ∧ yX8_fill.cls ≠ "java/lang/invoke/VarHandle" ∧ (parseMethodDescriptor yX8_fill.desc).map (fun d => d.parameters.length) = some 3 := by decide +kernel
theorem e_X8_pass : yX8_pass.cls = RX8 ∧ yX8_pass.cls ≠ "java/lang/invoke/MethodHandle" ∧ yX8_pass.cls ≠ "java/lang/invoke/VarHandle" ∧ (parseMethodDescriptor yX8_pass.desc).map (fun d => d.parameters.length) = some 1 := by decide +kernel
theorem e_X8_send : yX8_send.cls = RX8 ∧ yX8_send.cls ≠ "java/lang/invoke/MethodHandle" ∧ yX8_send.cls ≠ "java/lang/invoke/VarHandle" ∧ (parseMethodDescriptor yX8_send.desc).map (fun d => d.parameters.length) = some 2 := by decide +kernel
set_option maxHeartbeats 4000000 in
set_option maxRecDepth 100000 in
theorem c_X8_played (l : Launch) (G : va_G) (cI cJ cZ cB cT : ClassId) (q : Nat → Nat) (h : HS) (p1 : Int32) (rr : Int32) (hh : HS) (hF : f_X8_played h p1 = some (rr, hh)) : gMi l yX8_played (gws yX8_played cX8_played 7 (some .int)) 7 G (gT cI cJ cZ cB cT) [.ref (q 0), .int p1] (wC q cI cJ cZ cB cT h) (fun x (_ : Unit) => x = rr) (fun (_ : Unit) => (wC q cI cJ cZ cB cT hh)) := by
  intro sz
  refine gM_start (y := yX8_played) (av := [.ref (q 0), .int p1]) (ws := (wC q cI cJ cZ cB cT h)) (Qf := fun A => va_Qi (fun x (_ : Unit) => x = rr) (gB G (fun (_ : Unit) => (wC q cI cJ cZ cB cT hh)) A) A) (cc := cX8_played) (maxL := 7) (ret := (some .int)) (by decide) (Nat.le_of_ble_eq_true rfl) ?_
  intro p e s m args below meth c A ls H hx hb hr hts hown hin hlocks hml hP hK hD hA hS hl hE
  have hl : lv_has ls 7 [(0, .ref (q 0)), (1, .int p1)] := hl
  have hJ_24 : ∀ (h : HS), f_X8_played_24 h = some (rr, hh) → ∀ (H : Heap) (locs : List Loc) (ls : Array Slot), va_P G vwCl (wC q cI cJ cZ cB cT h) H → va_D A (wC q cI cJ cZ cB cT h) → va_S A s.heap H locs → lv_has ls 7 [] → W p l e (gRm 7) s m args below meth c H locs 0 0 (MQ below (va_Qi (fun x (_ : Unit) => x = rr) (gB G (fun (_ : Unit) => (wC q cI cJ cZ cB cT hh)) A) A) args s 0 0 A) (F0 m 24 ls []) := by
    intro h hF H locs ls hP hD hS hl
    unfold f_X8_played_24 at hF
    refine lv_bipush (v := (-2)) hx hb dX8_played_24 (by decide) ?_
    obtain ⟨rfl, rfl⟩ := ob_pair hF
    exact gw_iret () hx hb hr hlocks hP hD hS rfl dX8_played_26
  have hJ_29 : ∀ (n_29 : Nat) (h : HS) (x3 : Int32), f_X8_played_29 n_29 h x3 = some (rr, hh) → ∀ (H : Heap) (locs : List Loc) (ls : Array Slot), va_P G vwCl (wC q cI cJ cZ cB cT h) H → va_D A (wC q cI cJ cZ cB cT h) → va_S A s.heap H locs → lv_has ls 7 [(0, .ref (q 0)), (2, .ref (q 32)), (3, .int x3)] → W p l e (gRm 7) s m args below meth c H locs 0 0 (MQ below (va_Qi (fun x (_ : Unit) => x = rr) (gB G (fun (_ : Unit) => (wC q cI cJ cZ cB cT hh)) A) A) args s 0 0 A) (F0 m 29 ls []) := by
    intro n_29
    induction n_29 with
    | zero =>
      intro h x3 hF
      exact absurd hF (by simp [f_X8_played_29])
    | succ n_29 ih_29 =>
      have hJ_146 : ∀ (h : HS) (x3 : Int32) (x6 : Int32), f_X8_played_146 (f_X8_played_29 n_29) h x3 x6 = some (rr, hh) → ∀ (H : Heap) (locs : List Loc) (ls : Array Slot), va_P G vwCl (wC q cI cJ cZ cB cT h) H → va_D A (wC q cI cJ cZ cB cT h) → va_S A s.heap H locs → lv_has ls 7 [(0, .ref (q 0)), (2, .ref (q 32)), (3, .int x3), (6, .int x6)] → W p l e (gRm 7) s m args below meth c H locs 0 0 (MQ below (va_Qi (fun x (_ : Unit) => x = rr) (gB G (fun (_ : Unit) => (wC q cI cJ cZ cB cT hh)) A) A) args s 0 0 A) (F0 m 146 ls []) := by
        intro h x3 x6 hF H locs ls hP hD hS hl
        unfold f_X8_played_146 at hF
        refine lv_iload hx hb dX8_played_146 (lv_at hl 3 rfl) ?_
        refine lv_iconst (v := (-1)) hx hb dX8_played_148 (by decide) ?_
        refine lv_icmp_ne (tgt := 154) hx hb dX8_played_149 (by decide) (fun c_67 => ?_) (fun c_67 => ?_)
        · have hF := ob_neg c_67 hF
          refine lv_iinc (v := (x3 + 1)) (lv' := [(3, .int (x3 + 1)), (0, .ref (q 0)), (2, .ref (q 32)), (6, .int x6)]) hx hb dX8_played_154 hl (k := 2) rfl rfl (by decide) rfl (fun ls hl => ?_)
          refine lv_goto (tgt := 29) hx hb dX8_played_157 (by decide) ?_
          exact ih_29 h (x3 + 1) hF H _ ls hP hD hS (lv_sub hl [1, 2, 0] rfl)
        · have hF := ob_pos c_67 hF
          refine lv_iload_n hx hb dX8_played_152 rfl (lv_at hl 2 rfl) ?_
          obtain ⟨rfl, rfl⟩ := ob_pair hF
          exact gw_iret () hx hb hr hlocks hP hD hS rfl dX8_played_153
      intro h x3 hF H locs ls hP hD hS hl
      rw [f_X8_played_29_s] at hF
      refine lv_iload_n hx hb dX8_played_29 rfl (lv_at hl 2 rfl) ?_
      refine lv_aload_n hx hb dX8_played_30 rfl (lv_at hl 1 rfl) ?_
      refine va_get (D := G) (ci := 6) (v := .int (eI h 9 1)) (C := RX6) (T := TX6) (N := 6) hx hb hts iX6 hown hK hP 32 wC_at32 rfl 1 (by decide) (hts _ m_813) (fun _ h9 => h9) rfl dX8_played_31 ?_
      refine lv_icmp_ge (tgt := 160) hx hb dX8_played_34 (by decide) (fun c_15 => ?_) (fun c_15 => ?_)
      · have hF := ob_pos c_15 hF
        refine lv_iconst (v := (-1)) hx hb dX8_played_160 (by decide) ?_
        obtain ⟨rfl, rfl⟩ := ob_pair hF
        exact gw_iret () hx hb hr hlocks hP hD hS rfl dX8_played_161
      · have hF := ob_neg c_15 hF
        refine lv_aload_n hx hb dX8_played_37 rfl (lv_at hl 1 rfl) ?_
        refine lv_iload_n hx hb dX8_played_38 rfl (lv_at hl 2 rfl) ?_
        refine lv_iconst (v := 1) hx hb dX8_played_39 (by decide) ?_
        obtain ⟨r_16, h_16, e_16, hF⟩ := ob2_some hF
        refine gx_calli (gx_runV (As := [.int x3, .int 1]) (rest := []) ⟨hx, hb, hml, hown, hts⟩ (c_X6_clauseField_0 l G cI cJ cZ cB cT q h x3 1 r_16 h_16 e_16 H.size) (gG_V m_815 m_816 m_817 m_563 m_814) rfl e_X6_clauseField ⟨Nat.le_of_ble_eq_true rfl, Nat.le_of_ble_eq_true rfl⟩ hK hP hD hE hS hA 32 wC_at32 rfl rfl hl.1 rfl (Nat.le_of_ble_eq_true rfl) dX8_played_40 ⟨Nat.le_refl _, Nat.le_refl _⟩) hP hD hS hA (fun x_16 u_16 H locs hw_16 hP hD hS => ?_)
        subst x_16
        refine lv_istore (lv' := [(4, .int r_16), (0, .ref (q 0)), (2, .ref (q 32)), (3, .int x3)]) hx hb dX8_played_43 hl (by decide) rfl (fun ls hl => ?_)
        refine lv_aload_n hx hb dX8_played_45 rfl (lv_at hl 2 rfl) ?_
        refine lv_iload_n hx hb dX8_played_46 rfl (lv_at hl 3 rfl) ?_
        refine lv_iconst (v := 2) hx hb dX8_played_47 (by decide) ?_
        obtain ⟨r_17, h_17, e_17, hF⟩ := ob2_some hF
        refine gx_calli (gx_runV (As := [.int x3, .int 2]) (rest := []) ⟨hx, hb, hml, hown, hts⟩ (c_X6_clauseField_0 l G cI cJ cZ cB cT q h_16 x3 2 r_17 h_17 e_17 H.size) (gG_V m_815 m_816 m_817 m_563 m_814) rfl e_X6_clauseField ⟨Nat.le_of_ble_eq_true rfl, Nat.le_of_ble_eq_true rfl⟩ hK hP hD hE hS hA 32 wC_at32 rfl rfl hl.1 rfl (Nat.le_of_ble_eq_true rfl) dX8_played_48 ⟨Nat.le_refl _, Nat.le_refl _⟩) hP hD hS hA (fun x_17 u_17 H locs hw_17 hP hD hS => ?_)
        subst x_17
        refine lv_istore (lv' := [(5, .int r_17), (4, .int r_16), (0, .ref (q 0)), (2, .ref (q 32)), (3, .int x3)]) hx hb dX8_played_51 hl (by decide) rfl (fun ls hl => ?_)
        refine lv_iconst (v := 0) hx hb dX8_played_53 (by decide) ?_
        refine lv_istore (lv' := [(6, .int 0), (5, .int r_17), (4, .int r_16), (0, .ref (q 0)), (2, .ref (q 32)), (3, .int x3)]) hx hb dX8_played_54 hl (by decide) rfl (fun ls hl => ?_)
        refine lv_aload_n hx hb dX8_played_56 rfl (lv_at hl 4 rfl) ?_
        refine lv_iload_n hx hb dX8_played_57 rfl (lv_at hl 5 rfl) ?_
        refine lv_iconst (v := 0) hx hb dX8_played_58 (by decide) ?_
        obtain ⟨r_18, h_18, e_18, hF⟩ := ob2_some hF
        refine gx_calli (gx_runV (As := [.int x3, .int 0]) (rest := []) ⟨hx, hb, hml, hown, hts⟩ (c_X6_clauseField_0 l G cI cJ cZ cB cT q h_17 x3 0 r_18 h_18 e_18 H.size) (gG_V m_815 m_816 m_817 m_563 m_814) rfl e_X6_clauseField ⟨Nat.le_of_ble_eq_true rfl, Nat.le_of_ble_eq_true rfl⟩ hK hP hD hE hS hA 32 wC_at32 rfl rfl hl.1 rfl (Nat.le_of_ble_eq_true rfl) dX8_played_59 ⟨Nat.le_refl _, Nat.le_refl _⟩) hP hD hS hA (fun x_18 u_18 H locs hw_18 hP hD hS => ?_)
        subst x_18
        by_cases c_19 : r_18 = 20
        · have hF := ob_pos c_19 hF
          refine lv_tableIn (tgt := 92) (off := 30) hx hb dX8_played_62 (by rw [c_19]; decide) (by rw [c_19]; decide) (by rw [c_19]; decide) (by decide) ?_
          refine lv_aload_n hx hb dX8_played_92 rfl (lv_at hl 3 rfl) ?_
          refine lv_iload hx hb dX8_played_93 (lv_at hl 2 rfl) ?_
          refine lv_iload hx hb dX8_played_95 (lv_at hl 1 rfl) ?_
          refine lv_aload_n hx hb dX8_played_97 rfl (lv_at hl 4 rfl) ?_
          refine lv_iload_n hx hb dX8_played_98 rfl (lv_at hl 5 rfl) ?_
          refine lv_iconst (v := 3) hx hb dX8_played_99 (by decide) ?_
          obtain ⟨r_20, h_20, e_20, hF⟩ := ob2_some hF
          refine gx_calli (gx_runV (As := [.int x3, .int 3]) (rest := [.int r_17, .int r_16, .ref (q 0)]) ⟨hx, hb, hml, hown, hts⟩ (c_X6_clauseField_0 l G cI cJ cZ cB cT q h_18 x3 3 r_20 h_20 e_20 H.size) (gG_V m_815 m_816 m_817 m_563 m_814) rfl e_X6_clauseField ⟨Nat.le_of_ble_eq_true rfl, Nat.le_of_ble_eq_true rfl⟩ hK hP hD hE hS hA 32 wC_at32 rfl rfl hl.1 rfl (Nat.le_of_ble_eq_true rfl) dX8_played_100 ⟨Nat.le_refl _, Nat.le_refl _⟩) hP hD hS hA (fun x_20 u_20 H locs hw_20 hP hD hS => ?_)
          subst x_20
          obtain ⟨r_21, h_21, e_21, hF⟩ := ob2_some hF
          refine gx_calli (gx_runV (As := [.int r_16, .int r_17, .int r_20]) (rest := []) ⟨hx, hb, hml, hown, hts⟩ (c_X8_fill l G cI cJ cZ cB cT q h_20 r_16 r_17 r_20 r_21 h_21 e_21 H.size) (gG_V m_819 m_820 m_821 m_60 m_818) rfl e_X8_fill ⟨Nat.le_of_ble_eq_true rfl, Nat.le_of_ble_eq_true rfl⟩ hK hP hD hE hS hA 0 wC_at0 rfl rfl hl.1 rfl (Nat.le_of_ble_eq_true rfl) dX8_played_103 ⟨Nat.le_refl _, Nat.le_refl _⟩) hP hD hS hA (fun x_21 u_21 H locs hw_21 hP hD hS => ?_)
          subst x_21
          refine lv_istore (lv' := [(6, .int r_21), (5, .int r_17), (4, .int r_16), (0, .ref (q 0)), (2, .ref (q 32)), (3, .int x3)]) hx hb dX8_played_106 hl (by decide) rfl (fun ls hl => ?_)
          refine lv_goto (tgt := 146) hx hb dX8_played_108 (by decide) ?_
          exact hJ_146 h_21 x3 r_21 hF H _ ls hP hD hS (lv_sub hl [3, 4, 5, 0] rfl)
        have hF := ob_neg c_19 hF
        by_cases c_22 : r_18 = 21
        · have hF := ob_pos c_22 hF
          refine lv_tableIn (tgt := 111) (off := 49) hx hb dX8_played_62 (by rw [c_22]; decide) (by rw [c_22]; decide) (by rw [c_22]; decide) (by decide) ?_
          refine lv_aload_n hx hb dX8_played_111 rfl (lv_at hl 3 rfl) ?_
          refine lv_iload hx hb dX8_played_112 (lv_at hl 2 rfl) ?_
          refine lv_iload hx hb dX8_played_114 (lv_at hl 1 rfl) ?_
          obtain ⟨r_23, h_23, e_23, hF⟩ := ob2_some hF
          refine gx_calli (gx_runV (As := [.int r_16, .int r_17]) (rest := []) ⟨hx, hb, hml, hown, hts⟩ (c_X8_send l G cI cJ cZ cB cT q h_18 r_16 r_17 r_23 h_23 e_23 H.size) (gG_V m_823 m_824 m_825 m_60 m_822) rfl e_X8_send ⟨Nat.le_of_ble_eq_true rfl, Nat.le_of_ble_eq_true rfl⟩ hK hP hD hE hS hA 0 wC_at0 rfl rfl hl.1 rfl (Nat.le_of_ble_eq_true rfl) dX8_played_116 ⟨Nat.le_refl _, Nat.le_refl _⟩) hP hD hS hA (fun x_23 u_23 H locs hw_23 hP hD hS => ?_)
          subst x_23
          refine lv_istore (lv' := [(6, .int r_23), (5, .int r_17), (4, .int r_16), (0, .ref (q 0)), (2, .ref (q 32)), (3, .int x3)]) hx hb dX8_played_119 hl (by decide) rfl (fun ls hl => ?_)
          refine lv_goto (tgt := 146) hx hb dX8_played_121 (by decide) ?_
          exact hJ_146 h_23 x3 r_23 hF H _ ls hP hD hS (lv_sub hl [3, 4, 5, 0] rfl)
        have hF := ob_neg c_22 hF
        by_cases c_24 : r_18 = 22
        · have hF := ob_pos c_24 hF
          refine lv_tableIn (tgt := 124) (off := 62) hx hb dX8_played_62 (by rw [c_24]; decide) (by rw [c_24]; decide) (by rw [c_24]; decide) (by decide) ?_
          refine lv_aload_n hx hb dX8_played_124 rfl (lv_at hl 3 rfl) ?_
          refine lv_iload hx hb dX8_played_125 (lv_at hl 2 rfl) ?_
          obtain ⟨r_25, h_25, e_25, hF⟩ := ob2_some hF
          refine gx_calli (gx_runV (As := [.int r_16]) (rest := []) ⟨hx, hb, hml, hown, hts⟩ (c_X8_fatten l G cI cJ cZ cB cT q h_18 r_16 r_25 h_25 e_25 H.size) (gG_V m_827 m_828 m_829 m_60 m_826) rfl e_X8_fatten ⟨Nat.le_of_ble_eq_true rfl, Nat.le_of_ble_eq_true rfl⟩ hK hP hD hE hS hA 0 wC_at0 rfl rfl hl.1 rfl (Nat.le_of_ble_eq_true rfl) dX8_played_127 ⟨Nat.le_refl _, Nat.le_refl _⟩) hP hD hS hA (fun x_25 u_25 H locs hw_25 hP hD hS => ?_)
          subst x_25
          refine lv_istore (lv' := [(6, .int r_25), (5, .int r_17), (4, .int r_16), (0, .ref (q 0)), (2, .ref (q 32)), (3, .int x3)]) hx hb dX8_played_130 hl (by decide) rfl (fun ls hl => ?_)
          refine lv_goto (tgt := 146) hx hb dX8_played_132 (by decide) ?_
          exact hJ_146 h_25 x3 r_25 hF H _ ls hP hD hS (lv_sub hl [3, 4, 5, 0] rfl)
        have hF := ob_neg c_24 hF
        by_cases c_26 : r_18 = 23
        · have hF := ob_pos c_26 hF
          refine lv_tableIn (tgt := 135) (off := 73) hx hb dX8_played_62 (by rw [c_26]; decide) (by rw [c_26]; decide) (by rw [c_26]; decide) (by decide) ?_
          refine lv_aload_n hx hb dX8_played_135 rfl (lv_at hl 3 rfl) ?_
          refine lv_iload hx hb dX8_played_136 (lv_at hl 2 rfl) ?_
          obtain ⟨r_27, h_27, e_27, hF⟩ := ob2_some hF
          refine gx_calli (gx_runV (As := [.int r_16]) (rest := []) ⟨hx, hb, hml, hown, hts⟩ (c_X8_pass l G cI cJ cZ cB cT q h_18 r_16 r_27 h_27 e_27 H.size) (gG_V m_831 m_832 m_833 m_60 m_830) rfl e_X8_pass ⟨Nat.le_of_ble_eq_true rfl, Nat.le_of_ble_eq_true rfl⟩ hK hP hD hE hS hA 0 wC_at0 rfl rfl hl.1 rfl (Nat.le_of_ble_eq_true rfl) dX8_played_138 ⟨Nat.le_refl _, Nat.le_refl _⟩) hP hD hS hA (fun x_27 u_27 H locs hw_27 hP hD hS => ?_)
          subst x_27
          refine lv_istore (lv' := [(6, .int r_27), (5, .int r_17), (4, .int r_16), (0, .ref (q 0)), (2, .ref (q 32)), (3, .int x3)]) hx hb dX8_played_141 hl (by decide) rfl (fun ls hl => ?_)
          refine lv_goto (tgt := 146) hx hb dX8_played_143 (by decide) ?_
          exact hJ_146 h_27 x3 r_27 hF H _ ls hP hD hS (lv_sub hl [3, 4, 5, 0] rfl)
        have hF := ob_neg c_26 hF
        have hq : (r_18).toInt < 20 ∨ 23 < (r_18).toInt := by
          have e_c_19 := lv_neT (a := 20) c_19 (by decide)
          have e_c_22 := lv_neT (a := 21) c_22 (by decide)
          have e_c_24 := lv_neT (a := 22) c_24 (by decide)
          have e_c_26 := lv_neT (a := 23) c_26 (by decide)
          omega
        refine lv_tableOut (tgt := 146) hx hb dX8_played_62 hq (by decide) ?_
        exact hJ_146 h_18 x3 0 hF H _ ls hP hD hS (lv_sub hl [3, 4, 5, 0] rfl)
  have hJ_29b : ∀ (n_29b : Nat) (h : HS) (x3 : Int32), f_X8_played_29b n_29b h x3 = some (rr, hh) → ∀ (H : Heap) (locs : List Loc) (ls : Array Slot), va_P G vwCl (wC q cI cJ cZ cB cT h) H → va_D A (wC q cI cJ cZ cB cT h) → va_S A s.heap H locs → lv_has ls 7 [(0, .ref (q 0)), (2, .ref (q 37)), (3, .int x3)] → W p l e (gRm 7) s m args below meth c H locs 0 0 (MQ below (va_Qi (fun x (_ : Unit) => x = rr) (gB G (fun (_ : Unit) => (wC q cI cJ cZ cB cT hh)) A) A) args s 0 0 A) (F0 m 29 ls []) := by
    intro n_29b
    induction n_29b with
    | zero =>
      intro h x3 hF
      exact absurd hF (by simp [f_X8_played_29b])
    | succ n_29b ih_29b =>
      have hJ_146b : ∀ (h : HS) (x3 : Int32) (x6 : Int32), f_X8_played_146b (f_X8_played_29b n_29b) h x3 x6 = some (rr, hh) → ∀ (H : Heap) (locs : List Loc) (ls : Array Slot), va_P G vwCl (wC q cI cJ cZ cB cT h) H → va_D A (wC q cI cJ cZ cB cT h) → va_S A s.heap H locs → lv_has ls 7 [(0, .ref (q 0)), (2, .ref (q 37)), (3, .int x3), (6, .int x6)] → W p l e (gRm 7) s m args below meth c H locs 0 0 (MQ below (va_Qi (fun x (_ : Unit) => x = rr) (gB G (fun (_ : Unit) => (wC q cI cJ cZ cB cT hh)) A) A) args s 0 0 A) (F0 m 146 ls []) := by
        intro h x3 x6 hF H locs ls hP hD hS hl
        unfold f_X8_played_146b at hF
        refine lv_iload hx hb dX8_played_146 (lv_at hl 3 rfl) ?_
        refine lv_iconst (v := (-1)) hx hb dX8_played_148 (by decide) ?_
        refine lv_icmp_ne (tgt := 154) hx hb dX8_played_149 (by decide) (fun c_68 => ?_) (fun c_68 => ?_)
        · have hF := ob_neg c_68 hF
          refine lv_iinc (v := (x3 + 1)) (lv' := [(3, .int (x3 + 1)), (0, .ref (q 0)), (2, .ref (q 37)), (6, .int x6)]) hx hb dX8_played_154 hl (k := 2) rfl rfl (by decide) rfl (fun ls hl => ?_)
          refine lv_goto (tgt := 29) hx hb dX8_played_157 (by decide) ?_
          exact ih_29b h (x3 + 1) hF H _ ls hP hD hS (lv_sub hl [1, 2, 0] rfl)
        · have hF := ob_pos c_68 hF
          refine lv_iload_n hx hb dX8_played_152 rfl (lv_at hl 2 rfl) ?_
          obtain ⟨rfl, rfl⟩ := ob_pair hF
          exact gw_iret () hx hb hr hlocks hP hD hS rfl dX8_played_153
      intro h x3 hF H locs ls hP hD hS hl
      rw [f_X8_played_29b_s] at hF
      refine lv_iload_n hx hb dX8_played_29 rfl (lv_at hl 2 rfl) ?_
      refine lv_aload_n hx hb dX8_played_30 rfl (lv_at hl 1 rfl) ?_
      refine va_get (D := G) (ci := 6) (v := .int (eI h 10 1)) (C := RX6) (T := TX6) (N := 6) hx hb hts iX6 hown hK hP 37 wC_at37 rfl 1 (by decide) (hts _ m_813) (fun _ h9 => h9) rfl dX8_played_31 ?_
      refine lv_icmp_ge (tgt := 160) hx hb dX8_played_34 (by decide) (fun c_28 => ?_) (fun c_28 => ?_)
      · have hF := ob_pos c_28 hF
        refine lv_iconst (v := (-1)) hx hb dX8_played_160 (by decide) ?_
        obtain ⟨rfl, rfl⟩ := ob_pair hF
        exact gw_iret () hx hb hr hlocks hP hD hS rfl dX8_played_161
      · have hF := ob_neg c_28 hF
        refine lv_aload_n hx hb dX8_played_37 rfl (lv_at hl 1 rfl) ?_
        refine lv_iload_n hx hb dX8_played_38 rfl (lv_at hl 2 rfl) ?_
        refine lv_iconst (v := 1) hx hb dX8_played_39 (by decide) ?_
        obtain ⟨r_29, h_29, e_29, hF⟩ := ob2_some hF
        refine gx_calli (gx_runV (As := [.int x3, .int 1]) (rest := []) ⟨hx, hb, hml, hown, hts⟩ (c_X6_clauseField_1 l G cI cJ cZ cB cT q h x3 1 r_29 h_29 e_29 H.size) (gG_V m_815 m_816 m_817 m_563 m_814) rfl e_X6_clauseField ⟨Nat.le_of_ble_eq_true rfl, Nat.le_of_ble_eq_true rfl⟩ hK hP hD hE hS hA 37 wC_at37 rfl rfl hl.1 rfl (Nat.le_of_ble_eq_true rfl) dX8_played_40 ⟨Nat.le_refl _, Nat.le_refl _⟩) hP hD hS hA (fun x_29 u_29 H locs hw_29 hP hD hS => ?_)
        subst x_29
        refine lv_istore (lv' := [(4, .int r_29), (0, .ref (q 0)), (2, .ref (q 37)), (3, .int x3)]) hx hb dX8_played_43 hl (by decide) rfl (fun ls hl => ?_)
        refine lv_aload_n hx hb dX8_played_45 rfl (lv_at hl 2 rfl) ?_
        refine lv_iload_n hx hb dX8_played_46 rfl (lv_at hl 3 rfl) ?_
        refine lv_iconst (v := 2) hx hb dX8_played_47 (by decide) ?_
        obtain ⟨r_30, h_30, e_30, hF⟩ := ob2_some hF
        refine gx_calli (gx_runV (As := [.int x3, .int 2]) (rest := []) ⟨hx, hb, hml, hown, hts⟩ (c_X6_clauseField_1 l G cI cJ cZ cB cT q h_29 x3 2 r_30 h_30 e_30 H.size) (gG_V m_815 m_816 m_817 m_563 m_814) rfl e_X6_clauseField ⟨Nat.le_of_ble_eq_true rfl, Nat.le_of_ble_eq_true rfl⟩ hK hP hD hE hS hA 37 wC_at37 rfl rfl hl.1 rfl (Nat.le_of_ble_eq_true rfl) dX8_played_48 ⟨Nat.le_refl _, Nat.le_refl _⟩) hP hD hS hA (fun x_30 u_30 H locs hw_30 hP hD hS => ?_)
        subst x_30
        refine lv_istore (lv' := [(5, .int r_30), (4, .int r_29), (0, .ref (q 0)), (2, .ref (q 37)), (3, .int x3)]) hx hb dX8_played_51 hl (by decide) rfl (fun ls hl => ?_)
        refine lv_iconst (v := 0) hx hb dX8_played_53 (by decide) ?_
        refine lv_istore (lv' := [(6, .int 0), (5, .int r_30), (4, .int r_29), (0, .ref (q 0)), (2, .ref (q 37)), (3, .int x3)]) hx hb dX8_played_54 hl (by decide) rfl (fun ls hl => ?_)
        refine lv_aload_n hx hb dX8_played_56 rfl (lv_at hl 4 rfl) ?_
        refine lv_iload_n hx hb dX8_played_57 rfl (lv_at hl 5 rfl) ?_
        refine lv_iconst (v := 0) hx hb dX8_played_58 (by decide) ?_
        obtain ⟨r_31, h_31, e_31, hF⟩ := ob2_some hF
        refine gx_calli (gx_runV (As := [.int x3, .int 0]) (rest := []) ⟨hx, hb, hml, hown, hts⟩ (c_X6_clauseField_1 l G cI cJ cZ cB cT q h_30 x3 0 r_31 h_31 e_31 H.size) (gG_V m_815 m_816 m_817 m_563 m_814) rfl e_X6_clauseField ⟨Nat.le_of_ble_eq_true rfl, Nat.le_of_ble_eq_true rfl⟩ hK hP hD hE hS hA 37 wC_at37 rfl rfl hl.1 rfl (Nat.le_of_ble_eq_true rfl) dX8_played_59 ⟨Nat.le_refl _, Nat.le_refl _⟩) hP hD hS hA (fun x_31 u_31 H locs hw_31 hP hD hS => ?_)
        subst x_31
        by_cases c_32 : r_31 = 20
        · have hF := ob_pos c_32 hF
          refine lv_tableIn (tgt := 92) (off := 30) hx hb dX8_played_62 (by rw [c_32]; decide) (by rw [c_32]; decide) (by rw [c_32]; decide) (by decide) ?_
          refine lv_aload_n hx hb dX8_played_92 rfl (lv_at hl 3 rfl) ?_
          refine lv_iload hx hb dX8_played_93 (lv_at hl 2 rfl) ?_
          refine lv_iload hx hb dX8_played_95 (lv_at hl 1 rfl) ?_
          refine lv_aload_n hx hb dX8_played_97 rfl (lv_at hl 4 rfl) ?_
          refine lv_iload_n hx hb dX8_played_98 rfl (lv_at hl 5 rfl) ?_
          refine lv_iconst (v := 3) hx hb dX8_played_99 (by decide) ?_
          obtain ⟨r_33, h_33, e_33, hF⟩ := ob2_some hF
          refine gx_calli (gx_runV (As := [.int x3, .int 3]) (rest := [.int r_30, .int r_29, .ref (q 0)]) ⟨hx, hb, hml, hown, hts⟩ (c_X6_clauseField_1 l G cI cJ cZ cB cT q h_31 x3 3 r_33 h_33 e_33 H.size) (gG_V m_815 m_816 m_817 m_563 m_814) rfl e_X6_clauseField ⟨Nat.le_of_ble_eq_true rfl, Nat.le_of_ble_eq_true rfl⟩ hK hP hD hE hS hA 37 wC_at37 rfl rfl hl.1 rfl (Nat.le_of_ble_eq_true rfl) dX8_played_100 ⟨Nat.le_refl _, Nat.le_refl _⟩) hP hD hS hA (fun x_33 u_33 H locs hw_33 hP hD hS => ?_)
          subst x_33
          obtain ⟨r_34, h_34, e_34, hF⟩ := ob2_some hF
          refine gx_calli (gx_runV (As := [.int r_29, .int r_30, .int r_33]) (rest := []) ⟨hx, hb, hml, hown, hts⟩ (c_X8_fill l G cI cJ cZ cB cT q h_33 r_29 r_30 r_33 r_34 h_34 e_34 H.size) (gG_V m_819 m_820 m_821 m_60 m_818) rfl e_X8_fill ⟨Nat.le_of_ble_eq_true rfl, Nat.le_of_ble_eq_true rfl⟩ hK hP hD hE hS hA 0 wC_at0 rfl rfl hl.1 rfl (Nat.le_of_ble_eq_true rfl) dX8_played_103 ⟨Nat.le_refl _, Nat.le_refl _⟩) hP hD hS hA (fun x_34 u_34 H locs hw_34 hP hD hS => ?_)
          subst x_34
          refine lv_istore (lv' := [(6, .int r_34), (5, .int r_30), (4, .int r_29), (0, .ref (q 0)), (2, .ref (q 37)), (3, .int x3)]) hx hb dX8_played_106 hl (by decide) rfl (fun ls hl => ?_)
          refine lv_goto (tgt := 146) hx hb dX8_played_108 (by decide) ?_
          exact hJ_146b h_34 x3 r_34 hF H _ ls hP hD hS (lv_sub hl [3, 4, 5, 0] rfl)
        have hF := ob_neg c_32 hF
        by_cases c_35 : r_31 = 21
        · have hF := ob_pos c_35 hF
          refine lv_tableIn (tgt := 111) (off := 49) hx hb dX8_played_62 (by rw [c_35]; decide) (by rw [c_35]; decide) (by rw [c_35]; decide) (by decide) ?_
          refine lv_aload_n hx hb dX8_played_111 rfl (lv_at hl 3 rfl) ?_
          refine lv_iload hx hb dX8_played_112 (lv_at hl 2 rfl) ?_
          refine lv_iload hx hb dX8_played_114 (lv_at hl 1 rfl) ?_
          obtain ⟨r_36, h_36, e_36, hF⟩ := ob2_some hF
          refine gx_calli (gx_runV (As := [.int r_29, .int r_30]) (rest := []) ⟨hx, hb, hml, hown, hts⟩ (c_X8_send l G cI cJ cZ cB cT q h_31 r_29 r_30 r_36 h_36 e_36 H.size) (gG_V m_823 m_824 m_825 m_60 m_822) rfl e_X8_send ⟨Nat.le_of_ble_eq_true rfl, Nat.le_of_ble_eq_true rfl⟩ hK hP hD hE hS hA 0 wC_at0 rfl rfl hl.1 rfl (Nat.le_of_ble_eq_true rfl) dX8_played_116 ⟨Nat.le_refl _, Nat.le_refl _⟩) hP hD hS hA (fun x_36 u_36 H locs hw_36 hP hD hS => ?_)
          subst x_36
          refine lv_istore (lv' := [(6, .int r_36), (5, .int r_30), (4, .int r_29), (0, .ref (q 0)), (2, .ref (q 37)), (3, .int x3)]) hx hb dX8_played_119 hl (by decide) rfl (fun ls hl => ?_)
          refine lv_goto (tgt := 146) hx hb dX8_played_121 (by decide) ?_
          exact hJ_146b h_36 x3 r_36 hF H _ ls hP hD hS (lv_sub hl [3, 4, 5, 0] rfl)
        have hF := ob_neg c_35 hF
        by_cases c_37 : r_31 = 22
        · have hF := ob_pos c_37 hF
          refine lv_tableIn (tgt := 124) (off := 62) hx hb dX8_played_62 (by rw [c_37]; decide) (by rw [c_37]; decide) (by rw [c_37]; decide) (by decide) ?_
          refine lv_aload_n hx hb dX8_played_124 rfl (lv_at hl 3 rfl) ?_
          refine lv_iload hx hb dX8_played_125 (lv_at hl 2 rfl) ?_
          obtain ⟨r_38, h_38, e_38, hF⟩ := ob2_some hF
          refine gx_calli (gx_runV (As := [.int r_29]) (rest := []) ⟨hx, hb, hml, hown, hts⟩ (c_X8_fatten l G cI cJ cZ cB cT q h_31 r_29 r_38 h_38 e_38 H.size) (gG_V m_827 m_828 m_829 m_60 m_826) rfl e_X8_fatten ⟨Nat.le_of_ble_eq_true rfl, Nat.le_of_ble_eq_true rfl⟩ hK hP hD hE hS hA 0 wC_at0 rfl rfl hl.1 rfl (Nat.le_of_ble_eq_true rfl) dX8_played_127 ⟨Nat.le_refl _, Nat.le_refl _⟩) hP hD hS hA (fun x_38 u_38 H locs hw_38 hP hD hS => ?_)
          subst x_38
          refine lv_istore (lv' := [(6, .int r_38), (5, .int r_30), (4, .int r_29), (0, .ref (q 0)), (2, .ref (q 37)), (3, .int x3)]) hx hb dX8_played_130 hl (by decide) rfl (fun ls hl => ?_)
          refine lv_goto (tgt := 146) hx hb dX8_played_132 (by decide) ?_
          exact hJ_146b h_38 x3 r_38 hF H _ ls hP hD hS (lv_sub hl [3, 4, 5, 0] rfl)
        have hF := ob_neg c_37 hF
        by_cases c_39 : r_31 = 23
        · have hF := ob_pos c_39 hF
          refine lv_tableIn (tgt := 135) (off := 73) hx hb dX8_played_62 (by rw [c_39]; decide) (by rw [c_39]; decide) (by rw [c_39]; decide) (by decide) ?_
          refine lv_aload_n hx hb dX8_played_135 rfl (lv_at hl 3 rfl) ?_
          refine lv_iload hx hb dX8_played_136 (lv_at hl 2 rfl) ?_
          obtain ⟨r_40, h_40, e_40, hF⟩ := ob2_some hF
          refine gx_calli (gx_runV (As := [.int r_29]) (rest := []) ⟨hx, hb, hml, hown, hts⟩ (c_X8_pass l G cI cJ cZ cB cT q h_31 r_29 r_40 h_40 e_40 H.size) (gG_V m_831 m_832 m_833 m_60 m_830) rfl e_X8_pass ⟨Nat.le_of_ble_eq_true rfl, Nat.le_of_ble_eq_true rfl⟩ hK hP hD hE hS hA 0 wC_at0 rfl rfl hl.1 rfl (Nat.le_of_ble_eq_true rfl) dX8_played_138 ⟨Nat.le_refl _, Nat.le_refl _⟩) hP hD hS hA (fun x_40 u_40 H locs hw_40 hP hD hS => ?_)
          subst x_40
          refine lv_istore (lv' := [(6, .int r_40), (5, .int r_30), (4, .int r_29), (0, .ref (q 0)), (2, .ref (q 37)), (3, .int x3)]) hx hb dX8_played_141 hl (by decide) rfl (fun ls hl => ?_)
          refine lv_goto (tgt := 146) hx hb dX8_played_143 (by decide) ?_
          exact hJ_146b h_40 x3 r_40 hF H _ ls hP hD hS (lv_sub hl [3, 4, 5, 0] rfl)
        have hF := ob_neg c_39 hF
        have hq : (r_31).toInt < 20 ∨ 23 < (r_31).toInt := by
          have e_c_32 := lv_neT (a := 20) c_32 (by decide)
          have e_c_35 := lv_neT (a := 21) c_35 (by decide)
          have e_c_37 := lv_neT (a := 22) c_37 (by decide)
          have e_c_39 := lv_neT (a := 23) c_39 (by decide)
          omega
        refine lv_tableOut (tgt := 146) hx hb dX8_played_62 hq (by decide) ?_
        exact hJ_146b h_31 x3 0 hF H _ ls hP hD hS (lv_sub hl [3, 4, 5, 0] rfl)
  have hJ_29c : ∀ (n_29c : Nat) (h : HS) (x3 : Int32), f_X8_played_29c n_29c h x3 = some (rr, hh) → ∀ (H : Heap) (locs : List Loc) (ls : Array Slot), va_P G vwCl (wC q cI cJ cZ cB cT h) H → va_D A (wC q cI cJ cZ cB cT h) → va_S A s.heap H locs → lv_has ls 7 [(0, .ref (q 0)), (2, .ref (q 42)), (3, .int x3)] → W p l e (gRm 7) s m args below meth c H locs 0 0 (MQ below (va_Qi (fun x (_ : Unit) => x = rr) (gB G (fun (_ : Unit) => (wC q cI cJ cZ cB cT hh)) A) A) args s 0 0 A) (F0 m 29 ls []) := by
    intro n_29c
    induction n_29c with
    | zero =>
      intro h x3 hF
      exact absurd hF (by simp [f_X8_played_29c])
    | succ n_29c ih_29c =>
      have hJ_146c : ∀ (h : HS) (x3 : Int32) (x6 : Int32), f_X8_played_146c (f_X8_played_29c n_29c) h x3 x6 = some (rr, hh) → ∀ (H : Heap) (locs : List Loc) (ls : Array Slot), va_P G vwCl (wC q cI cJ cZ cB cT h) H → va_D A (wC q cI cJ cZ cB cT h) → va_S A s.heap H locs → lv_has ls 7 [(0, .ref (q 0)), (2, .ref (q 42)), (3, .int x3), (6, .int x6)] → W p l e (gRm 7) s m args below meth c H locs 0 0 (MQ below (va_Qi (fun x (_ : Unit) => x = rr) (gB G (fun (_ : Unit) => (wC q cI cJ cZ cB cT hh)) A) A) args s 0 0 A) (F0 m 146 ls []) := by
        intro h x3 x6 hF H locs ls hP hD hS hl
        unfold f_X8_played_146c at hF
        refine lv_iload hx hb dX8_played_146 (lv_at hl 3 rfl) ?_
        refine lv_iconst (v := (-1)) hx hb dX8_played_148 (by decide) ?_
        refine lv_icmp_ne (tgt := 154) hx hb dX8_played_149 (by decide) (fun c_69 => ?_) (fun c_69 => ?_)
        · have hF := ob_neg c_69 hF
          refine lv_iinc (v := (x3 + 1)) (lv' := [(3, .int (x3 + 1)), (0, .ref (q 0)), (2, .ref (q 42)), (6, .int x6)]) hx hb dX8_played_154 hl (k := 2) rfl rfl (by decide) rfl (fun ls hl => ?_)
          refine lv_goto (tgt := 29) hx hb dX8_played_157 (by decide) ?_
          exact ih_29c h (x3 + 1) hF H _ ls hP hD hS (lv_sub hl [1, 2, 0] rfl)
        · have hF := ob_pos c_69 hF
          refine lv_iload_n hx hb dX8_played_152 rfl (lv_at hl 2 rfl) ?_
          obtain ⟨rfl, rfl⟩ := ob_pair hF
          exact gw_iret () hx hb hr hlocks hP hD hS rfl dX8_played_153
      intro h x3 hF H locs ls hP hD hS hl
      rw [f_X8_played_29c_s] at hF
      refine lv_iload_n hx hb dX8_played_29 rfl (lv_at hl 2 rfl) ?_
      refine lv_aload_n hx hb dX8_played_30 rfl (lv_at hl 1 rfl) ?_
      refine va_get (D := G) (ci := 6) (v := .int (eI h 11 1)) (C := RX6) (T := TX6) (N := 6) hx hb hts iX6 hown hK hP 42 wC_at42 rfl 1 (by decide) (hts _ m_813) (fun _ h9 => h9) rfl dX8_played_31 ?_
      refine lv_icmp_ge (tgt := 160) hx hb dX8_played_34 (by decide) (fun c_41 => ?_) (fun c_41 => ?_)
      · have hF := ob_pos c_41 hF
        refine lv_iconst (v := (-1)) hx hb dX8_played_160 (by decide) ?_
        obtain ⟨rfl, rfl⟩ := ob_pair hF
        exact gw_iret () hx hb hr hlocks hP hD hS rfl dX8_played_161
      · have hF := ob_neg c_41 hF
        refine lv_aload_n hx hb dX8_played_37 rfl (lv_at hl 1 rfl) ?_
        refine lv_iload_n hx hb dX8_played_38 rfl (lv_at hl 2 rfl) ?_
        refine lv_iconst (v := 1) hx hb dX8_played_39 (by decide) ?_
        obtain ⟨r_42, h_42, e_42, hF⟩ := ob2_some hF
        refine gx_calli (gx_runV (As := [.int x3, .int 1]) (rest := []) ⟨hx, hb, hml, hown, hts⟩ (c_X6_clauseField_2 l G cI cJ cZ cB cT q h x3 1 r_42 h_42 e_42 H.size) (gG_V m_815 m_816 m_817 m_563 m_814) rfl e_X6_clauseField ⟨Nat.le_of_ble_eq_true rfl, Nat.le_of_ble_eq_true rfl⟩ hK hP hD hE hS hA 42 wC_at42 rfl rfl hl.1 rfl (Nat.le_of_ble_eq_true rfl) dX8_played_40 ⟨Nat.le_refl _, Nat.le_refl _⟩) hP hD hS hA (fun x_42 u_42 H locs hw_42 hP hD hS => ?_)
        subst x_42
        refine lv_istore (lv' := [(4, .int r_42), (0, .ref (q 0)), (2, .ref (q 42)), (3, .int x3)]) hx hb dX8_played_43 hl (by decide) rfl (fun ls hl => ?_)
        refine lv_aload_n hx hb dX8_played_45 rfl (lv_at hl 2 rfl) ?_
        refine lv_iload_n hx hb dX8_played_46 rfl (lv_at hl 3 rfl) ?_
        refine lv_iconst (v := 2) hx hb dX8_played_47 (by decide) ?_
        obtain ⟨r_43, h_43, e_43, hF⟩ := ob2_some hF
        refine gx_calli (gx_runV (As := [.int x3, .int 2]) (rest := []) ⟨hx, hb, hml, hown, hts⟩ (c_X6_clauseField_2 l G cI cJ cZ cB cT q h_42 x3 2 r_43 h_43 e_43 H.size) (gG_V m_815 m_816 m_817 m_563 m_814) rfl e_X6_clauseField ⟨Nat.le_of_ble_eq_true rfl, Nat.le_of_ble_eq_true rfl⟩ hK hP hD hE hS hA 42 wC_at42 rfl rfl hl.1 rfl (Nat.le_of_ble_eq_true rfl) dX8_played_48 ⟨Nat.le_refl _, Nat.le_refl _⟩) hP hD hS hA (fun x_43 u_43 H locs hw_43 hP hD hS => ?_)
        subst x_43
        refine lv_istore (lv' := [(5, .int r_43), (4, .int r_42), (0, .ref (q 0)), (2, .ref (q 42)), (3, .int x3)]) hx hb dX8_played_51 hl (by decide) rfl (fun ls hl => ?_)
        refine lv_iconst (v := 0) hx hb dX8_played_53 (by decide) ?_
        refine lv_istore (lv' := [(6, .int 0), (5, .int r_43), (4, .int r_42), (0, .ref (q 0)), (2, .ref (q 42)), (3, .int x3)]) hx hb dX8_played_54 hl (by decide) rfl (fun ls hl => ?_)
        refine lv_aload_n hx hb dX8_played_56 rfl (lv_at hl 4 rfl) ?_
        refine lv_iload_n hx hb dX8_played_57 rfl (lv_at hl 5 rfl) ?_
        refine lv_iconst (v := 0) hx hb dX8_played_58 (by decide) ?_
        obtain ⟨r_44, h_44, e_44, hF⟩ := ob2_some hF
        refine gx_calli (gx_runV (As := [.int x3, .int 0]) (rest := []) ⟨hx, hb, hml, hown, hts⟩ (c_X6_clauseField_2 l G cI cJ cZ cB cT q h_43 x3 0 r_44 h_44 e_44 H.size) (gG_V m_815 m_816 m_817 m_563 m_814) rfl e_X6_clauseField ⟨Nat.le_of_ble_eq_true rfl, Nat.le_of_ble_eq_true rfl⟩ hK hP hD hE hS hA 42 wC_at42 rfl rfl hl.1 rfl (Nat.le_of_ble_eq_true rfl) dX8_played_59 ⟨Nat.le_refl _, Nat.le_refl _⟩) hP hD hS hA (fun x_44 u_44 H locs hw_44 hP hD hS => ?_)
        subst x_44
        by_cases c_45 : r_44 = 20
        · have hF := ob_pos c_45 hF
          refine lv_tableIn (tgt := 92) (off := 30) hx hb dX8_played_62 (by rw [c_45]; decide) (by rw [c_45]; decide) (by rw [c_45]; decide) (by decide) ?_
          refine lv_aload_n hx hb dX8_played_92 rfl (lv_at hl 3 rfl) ?_
          refine lv_iload hx hb dX8_played_93 (lv_at hl 2 rfl) ?_
          refine lv_iload hx hb dX8_played_95 (lv_at hl 1 rfl) ?_
          refine lv_aload_n hx hb dX8_played_97 rfl (lv_at hl 4 rfl) ?_
          refine lv_iload_n hx hb dX8_played_98 rfl (lv_at hl 5 rfl) ?_
          refine lv_iconst (v := 3) hx hb dX8_played_99 (by decide) ?_
          obtain ⟨r_46, h_46, e_46, hF⟩ := ob2_some hF
          refine gx_calli (gx_runV (As := [.int x3, .int 3]) (rest := [.int r_43, .int r_42, .ref (q 0)]) ⟨hx, hb, hml, hown, hts⟩ (c_X6_clauseField_2 l G cI cJ cZ cB cT q h_44 x3 3 r_46 h_46 e_46 H.size) (gG_V m_815 m_816 m_817 m_563 m_814) rfl e_X6_clauseField ⟨Nat.le_of_ble_eq_true rfl, Nat.le_of_ble_eq_true rfl⟩ hK hP hD hE hS hA 42 wC_at42 rfl rfl hl.1 rfl (Nat.le_of_ble_eq_true rfl) dX8_played_100 ⟨Nat.le_refl _, Nat.le_refl _⟩) hP hD hS hA (fun x_46 u_46 H locs hw_46 hP hD hS => ?_)
          subst x_46
          obtain ⟨r_47, h_47, e_47, hF⟩ := ob2_some hF
          refine gx_calli (gx_runV (As := [.int r_42, .int r_43, .int r_46]) (rest := []) ⟨hx, hb, hml, hown, hts⟩ (c_X8_fill l G cI cJ cZ cB cT q h_46 r_42 r_43 r_46 r_47 h_47 e_47 H.size) (gG_V m_819 m_820 m_821 m_60 m_818) rfl e_X8_fill ⟨Nat.le_of_ble_eq_true rfl, Nat.le_of_ble_eq_true rfl⟩ hK hP hD hE hS hA 0 wC_at0 rfl rfl hl.1 rfl (Nat.le_of_ble_eq_true rfl) dX8_played_103 ⟨Nat.le_refl _, Nat.le_refl _⟩) hP hD hS hA (fun x_47 u_47 H locs hw_47 hP hD hS => ?_)
          subst x_47
          refine lv_istore (lv' := [(6, .int r_47), (5, .int r_43), (4, .int r_42), (0, .ref (q 0)), (2, .ref (q 42)), (3, .int x3)]) hx hb dX8_played_106 hl (by decide) rfl (fun ls hl => ?_)
          refine lv_goto (tgt := 146) hx hb dX8_played_108 (by decide) ?_
          exact hJ_146c h_47 x3 r_47 hF H _ ls hP hD hS (lv_sub hl [3, 4, 5, 0] rfl)
        have hF := ob_neg c_45 hF
        by_cases c_48 : r_44 = 21
        · have hF := ob_pos c_48 hF
          refine lv_tableIn (tgt := 111) (off := 49) hx hb dX8_played_62 (by rw [c_48]; decide) (by rw [c_48]; decide) (by rw [c_48]; decide) (by decide) ?_
          refine lv_aload_n hx hb dX8_played_111 rfl (lv_at hl 3 rfl) ?_
          refine lv_iload hx hb dX8_played_112 (lv_at hl 2 rfl) ?_
          refine lv_iload hx hb dX8_played_114 (lv_at hl 1 rfl) ?_
          obtain ⟨r_49, h_49, e_49, hF⟩ := ob2_some hF
          refine gx_calli (gx_runV (As := [.int r_42, .int r_43]) (rest := []) ⟨hx, hb, hml, hown, hts⟩ (c_X8_send l G cI cJ cZ cB cT q h_44 r_42 r_43 r_49 h_49 e_49 H.size) (gG_V m_823 m_824 m_825 m_60 m_822) rfl e_X8_send ⟨Nat.le_of_ble_eq_true rfl, Nat.le_of_ble_eq_true rfl⟩ hK hP hD hE hS hA 0 wC_at0 rfl rfl hl.1 rfl (Nat.le_of_ble_eq_true rfl) dX8_played_116 ⟨Nat.le_refl _, Nat.le_refl _⟩) hP hD hS hA (fun x_49 u_49 H locs hw_49 hP hD hS => ?_)
          subst x_49
          refine lv_istore (lv' := [(6, .int r_49), (5, .int r_43), (4, .int r_42), (0, .ref (q 0)), (2, .ref (q 42)), (3, .int x3)]) hx hb dX8_played_119 hl (by decide) rfl (fun ls hl => ?_)
          refine lv_goto (tgt := 146) hx hb dX8_played_121 (by decide) ?_
          exact hJ_146c h_49 x3 r_49 hF H _ ls hP hD hS (lv_sub hl [3, 4, 5, 0] rfl)
        have hF := ob_neg c_48 hF
        by_cases c_50 : r_44 = 22
        · have hF := ob_pos c_50 hF
          refine lv_tableIn (tgt := 124) (off := 62) hx hb dX8_played_62 (by rw [c_50]; decide) (by rw [c_50]; decide) (by rw [c_50]; decide) (by decide) ?_
          refine lv_aload_n hx hb dX8_played_124 rfl (lv_at hl 3 rfl) ?_
          refine lv_iload hx hb dX8_played_125 (lv_at hl 2 rfl) ?_
          obtain ⟨r_51, h_51, e_51, hF⟩ := ob2_some hF
          refine gx_calli (gx_runV (As := [.int r_42]) (rest := []) ⟨hx, hb, hml, hown, hts⟩ (c_X8_fatten l G cI cJ cZ cB cT q h_44 r_42 r_51 h_51 e_51 H.size) (gG_V m_827 m_828 m_829 m_60 m_826) rfl e_X8_fatten ⟨Nat.le_of_ble_eq_true rfl, Nat.le_of_ble_eq_true rfl⟩ hK hP hD hE hS hA 0 wC_at0 rfl rfl hl.1 rfl (Nat.le_of_ble_eq_true rfl) dX8_played_127 ⟨Nat.le_refl _, Nat.le_refl _⟩) hP hD hS hA (fun x_51 u_51 H locs hw_51 hP hD hS => ?_)
          subst x_51
          refine lv_istore (lv' := [(6, .int r_51), (5, .int r_43), (4, .int r_42), (0, .ref (q 0)), (2, .ref (q 42)), (3, .int x3)]) hx hb dX8_played_130 hl (by decide) rfl (fun ls hl => ?_)
          refine lv_goto (tgt := 146) hx hb dX8_played_132 (by decide) ?_
          exact hJ_146c h_51 x3 r_51 hF H _ ls hP hD hS (lv_sub hl [3, 4, 5, 0] rfl)
        have hF := ob_neg c_50 hF
        by_cases c_52 : r_44 = 23
        · have hF := ob_pos c_52 hF
          refine lv_tableIn (tgt := 135) (off := 73) hx hb dX8_played_62 (by rw [c_52]; decide) (by rw [c_52]; decide) (by rw [c_52]; decide) (by decide) ?_
          refine lv_aload_n hx hb dX8_played_135 rfl (lv_at hl 3 rfl) ?_
          refine lv_iload hx hb dX8_played_136 (lv_at hl 2 rfl) ?_
          obtain ⟨r_53, h_53, e_53, hF⟩ := ob2_some hF
          refine gx_calli (gx_runV (As := [.int r_42]) (rest := []) ⟨hx, hb, hml, hown, hts⟩ (c_X8_pass l G cI cJ cZ cB cT q h_44 r_42 r_53 h_53 e_53 H.size) (gG_V m_831 m_832 m_833 m_60 m_830) rfl e_X8_pass ⟨Nat.le_of_ble_eq_true rfl, Nat.le_of_ble_eq_true rfl⟩ hK hP hD hE hS hA 0 wC_at0 rfl rfl hl.1 rfl (Nat.le_of_ble_eq_true rfl) dX8_played_138 ⟨Nat.le_refl _, Nat.le_refl _⟩) hP hD hS hA (fun x_53 u_53 H locs hw_53 hP hD hS => ?_)
          subst x_53
          refine lv_istore (lv' := [(6, .int r_53), (5, .int r_43), (4, .int r_42), (0, .ref (q 0)), (2, .ref (q 42)), (3, .int x3)]) hx hb dX8_played_141 hl (by decide) rfl (fun ls hl => ?_)
          refine lv_goto (tgt := 146) hx hb dX8_played_143 (by decide) ?_
          exact hJ_146c h_53 x3 r_53 hF H _ ls hP hD hS (lv_sub hl [3, 4, 5, 0] rfl)
        have hF := ob_neg c_52 hF
        have hq : (r_44).toInt < 20 ∨ 23 < (r_44).toInt := by
          have e_c_45 := lv_neT (a := 20) c_45 (by decide)
          have e_c_48 := lv_neT (a := 21) c_48 (by decide)
          have e_c_50 := lv_neT (a := 22) c_50 (by decide)
          have e_c_52 := lv_neT (a := 23) c_52 (by decide)
          omega
        refine lv_tableOut (tgt := 146) hx hb dX8_played_62 hq (by decide) ?_
        exact hJ_146c h_44 x3 0 hF H _ ls hP hD hS (lv_sub hl [3, 4, 5, 0] rfl)
  have hJ_29d : ∀ (n_29d : Nat) (h : HS) (x3 : Int32), f_X8_played_29d n_29d h x3 = some (rr, hh) → ∀ (H : Heap) (locs : List Loc) (ls : Array Slot), va_P G vwCl (wC q cI cJ cZ cB cT h) H → va_D A (wC q cI cJ cZ cB cT h) → va_S A s.heap H locs → lv_has ls 7 [(0, .ref (q 0)), (2, .ref (q 47)), (3, .int x3)] → W p l e (gRm 7) s m args below meth c H locs 0 0 (MQ below (va_Qi (fun x (_ : Unit) => x = rr) (gB G (fun (_ : Unit) => (wC q cI cJ cZ cB cT hh)) A) A) args s 0 0 A) (F0 m 29 ls []) := by
    intro n_29d
    induction n_29d with
    | zero =>
      intro h x3 hF
      exact absurd hF (by simp [f_X8_played_29d])
    | succ n_29d ih_29d =>
      have hJ_146d : ∀ (h : HS) (x3 : Int32) (x6 : Int32), f_X8_played_146d (f_X8_played_29d n_29d) h x3 x6 = some (rr, hh) → ∀ (H : Heap) (locs : List Loc) (ls : Array Slot), va_P G vwCl (wC q cI cJ cZ cB cT h) H → va_D A (wC q cI cJ cZ cB cT h) → va_S A s.heap H locs → lv_has ls 7 [(0, .ref (q 0)), (2, .ref (q 47)), (3, .int x3), (6, .int x6)] → W p l e (gRm 7) s m args below meth c H locs 0 0 (MQ below (va_Qi (fun x (_ : Unit) => x = rr) (gB G (fun (_ : Unit) => (wC q cI cJ cZ cB cT hh)) A) A) args s 0 0 A) (F0 m 146 ls []) := by
        intro h x3 x6 hF H locs ls hP hD hS hl
        unfold f_X8_played_146d at hF
        refine lv_iload hx hb dX8_played_146 (lv_at hl 3 rfl) ?_
        refine lv_iconst (v := (-1)) hx hb dX8_played_148 (by decide) ?_
        refine lv_icmp_ne (tgt := 154) hx hb dX8_played_149 (by decide) (fun c_70 => ?_) (fun c_70 => ?_)
        · have hF := ob_neg c_70 hF
          refine lv_iinc (v := (x3 + 1)) (lv' := [(3, .int (x3 + 1)), (0, .ref (q 0)), (2, .ref (q 47)), (6, .int x6)]) hx hb dX8_played_154 hl (k := 2) rfl rfl (by decide) rfl (fun ls hl => ?_)
          refine lv_goto (tgt := 29) hx hb dX8_played_157 (by decide) ?_
          exact ih_29d h (x3 + 1) hF H _ ls hP hD hS (lv_sub hl [1, 2, 0] rfl)
        · have hF := ob_pos c_70 hF
          refine lv_iload_n hx hb dX8_played_152 rfl (lv_at hl 2 rfl) ?_
          obtain ⟨rfl, rfl⟩ := ob_pair hF
          exact gw_iret () hx hb hr hlocks hP hD hS rfl dX8_played_153
      intro h x3 hF H locs ls hP hD hS hl
      rw [f_X8_played_29d_s] at hF
      refine lv_iload_n hx hb dX8_played_29 rfl (lv_at hl 2 rfl) ?_
      refine lv_aload_n hx hb dX8_played_30 rfl (lv_at hl 1 rfl) ?_
      refine va_get (D := G) (ci := 6) (v := .int (eI h 12 1)) (C := RX6) (T := TX6) (N := 6) hx hb hts iX6 hown hK hP 47 wC_at47 rfl 1 (by decide) (hts _ m_813) (fun _ h9 => h9) rfl dX8_played_31 ?_
      refine lv_icmp_ge (tgt := 160) hx hb dX8_played_34 (by decide) (fun c_54 => ?_) (fun c_54 => ?_)
      · have hF := ob_pos c_54 hF
        refine lv_iconst (v := (-1)) hx hb dX8_played_160 (by decide) ?_
        obtain ⟨rfl, rfl⟩ := ob_pair hF
        exact gw_iret () hx hb hr hlocks hP hD hS rfl dX8_played_161
      · have hF := ob_neg c_54 hF
        refine lv_aload_n hx hb dX8_played_37 rfl (lv_at hl 1 rfl) ?_
        refine lv_iload_n hx hb dX8_played_38 rfl (lv_at hl 2 rfl) ?_
        refine lv_iconst (v := 1) hx hb dX8_played_39 (by decide) ?_
        obtain ⟨r_55, h_55, e_55, hF⟩ := ob2_some hF
        refine gx_calli (gx_runV (As := [.int x3, .int 1]) (rest := []) ⟨hx, hb, hml, hown, hts⟩ (c_X6_clauseField_3 l G cI cJ cZ cB cT q h x3 1 r_55 h_55 e_55 H.size) (gG_V m_815 m_816 m_817 m_563 m_814) rfl e_X6_clauseField ⟨Nat.le_of_ble_eq_true rfl, Nat.le_of_ble_eq_true rfl⟩ hK hP hD hE hS hA 47 wC_at47 rfl rfl hl.1 rfl (Nat.le_of_ble_eq_true rfl) dX8_played_40 ⟨Nat.le_refl _, Nat.le_refl _⟩) hP hD hS hA (fun x_55 u_55 H locs hw_55 hP hD hS => ?_)
        subst x_55
        refine lv_istore (lv' := [(4, .int r_55), (0, .ref (q 0)), (2, .ref (q 47)), (3, .int x3)]) hx hb dX8_played_43 hl (by decide) rfl (fun ls hl => ?_)
        refine lv_aload_n hx hb dX8_played_45 rfl (lv_at hl 2 rfl) ?_
        refine lv_iload_n hx hb dX8_played_46 rfl (lv_at hl 3 rfl) ?_
        refine lv_iconst (v := 2) hx hb dX8_played_47 (by decide) ?_
        obtain ⟨r_56, h_56, e_56, hF⟩ := ob2_some hF
        refine gx_calli (gx_runV (As := [.int x3, .int 2]) (rest := []) ⟨hx, hb, hml, hown, hts⟩ (c_X6_clauseField_3 l G cI cJ cZ cB cT q h_55 x3 2 r_56 h_56 e_56 H.size) (gG_V m_815 m_816 m_817 m_563 m_814) rfl e_X6_clauseField ⟨Nat.le_of_ble_eq_true rfl, Nat.le_of_ble_eq_true rfl⟩ hK hP hD hE hS hA 47 wC_at47 rfl rfl hl.1 rfl (Nat.le_of_ble_eq_true rfl) dX8_played_48 ⟨Nat.le_refl _, Nat.le_refl _⟩) hP hD hS hA (fun x_56 u_56 H locs hw_56 hP hD hS => ?_)
        subst x_56
        refine lv_istore (lv' := [(5, .int r_56), (4, .int r_55), (0, .ref (q 0)), (2, .ref (q 47)), (3, .int x3)]) hx hb dX8_played_51 hl (by decide) rfl (fun ls hl => ?_)
        refine lv_iconst (v := 0) hx hb dX8_played_53 (by decide) ?_
        refine lv_istore (lv' := [(6, .int 0), (5, .int r_56), (4, .int r_55), (0, .ref (q 0)), (2, .ref (q 47)), (3, .int x3)]) hx hb dX8_played_54 hl (by decide) rfl (fun ls hl => ?_)
        refine lv_aload_n hx hb dX8_played_56 rfl (lv_at hl 4 rfl) ?_
        refine lv_iload_n hx hb dX8_played_57 rfl (lv_at hl 5 rfl) ?_
        refine lv_iconst (v := 0) hx hb dX8_played_58 (by decide) ?_
        obtain ⟨r_57, h_57, e_57, hF⟩ := ob2_some hF
        refine gx_calli (gx_runV (As := [.int x3, .int 0]) (rest := []) ⟨hx, hb, hml, hown, hts⟩ (c_X6_clauseField_3 l G cI cJ cZ cB cT q h_56 x3 0 r_57 h_57 e_57 H.size) (gG_V m_815 m_816 m_817 m_563 m_814) rfl e_X6_clauseField ⟨Nat.le_of_ble_eq_true rfl, Nat.le_of_ble_eq_true rfl⟩ hK hP hD hE hS hA 47 wC_at47 rfl rfl hl.1 rfl (Nat.le_of_ble_eq_true rfl) dX8_played_59 ⟨Nat.le_refl _, Nat.le_refl _⟩) hP hD hS hA (fun x_57 u_57 H locs hw_57 hP hD hS => ?_)
        subst x_57
        by_cases c_58 : r_57 = 20
        · have hF := ob_pos c_58 hF
          refine lv_tableIn (tgt := 92) (off := 30) hx hb dX8_played_62 (by rw [c_58]; decide) (by rw [c_58]; decide) (by rw [c_58]; decide) (by decide) ?_
          refine lv_aload_n hx hb dX8_played_92 rfl (lv_at hl 3 rfl) ?_
          refine lv_iload hx hb dX8_played_93 (lv_at hl 2 rfl) ?_
          refine lv_iload hx hb dX8_played_95 (lv_at hl 1 rfl) ?_
          refine lv_aload_n hx hb dX8_played_97 rfl (lv_at hl 4 rfl) ?_
          refine lv_iload_n hx hb dX8_played_98 rfl (lv_at hl 5 rfl) ?_
          refine lv_iconst (v := 3) hx hb dX8_played_99 (by decide) ?_
          obtain ⟨r_59, h_59, e_59, hF⟩ := ob2_some hF
          refine gx_calli (gx_runV (As := [.int x3, .int 3]) (rest := [.int r_56, .int r_55, .ref (q 0)]) ⟨hx, hb, hml, hown, hts⟩ (c_X6_clauseField_3 l G cI cJ cZ cB cT q h_57 x3 3 r_59 h_59 e_59 H.size) (gG_V m_815 m_816 m_817 m_563 m_814) rfl e_X6_clauseField ⟨Nat.le_of_ble_eq_true rfl, Nat.le_of_ble_eq_true rfl⟩ hK hP hD hE hS hA 47 wC_at47 rfl rfl hl.1 rfl (Nat.le_of_ble_eq_true rfl) dX8_played_100 ⟨Nat.le_refl _, Nat.le_refl _⟩) hP hD hS hA (fun x_59 u_59 H locs hw_59 hP hD hS => ?_)
          subst x_59
          obtain ⟨r_60, h_60, e_60, hF⟩ := ob2_some hF
          refine gx_calli (gx_runV (As := [.int r_55, .int r_56, .int r_59]) (rest := []) ⟨hx, hb, hml, hown, hts⟩ (c_X8_fill l G cI cJ cZ cB cT q h_59 r_55 r_56 r_59 r_60 h_60 e_60 H.size) (gG_V m_819 m_820 m_821 m_60 m_818) rfl e_X8_fill ⟨Nat.le_of_ble_eq_true rfl, Nat.le_of_ble_eq_true rfl⟩ hK hP hD hE hS hA 0 wC_at0 rfl rfl hl.1 rfl (Nat.le_of_ble_eq_true rfl) dX8_played_103 ⟨Nat.le_refl _, Nat.le_refl _⟩) hP hD hS hA (fun x_60 u_60 H locs hw_60 hP hD hS => ?_)
          subst x_60
          refine lv_istore (lv' := [(6, .int r_60), (5, .int r_56), (4, .int r_55), (0, .ref (q 0)), (2, .ref (q 47)), (3, .int x3)]) hx hb dX8_played_106 hl (by decide) rfl (fun ls hl => ?_)
          refine lv_goto (tgt := 146) hx hb dX8_played_108 (by decide) ?_
          exact hJ_146d h_60 x3 r_60 hF H _ ls hP hD hS (lv_sub hl [3, 4, 5, 0] rfl)
        have hF := ob_neg c_58 hF
        by_cases c_61 : r_57 = 21
        · have hF := ob_pos c_61 hF
          refine lv_tableIn (tgt := 111) (off := 49) hx hb dX8_played_62 (by rw [c_61]; decide) (by rw [c_61]; decide) (by rw [c_61]; decide) (by decide) ?_
          refine lv_aload_n hx hb dX8_played_111 rfl (lv_at hl 3 rfl) ?_
          refine lv_iload hx hb dX8_played_112 (lv_at hl 2 rfl) ?_
          refine lv_iload hx hb dX8_played_114 (lv_at hl 1 rfl) ?_
          obtain ⟨r_62, h_62, e_62, hF⟩ := ob2_some hF
          refine gx_calli (gx_runV (As := [.int r_55, .int r_56]) (rest := []) ⟨hx, hb, hml, hown, hts⟩ (c_X8_send l G cI cJ cZ cB cT q h_57 r_55 r_56 r_62 h_62 e_62 H.size) (gG_V m_823 m_824 m_825 m_60 m_822) rfl e_X8_send ⟨Nat.le_of_ble_eq_true rfl, Nat.le_of_ble_eq_true rfl⟩ hK hP hD hE hS hA 0 wC_at0 rfl rfl hl.1 rfl (Nat.le_of_ble_eq_true rfl) dX8_played_116 ⟨Nat.le_refl _, Nat.le_refl _⟩) hP hD hS hA (fun x_62 u_62 H locs hw_62 hP hD hS => ?_)
          subst x_62
          refine lv_istore (lv' := [(6, .int r_62), (5, .int r_56), (4, .int r_55), (0, .ref (q 0)), (2, .ref (q 47)), (3, .int x3)]) hx hb dX8_played_119 hl (by decide) rfl (fun ls hl => ?_)
          refine lv_goto (tgt := 146) hx hb dX8_played_121 (by decide) ?_
          exact hJ_146d h_62 x3 r_62 hF H _ ls hP hD hS (lv_sub hl [3, 4, 5, 0] rfl)
        have hF := ob_neg c_61 hF
        by_cases c_63 : r_57 = 22
        · have hF := ob_pos c_63 hF
          refine lv_tableIn (tgt := 124) (off := 62) hx hb dX8_played_62 (by rw [c_63]; decide) (by rw [c_63]; decide) (by rw [c_63]; decide) (by decide) ?_
          refine lv_aload_n hx hb dX8_played_124 rfl (lv_at hl 3 rfl) ?_
          refine lv_iload hx hb dX8_played_125 (lv_at hl 2 rfl) ?_
          obtain ⟨r_64, h_64, e_64, hF⟩ := ob2_some hF
          refine gx_calli (gx_runV (As := [.int r_55]) (rest := []) ⟨hx, hb, hml, hown, hts⟩ (c_X8_fatten l G cI cJ cZ cB cT q h_57 r_55 r_64 h_64 e_64 H.size) (gG_V m_827 m_828 m_829 m_60 m_826) rfl e_X8_fatten ⟨Nat.le_of_ble_eq_true rfl, Nat.le_of_ble_eq_true rfl⟩ hK hP hD hE hS hA 0 wC_at0 rfl rfl hl.1 rfl (Nat.le_of_ble_eq_true rfl) dX8_played_127 ⟨Nat.le_refl _, Nat.le_refl _⟩) hP hD hS hA (fun x_64 u_64 H locs hw_64 hP hD hS => ?_)
          subst x_64
          refine lv_istore (lv' := [(6, .int r_64), (5, .int r_56), (4, .int r_55), (0, .ref (q 0)), (2, .ref (q 47)), (3, .int x3)]) hx hb dX8_played_130 hl (by decide) rfl (fun ls hl => ?_)
          refine lv_goto (tgt := 146) hx hb dX8_played_132 (by decide) ?_
          exact hJ_146d h_64 x3 r_64 hF H _ ls hP hD hS (lv_sub hl [3, 4, 5, 0] rfl)
        have hF := ob_neg c_63 hF
        by_cases c_65 : r_57 = 23
        · have hF := ob_pos c_65 hF
          refine lv_tableIn (tgt := 135) (off := 73) hx hb dX8_played_62 (by rw [c_65]; decide) (by rw [c_65]; decide) (by rw [c_65]; decide) (by decide) ?_
          refine lv_aload_n hx hb dX8_played_135 rfl (lv_at hl 3 rfl) ?_
          refine lv_iload hx hb dX8_played_136 (lv_at hl 2 rfl) ?_
          obtain ⟨r_66, h_66, e_66, hF⟩ := ob2_some hF
          refine gx_calli (gx_runV (As := [.int r_55]) (rest := []) ⟨hx, hb, hml, hown, hts⟩ (c_X8_pass l G cI cJ cZ cB cT q h_57 r_55 r_66 h_66 e_66 H.size) (gG_V m_831 m_832 m_833 m_60 m_830) rfl e_X8_pass ⟨Nat.le_of_ble_eq_true rfl, Nat.le_of_ble_eq_true rfl⟩ hK hP hD hE hS hA 0 wC_at0 rfl rfl hl.1 rfl (Nat.le_of_ble_eq_true rfl) dX8_played_138 ⟨Nat.le_refl _, Nat.le_refl _⟩) hP hD hS hA (fun x_66 u_66 H locs hw_66 hP hD hS => ?_)
          subst x_66
          refine lv_istore (lv' := [(6, .int r_66), (5, .int r_56), (4, .int r_55), (0, .ref (q 0)), (2, .ref (q 47)), (3, .int x3)]) hx hb dX8_played_141 hl (by decide) rfl (fun ls hl => ?_)
          refine lv_goto (tgt := 146) hx hb dX8_played_143 (by decide) ?_
          exact hJ_146d h_66 x3 r_66 hF H _ ls hP hD hS (lv_sub hl [3, 4, 5, 0] rfl)
        have hF := ob_neg c_65 hF
        have hq : (r_57).toInt < 20 ∨ 23 < (r_57).toInt := by
          have e_c_58 := lv_neT (a := 20) c_58 (by decide)
          have e_c_61 := lv_neT (a := 21) c_61 (by decide)
          have e_c_63 := lv_neT (a := 22) c_63 (by decide)
          have e_c_65 := lv_neT (a := 23) c_65 (by decide)
          omega
        refine lv_tableOut (tgt := 146) hx hb dX8_played_62 hq (by decide) ?_
        exact hJ_146d h_57 x3 0 hF H _ ls hP hD hS (lv_sub hl [3, 4, 5, 0] rfl)
  unfold f_X8_played at hF
  refine lv_aload_n hx hb dX8_played_0 rfl (lv_at hl 0 rfl) ?_
  refine va_get (D := G) (ci := 8) (v := .ref (q 16)) (C := RX8) (T := TX8) (N := 8) hx hb hts iX8 hown hK hP 0 wC_at0 rfl 5 (by decide) (hts _ m_755) (fun _ h9 => h9) rfl dX8_played_1 ?_
  refine lv_iload_n hx hb dX8_played_4 rfl (lv_at hl 1 rfl) ?_
  by_cases c_1 : p1 = 0
  · have hF := ob_pos c_1 hF
    refine gx_callq (gx_runV (As := [.int p1]) (rest := []) ⟨hx, hb, hml, hown, hts⟩ (c_textOf_e0 l G cI cJ cZ cB cT q h p1 c_1 H.size) (gG_V m_799 m_556 m_557 m_436 m_558) rfl e_X1_textOf ⟨Nat.le_of_ble_eq_true rfl, Nat.le_of_ble_eq_true rfl⟩ hK hP hD hE hS hA 16 wC_at16 rfl rfl hl.1 rfl (Nat.le_of_ble_eq_true rfl) dX8_played_5 ⟨Nat.le_refl _, Nat.le_refl _⟩) hP hD hS hA (fun x_2 u_2 H locs hw_2 hP hD hS => ?_)
    subst x_2
    refine W.eq (g2 := F0 m 8 ls [.ref (q 32)]) rfl ?_
    refine lv_astore_n (lv' := [(2, .ref (q 32)), (0, .ref (q 0)), (1, .int p1)]) hx hb dX8_played_8 rfl hl (by decide) rfl (fun ls hl => ?_)
    refine lv_iload_n hx hb dX8_played_9 rfl (lv_at hl 2 rfl) ?_
    refine lv_aload_n hx hb dX8_played_10 rfl (lv_at hl 1 rfl) ?_
    refine va_get (D := G) (ci := 8) (v := .ref (q 1)) (C := RX8) (T := TX8) (N := 8) hx hb hts iX8 hown hK hP 0 wC_at0 rfl 0 (by decide) (hts _ m_738) (fun _ h9 => h9) rfl dX8_played_11 ?_
    refine va_get (D := G) (ci := 4) (v := .int (eI h 1 9)) (C := RX4) (T := TX4) (N := 13) hx hb hts iX4 hown hK hP 1 wC_at1 rfl 9 (by decide) (hts _ m_798) (fun _ h9 => h9) rfl dX8_played_14 ?_
    refine lv_icmp_ge (tgt := 24) hx hb dX8_played_17 (by decide) (fun c_3 => ?_) (fun c_3 => ?_)
    · have hF := ob_pos c_3 hF
      exact hJ_24 h hF H _ ls hP hD hS (lv_sub hl [] rfl)
    · have hF := ob_neg c_3 hF
      refine lv_aload_n hx hb dX8_played_20 rfl (lv_at hl 0 rfl) ?_
      refine lv_ifnonnull (tgt := 27) hx hb dX8_played_21 (by decide) ?_
      refine lv_iconst (v := 0) hx hb dX8_played_27 (by decide) ?_
      refine lv_istore_n (lv' := [(3, .int 0), (2, .ref (q 32)), (0, .ref (q 0)), (1, .int p1)]) hx hb dX8_played_28 rfl hl (by decide) rfl (fun ls hl => ?_)
      exact hJ_29 8589934592 h 0 hF H _ ls hP hD hS (lv_sub hl [2, 1, 0] rfl)
  have hF := ob_neg c_1 hF
  by_cases c_4 : p1 = 1
  · have hF := ob_pos c_4 hF
    refine gx_callq (gx_runV (As := [.int p1]) (rest := []) ⟨hx, hb, hml, hown, hts⟩ (c_textOf_e1 l G cI cJ cZ cB cT q h p1 c_4 H.size) (gG_V m_799 m_556 m_557 m_436 m_558) rfl e_X1_textOf ⟨Nat.le_of_ble_eq_true rfl, Nat.le_of_ble_eq_true rfl⟩ hK hP hD hE hS hA 16 wC_at16 rfl rfl hl.1 rfl (Nat.le_of_ble_eq_true rfl) dX8_played_5 ⟨Nat.le_refl _, Nat.le_refl _⟩) hP hD hS hA (fun x_5 u_5 H locs hw_5 hP hD hS => ?_)
    subst x_5
    refine W.eq (g2 := F0 m 8 ls [.ref (q 37)]) rfl ?_
    refine lv_astore_n (lv' := [(2, .ref (q 37)), (0, .ref (q 0)), (1, .int p1)]) hx hb dX8_played_8 rfl hl (by decide) rfl (fun ls hl => ?_)
    refine lv_iload_n hx hb dX8_played_9 rfl (lv_at hl 2 rfl) ?_
    refine lv_aload_n hx hb dX8_played_10 rfl (lv_at hl 1 rfl) ?_
    refine va_get (D := G) (ci := 8) (v := .ref (q 1)) (C := RX8) (T := TX8) (N := 8) hx hb hts iX8 hown hK hP 0 wC_at0 rfl 0 (by decide) (hts _ m_738) (fun _ h9 => h9) rfl dX8_played_11 ?_
    refine va_get (D := G) (ci := 4) (v := .int (eI h 1 9)) (C := RX4) (T := TX4) (N := 13) hx hb hts iX4 hown hK hP 1 wC_at1 rfl 9 (by decide) (hts _ m_798) (fun _ h9 => h9) rfl dX8_played_14 ?_
    refine lv_icmp_ge (tgt := 24) hx hb dX8_played_17 (by decide) (fun c_6 => ?_) (fun c_6 => ?_)
    · have hF := ob_pos c_6 hF
      exact hJ_24 h hF H _ ls hP hD hS (lv_sub hl [] rfl)
    · have hF := ob_neg c_6 hF
      refine lv_aload_n hx hb dX8_played_20 rfl (lv_at hl 0 rfl) ?_
      refine lv_ifnonnull (tgt := 27) hx hb dX8_played_21 (by decide) ?_
      refine lv_iconst (v := 0) hx hb dX8_played_27 (by decide) ?_
      refine lv_istore_n (lv' := [(3, .int 0), (2, .ref (q 37)), (0, .ref (q 0)), (1, .int p1)]) hx hb dX8_played_28 rfl hl (by decide) rfl (fun ls hl => ?_)
      exact hJ_29b 8589934592 h 0 hF H _ ls hP hD hS (lv_sub hl [2, 1, 0] rfl)
  have hF := ob_neg c_4 hF
  by_cases c_7 : p1 = 2
  · have hF := ob_pos c_7 hF
    refine gx_callq (gx_runV (As := [.int p1]) (rest := []) ⟨hx, hb, hml, hown, hts⟩ (c_textOf_e2 l G cI cJ cZ cB cT q h p1 c_7 H.size) (gG_V m_799 m_556 m_557 m_436 m_558) rfl e_X1_textOf ⟨Nat.le_of_ble_eq_true rfl, Nat.le_of_ble_eq_true rfl⟩ hK hP hD hE hS hA 16 wC_at16 rfl rfl hl.1 rfl (Nat.le_of_ble_eq_true rfl) dX8_played_5 ⟨Nat.le_refl _, Nat.le_refl _⟩) hP hD hS hA (fun x_8 u_8 H locs hw_8 hP hD hS => ?_)
    subst x_8
    refine W.eq (g2 := F0 m 8 ls [.ref (q 42)]) rfl ?_
    refine lv_astore_n (lv' := [(2, .ref (q 42)), (0, .ref (q 0)), (1, .int p1)]) hx hb dX8_played_8 rfl hl (by decide) rfl (fun ls hl => ?_)
    refine lv_iload_n hx hb dX8_played_9 rfl (lv_at hl 2 rfl) ?_
    refine lv_aload_n hx hb dX8_played_10 rfl (lv_at hl 1 rfl) ?_
    refine va_get (D := G) (ci := 8) (v := .ref (q 1)) (C := RX8) (T := TX8) (N := 8) hx hb hts iX8 hown hK hP 0 wC_at0 rfl 0 (by decide) (hts _ m_738) (fun _ h9 => h9) rfl dX8_played_11 ?_
    refine va_get (D := G) (ci := 4) (v := .int (eI h 1 9)) (C := RX4) (T := TX4) (N := 13) hx hb hts iX4 hown hK hP 1 wC_at1 rfl 9 (by decide) (hts _ m_798) (fun _ h9 => h9) rfl dX8_played_14 ?_
    refine lv_icmp_ge (tgt := 24) hx hb dX8_played_17 (by decide) (fun c_9 => ?_) (fun c_9 => ?_)
    · have hF := ob_pos c_9 hF
      exact hJ_24 h hF H _ ls hP hD hS (lv_sub hl [] rfl)
    · have hF := ob_neg c_9 hF
      refine lv_aload_n hx hb dX8_played_20 rfl (lv_at hl 0 rfl) ?_
      refine lv_ifnonnull (tgt := 27) hx hb dX8_played_21 (by decide) ?_
      refine lv_iconst (v := 0) hx hb dX8_played_27 (by decide) ?_
      refine lv_istore_n (lv' := [(3, .int 0), (2, .ref (q 42)), (0, .ref (q 0)), (1, .int p1)]) hx hb dX8_played_28 rfl hl (by decide) rfl (fun ls hl => ?_)
      exact hJ_29c 8589934592 h 0 hF H _ ls hP hD hS (lv_sub hl [2, 1, 0] rfl)
  have hF := ob_neg c_7 hF
  by_cases c_10 : p1 = 3
  · have hF := ob_pos c_10 hF
    refine gx_callq (gx_runV (As := [.int p1]) (rest := []) ⟨hx, hb, hml, hown, hts⟩ (c_textOf_e3 l G cI cJ cZ cB cT q h p1 c_10 H.size) (gG_V m_799 m_556 m_557 m_436 m_558) rfl e_X1_textOf ⟨Nat.le_of_ble_eq_true rfl, Nat.le_of_ble_eq_true rfl⟩ hK hP hD hE hS hA 16 wC_at16 rfl rfl hl.1 rfl (Nat.le_of_ble_eq_true rfl) dX8_played_5 ⟨Nat.le_refl _, Nat.le_refl _⟩) hP hD hS hA (fun x_11 u_11 H locs hw_11 hP hD hS => ?_)
    subst x_11
    refine W.eq (g2 := F0 m 8 ls [.ref (q 47)]) rfl ?_
    refine lv_astore_n (lv' := [(2, .ref (q 47)), (0, .ref (q 0)), (1, .int p1)]) hx hb dX8_played_8 rfl hl (by decide) rfl (fun ls hl => ?_)
    refine lv_iload_n hx hb dX8_played_9 rfl (lv_at hl 2 rfl) ?_
    refine lv_aload_n hx hb dX8_played_10 rfl (lv_at hl 1 rfl) ?_
    refine va_get (D := G) (ci := 8) (v := .ref (q 1)) (C := RX8) (T := TX8) (N := 8) hx hb hts iX8 hown hK hP 0 wC_at0 rfl 0 (by decide) (hts _ m_738) (fun _ h9 => h9) rfl dX8_played_11 ?_
    refine va_get (D := G) (ci := 4) (v := .int (eI h 1 9)) (C := RX4) (T := TX4) (N := 13) hx hb hts iX4 hown hK hP 1 wC_at1 rfl 9 (by decide) (hts _ m_798) (fun _ h9 => h9) rfl dX8_played_14 ?_
    refine lv_icmp_ge (tgt := 24) hx hb dX8_played_17 (by decide) (fun c_12 => ?_) (fun c_12 => ?_)
    · have hF := ob_pos c_12 hF
      exact hJ_24 h hF H _ ls hP hD hS (lv_sub hl [] rfl)
    · have hF := ob_neg c_12 hF
      refine lv_aload_n hx hb dX8_played_20 rfl (lv_at hl 0 rfl) ?_
      refine lv_ifnonnull (tgt := 27) hx hb dX8_played_21 (by decide) ?_
      refine lv_iconst (v := 0) hx hb dX8_played_27 (by decide) ?_
      refine lv_istore_n (lv' := [(3, .int 0), (2, .ref (q 47)), (0, .ref (q 0)), (1, .int p1)]) hx hb dX8_played_28 rfl hl (by decide) rfl (fun ls hl => ?_)
      exact hJ_29d 8589934592 h 0 hF H _ ls hP hD hS (lv_sub hl [2, 1, 0] rfl)
  have hF := ob_neg c_10 hF
  refine gx_callq (gx_runV (As := [.int p1]) (rest := []) ⟨hx, hb, hml, hown, hts⟩ (c_textOf_no l G cI cJ cZ cB cT q h p1 c_1 c_4 c_7 c_10 H.size) (gG_V m_799 m_556 m_557 m_436 m_558) rfl e_X1_textOf ⟨Nat.le_of_ble_eq_true rfl, Nat.le_of_ble_eq_true rfl⟩ hK hP hD hE hS hA 16 wC_at16 rfl rfl hl.1 rfl (Nat.le_of_ble_eq_true rfl) dX8_played_5 ⟨Nat.le_refl _, Nat.le_refl _⟩) hP hD hS hA (fun x_13 u_13 H locs hw_13 hP hD hS => ?_)
  subst x_13
  refine W.eq (g2 := F0 m 8 ls [.null]) rfl ?_
  refine lv_astore_nN (lv' := [(2, .null), (0, .ref (q 0)), (1, .int p1)]) hx hb dX8_played_8 rfl hl (by decide) rfl (fun ls hl => ?_)
  refine lv_iload_n hx hb dX8_played_9 rfl (lv_at hl 2 rfl) ?_
  refine lv_aload_n hx hb dX8_played_10 rfl (lv_at hl 1 rfl) ?_
  refine va_get (D := G) (ci := 8) (v := .ref (q 1)) (C := RX8) (T := TX8) (N := 8) hx hb hts iX8 hown hK hP 0 wC_at0 rfl 0 (by decide) (hts _ m_738) (fun _ h9 => h9) rfl dX8_played_11 ?_
  refine va_get (D := G) (ci := 4) (v := .int (eI h 1 9)) (C := RX4) (T := TX4) (N := 13) hx hb hts iX4 hown hK hP 1 wC_at1 rfl 9 (by decide) (hts _ m_798) (fun _ h9 => h9) rfl dX8_played_14 ?_
  refine lv_icmp_ge (tgt := 24) hx hb dX8_played_17 (by decide) (fun c_14 => ?_) (fun c_14 => ?_)
  · have hF := ob_pos c_14 hF
    exact hJ_24 h hF H _ ls hP hD hS (lv_sub hl [] rfl)
  · have hF := ob_neg c_14 hF
    refine lv_aload_nN hx hb dX8_played_20 rfl (lv_at hl 0 rfl) ?_
    refine lv_ifnonnullN hx hb dX8_played_21 ?_
    exact hJ_24 h hF H _ ls hP hD hS (lv_sub hl [] rfl)
def f_X8_undo_21 (h : HS) (y0 : Int32) : Option (Int32 × HS) := (some (y0, h))
def f_X8_undo (h : HS) : Option (Int32 × HS) := (ob2 (f_X4_takeStepBack h) (fun r_1 h_1 => (if r_1 = 0 then (f_X8_undo_21 h_1 (-1)) else (f_X8_undo_21 h_1 (eI h_1 1 12)))))
theorem e_X4_takeStepBack : yX4_takeStepBack.cls = RX4 ∧ yX4_takeStepBack.cls ≠ "java/lang/invoke/MethodHandle" ∧ yX4_takeStepBack.cls ≠ "java/lang/invoke/VarHandle" ∧ (parseMethodDescriptor yX4_takeStepBack.desc).map (fun d => d.parameters.length) = some 0 := by decide +kernel
set_option maxHeartbeats 4000000 in
set_option maxRecDepth 100000 in
theorem c_X8_undo (l : Launch) (G : va_G) (cI cJ cZ cB cT : ClassId) (q : Nat → Nat) (h : HS)  (rr : Int32) (hh : HS) (hF : f_X8_undo h = some (rr, hh)) : gMi l yX8_undo (gws yX8_undo cX8_undo 1 (some .int)) 2 G (gT cI cJ cZ cB cT) [.ref (q 0)] (wC q cI cJ cZ cB cT h) (fun x (_ : Unit) => x = rr) (fun (_ : Unit) => (wC q cI cJ cZ cB cT hh)) := by
  intro sz
  refine gM_start (y := yX8_undo) (av := [.ref (q 0)]) (ws := (wC q cI cJ cZ cB cT h)) (Qf := fun A => va_Qi (fun x (_ : Unit) => x = rr) (gB G (fun (_ : Unit) => (wC q cI cJ cZ cB cT hh)) A) A) (cc := cX8_undo) (maxL := 1) (ret := (some .int)) (by decide) (Nat.le_of_ble_eq_true rfl) ?_
  intro p e s m args below meth c A ls H hx hb hr hts hown hin hlocks hml hP hK hD hA hS hl hE
  have hl : lv_has ls 1 [(0, .ref (q 0))] := hl
  have hJ_21 : ∀ (h : HS) (y0 : Int32), f_X8_undo_21 h y0 = some (rr, hh) → ∀ (H : Heap) (locs : List Loc) (ls : Array Slot), va_P G vwCl (wC q cI cJ cZ cB cT h) H → va_D A (wC q cI cJ cZ cB cT h) → va_S A s.heap H locs → lv_has ls 1 [] → W p l e (gRm 2) s m args below meth c H locs 0 0 (MQ below (va_Qi (fun x (_ : Unit) => x = rr) (gB G (fun (_ : Unit) => (wC q cI cJ cZ cB cT hh)) A) A) args s 0 0 A) (F0 m 21 ls [.int y0]) := by
    intro h y0 hF H locs ls hP hD hS hl
    unfold f_X8_undo_21 at hF
    obtain ⟨rfl, rfl⟩ := ob_pair hF
    exact gw_iret () hx hb hr hlocks hP hD hS rfl dX8_undo_21
  unfold f_X8_undo at hF
  refine lv_aload_n hx hb dX8_undo_0 rfl (lv_at hl 0 rfl) ?_
  refine va_get (D := G) (ci := 8) (v := .ref (q 1)) (C := RX8) (T := TX8) (N := 8) hx hb hts iX8 hown hK hP 0 wC_at0 rfl 0 (by decide) (hts _ m_738) (fun _ h9 => h9) rfl dX8_undo_1 ?_
  obtain ⟨r_1, h_1, e_1, hF⟩ := ob2_some hF
  refine gx_calli (gx_runV (As := []) (rest := []) ⟨hx, hb, hml, hown, hts⟩ (c_X4_takeStepBack l G cI cJ cZ cB cT q h  r_1 h_1 e_1 H.size) (gG_V m_835 m_836 m_837 m_7 m_834) rfl e_X4_takeStepBack ⟨Nat.le_of_ble_eq_true rfl, Nat.le_of_ble_eq_true rfl⟩ hK hP hD hE hS hA 1 wC_at1 rfl rfl hl.1 rfl (Nat.le_of_ble_eq_true rfl) dX8_undo_4 ⟨Nat.le_refl _, Nat.le_refl _⟩) hP hD hS hA (fun x_1 u_1 H locs hw_1 hP hD hS => ?_)
  subst x_1
  refine lv_if_eq (tgt := 20) hx hb dX8_undo_7 (by decide) (fun c_2 => ?_) (fun c_2 => ?_)
  · have hF := ob_pos c_2 hF
    refine lv_iconst (v := (-1)) hx hb dX8_undo_20 (by decide) ?_
    exact hJ_21 h_1 (-1) hF H _ ls hP hD hS (lv_sub hl [] rfl)
  · have hF := ob_neg c_2 hF
    refine lv_aload_n hx hb dX8_undo_10 rfl (lv_at hl 0 rfl) ?_
    refine va_get (D := G) (ci := 8) (v := .ref (q 1)) (C := RX8) (T := TX8) (N := 8) hx hb hts iX8 hown hK hP 0 wC_at0 rfl 0 (by decide) (hts _ m_738) (fun _ h9 => h9) rfl dX8_undo_11 ?_
    refine va_get (D := G) (ci := 4) (v := .int (eI h_1 1 12)) (C := RX4) (T := TX4) (N := 13) hx hb hts iX4 hown hK hP 1 wC_at1 rfl 12 (by decide) (hts _ m_838) (fun _ h9 => h9) rfl dX8_undo_14 ?_
    refine lv_goto (tgt := 21) hx hb dX8_undo_17 (by decide) ?_
    exact hJ_21 h_1 (eI h_1 1 12) hF H _ ls hP hD hS (lv_sub hl [] rfl)
def f_X8_of_21 (h : HS) : Option (Int32 × HS) := (some ((-2), h))
def f_X8_of_50 (h : HS) (y0 : Int32) : Option (Int32 × HS) := (some (y0, h))
def f_X8_of (h : HS) (p1 : Int32) (p2 : Int32) : Option (Int32 × HS) := (ob2 (f_X4_hasGoose h p1) (fun r_1 h_1 => (if r_1 = 0 then (f_X8_of_21 h_1) else (if p2 < 0 then (f_X8_of_21 h_1) else (if p2 ≤ 9 then (if p2 = 9 then (ob2 (f_X1_isTrue h_1 p1) (fun r_7 h_7 => (if r_7 = 0 then (f_X8_of_50 h_7 0) else (f_X8_of_50 h_7 1)))) else (ob2 (f_X4_ofGoose h_1 p1 p2) (fun r_6 h_6 => (some (r_6, h_6))))) else (f_X8_of_21 h_1))))))
set_option maxHeartbeats 4000000 in
set_option maxRecDepth 100000 in
theorem c_X8_of (l : Launch) (G : va_G) (cI cJ cZ cB cT : ClassId) (q : Nat → Nat) (h : HS) (p1 : Int32) (p2 : Int32) (rr : Int32) (hh : HS) (hF : f_X8_of h p1 p2 = some (rr, hh)) : gMi l yX8_of (gws yX8_of cX8_of 3 (some .int)) 5 G (gT cI cJ cZ cB cT) [.ref (q 0), .int p1, .int p2] (wC q cI cJ cZ cB cT h) (fun x (_ : Unit) => x = rr) (fun (_ : Unit) => (wC q cI cJ cZ cB cT hh)) := by
  intro sz
  refine gM_start (y := yX8_of) (av := [.ref (q 0), .int p1, .int p2]) (ws := (wC q cI cJ cZ cB cT h)) (Qf := fun A => va_Qi (fun x (_ : Unit) => x = rr) (gB G (fun (_ : Unit) => (wC q cI cJ cZ cB cT hh)) A) A) (cc := cX8_of) (maxL := 3) (ret := (some .int)) (by decide) (Nat.le_of_ble_eq_true rfl) ?_
  intro p e s m args below meth c A ls H hx hb hr hts hown hin hlocks hml hP hK hD hA hS hl hE
  have hl : lv_has ls 3 [(0, .ref (q 0)), (1, .int p1), (2, .int p2)] := hl
  have hJ_21 : ∀ (h : HS), f_X8_of_21 h = some (rr, hh) → ∀ (H : Heap) (locs : List Loc) (ls : Array Slot), va_P G vwCl (wC q cI cJ cZ cB cT h) H → va_D A (wC q cI cJ cZ cB cT h) → va_S A s.heap H locs → lv_has ls 3 [] → W p l e (gRm 5) s m args below meth c H locs 0 0 (MQ below (va_Qi (fun x (_ : Unit) => x = rr) (gB G (fun (_ : Unit) => (wC q cI cJ cZ cB cT hh)) A) A) args s 0 0 A) (F0 m 21 ls []) := by
    intro h hF H locs ls hP hD hS hl
    unfold f_X8_of_21 at hF
    refine lv_bipush (v := (-2)) hx hb dX8_of_21 (by decide) ?_
    obtain ⟨rfl, rfl⟩ := ob_pair hF
    exact gw_iret () hx hb hr hlocks hP hD hS rfl dX8_of_23
  have hJ_50 : ∀ (h : HS) (y0 : Int32), f_X8_of_50 h y0 = some (rr, hh) → ∀ (H : Heap) (locs : List Loc) (ls : Array Slot), va_P G vwCl (wC q cI cJ cZ cB cT h) H → va_D A (wC q cI cJ cZ cB cT h) → va_S A s.heap H locs → lv_has ls 3 [] → W p l e (gRm 5) s m args below meth c H locs 0 0 (MQ below (va_Qi (fun x (_ : Unit) => x = rr) (gB G (fun (_ : Unit) => (wC q cI cJ cZ cB cT hh)) A) A) args s 0 0 A) (F0 m 50 ls [.int y0]) := by
    intro h y0 hF H locs ls hP hD hS hl
    unfold f_X8_of_50 at hF
    obtain ⟨rfl, rfl⟩ := ob_pair hF
    exact gw_iret () hx hb hr hlocks hP hD hS rfl dX8_of_50
  unfold f_X8_of at hF
  refine lv_aload_n hx hb dX8_of_0 rfl (lv_at hl 0 rfl) ?_
  refine va_get (D := G) (ci := 8) (v := .ref (q 1)) (C := RX8) (T := TX8) (N := 8) hx hb hts iX8 hown hK hP 0 wC_at0 rfl 0 (by decide) (hts _ m_738) (fun _ h9 => h9) rfl dX8_of_1 ?_
  refine lv_iload_n hx hb dX8_of_4 rfl (lv_at hl 1 rfl) ?_
  obtain ⟨r_1, h_1, e_1, hF⟩ := ob2_some hF
  refine gx_calli (gx_runV (As := [.int p1]) (rest := []) ⟨hx, hb, hml, hown, hts⟩ (c_X4_hasGoose l G cI cJ cZ cB cT q h p1 r_1 h_1 e_1 H.size) (gG_V m_839 m_5 m_6 m_7 m_3) rfl e_X4_hasGoose ⟨Nat.le_of_ble_eq_true rfl, Nat.le_of_ble_eq_true rfl⟩ hK hP hD hE hS hA 1 wC_at1 rfl rfl hl.1 rfl (Nat.le_of_ble_eq_true rfl) dX8_of_5 ⟨Nat.le_refl _, Nat.le_refl _⟩) hP hD hS hA (fun x_1 u_1 H locs hw_1 hP hD hS => ?_)
  subst x_1
  refine lv_if_eq (tgt := 21) hx hb dX8_of_8 (by decide) (fun c_2 => ?_) (fun c_2 => ?_)
  · have hF := ob_pos c_2 hF
    exact hJ_21 h_1 hF H _ ls hP hD hS (lv_sub hl [] rfl)
  · have hF := ob_neg c_2 hF
    refine lv_iload_n hx hb dX8_of_11 rfl (lv_at hl 2 rfl) ?_
    refine lv_if_lt (tgt := 21) hx hb dX8_of_12 (by decide) (fun c_3 => ?_) (fun c_3 => ?_)
    · have hF := ob_pos c_3 hF
      exact hJ_21 h_1 hF H _ ls hP hD hS (lv_sub hl [] rfl)
    · have hF := ob_neg c_3 hF
      refine lv_iload_n hx hb dX8_of_15 rfl (lv_at hl 2 rfl) ?_
      refine lv_bipush (v := 9) hx hb dX8_of_16 (by decide) ?_
      refine lv_icmp_le (tgt := 24) hx hb dX8_of_18 (by decide) (fun c_4 => ?_) (fun c_4 => ?_)
      · have hF := ob_pos c_4 hF
        refine lv_iload_n hx hb dX8_of_24 rfl (lv_at hl 2 rfl) ?_
        refine lv_bipush (v := 9) hx hb dX8_of_25 (by decide) ?_
        refine lv_icmp_ne (tgt := 51) hx hb dX8_of_27 (by decide) (fun c_5 => ?_) (fun c_5 => ?_)
        · have hF := ob_neg c_5 hF
          refine lv_aload_n hx hb dX8_of_51 rfl (lv_at hl 0 rfl) ?_
          refine va_get (D := G) (ci := 8) (v := .ref (q 1)) (C := RX8) (T := TX8) (N := 8) hx hb hts iX8 hown hK hP 0 wC_at0 rfl 0 (by decide) (hts _ m_738) (fun _ h9 => h9) rfl dX8_of_52 ?_
          refine lv_iload_n hx hb dX8_of_55 rfl (lv_at hl 1 rfl) ?_
          refine lv_iload_n hx hb dX8_of_56 rfl (lv_at hl 2 rfl) ?_
          obtain ⟨r_6, h_6, e_6, hF⟩ := ob2_some hF
          refine gx_calli (gx_runV (As := [.int p1, .int p2]) (rest := []) ⟨hx, hb, hml, hown, hts⟩ (c_X4_ofGoose l G cI cJ cZ cB cT q h_1 p1 p2 r_6 h_6 e_6 H.size) (gG_V m_754 m_15 m_16 m_7 m_13) rfl e_X4_ofGoose ⟨Nat.le_of_ble_eq_true rfl, Nat.le_of_ble_eq_true rfl⟩ hK hP hD hE hS hA 1 wC_at1 rfl rfl hl.1 rfl (Nat.le_of_ble_eq_true rfl) dX8_of_57 ⟨Nat.le_refl _, Nat.le_refl _⟩) hP hD hS hA (fun x_6 u_6 H locs hw_6 hP hD hS => ?_)
          subst x_6
          obtain ⟨rfl, rfl⟩ := ob_pair hF
          exact gw_iret () hx hb hr hlocks hP hD hS rfl dX8_of_60
        · have hF := ob_pos c_5 hF
          refine lv_aload_n hx hb dX8_of_30 rfl (lv_at hl 0 rfl) ?_
          refine va_get (D := G) (ci := 8) (v := .ref (q 16)) (C := RX8) (T := TX8) (N := 8) hx hb hts iX8 hown hK hP 0 wC_at0 rfl 5 (by decide) (hts _ m_755) (fun _ h9 => h9) rfl dX8_of_31 ?_
          refine lv_aload_n hx hb dX8_of_34 rfl (lv_at hl 0 rfl) ?_
          refine va_get (D := G) (ci := 8) (v := .ref (q 1)) (C := RX8) (T := TX8) (N := 8) hx hb hts iX8 hown hK hP 0 wC_at0 rfl 0 (by decide) (hts _ m_738) (fun _ h9 => h9) rfl dX8_of_35 ?_
          refine lv_iload_n hx hb dX8_of_38 rfl (lv_at hl 1 rfl) ?_
          obtain ⟨r_7, h_7, e_7, hF⟩ := ob2_some hF
          refine gx_calli (gx_runV (As := [.ref (q 1), .int p1]) (rest := []) ⟨hx, hb, hml, hown, hts⟩ (c_X1_isTrue l G cI cJ cZ cB cT q h_1 p1 r_7 h_7 e_7 H.size) (gG_V m_840 m_599 m_600 m_436 m_597) rfl e_X1_isTrue ⟨Nat.le_of_ble_eq_true rfl, Nat.le_of_ble_eq_true rfl⟩ hK hP hD hE hS hA 16 wC_at16 rfl rfl hl.1 rfl (Nat.le_of_ble_eq_true rfl) dX8_of_39 ⟨Nat.le_refl _, Nat.le_refl _⟩) hP hD hS hA (fun x_7 u_7 H locs hw_7 hP hD hS => ?_)
          subst x_7
          refine lv_if_eq (tgt := 49) hx hb dX8_of_42 (by decide) (fun c_8 => ?_) (fun c_8 => ?_)
          · have hF := ob_pos c_8 hF
            refine lv_iconst (v := 0) hx hb dX8_of_49 (by decide) ?_
            exact hJ_50 h_7 0 hF H _ ls hP hD hS (lv_sub hl [] rfl)
          · have hF := ob_neg c_8 hF
            refine lv_iconst (v := 1) hx hb dX8_of_45 (by decide) ?_
            refine lv_goto (tgt := 50) hx hb dX8_of_46 (by decide) ?_
            exact hJ_50 h_7 1 hF H _ ls hP hD hS (lv_sub hl [] rfl)
      · have hF := ob_neg c_4 hF
        exact hJ_21 h_1 hF H _ ls hP hD hS (lv_sub hl [] rfl)
def f_X8_ink_19 (h : HS) : Option (Int32 × HS) := (some ((-1), h))
def f_X8_ink (h : HS) (p1 : Int32) (p2 : Int32) (p3 : Int32) : Option (Int32 × HS) := (ob2 (f_X4_hasGoose h p1) (fun r_1 h_1 => (if r_1 = 0 then (f_X8_ink_19 h_1) else (ob1 (f_X8_isQuill p2 p3) (fun r_3 => (if r_3 = 0 then (f_X8_ink_19 h_1) else (ob2 (f_X1_inkCost h_1 p1 p2 p3) (fun r_5 h_5 => (some (r_5, h_5))))))))))
set_option maxHeartbeats 4000000 in
set_option maxRecDepth 100000 in
theorem c_X8_ink (l : Launch) (G : va_G) (cI cJ cZ cB cT : ClassId) (q : Nat → Nat) (h : HS) (p1 : Int32) (p2 : Int32) (p3 : Int32) (rr : Int32) (hh : HS) (hF : f_X8_ink h p1 p2 p3 = some (rr, hh)) : gMi l yX8_ink (gws yX8_ink cX8_ink 4 (some .int)) 5 G (gT cI cJ cZ cB cT) [.ref (q 0), .int p1, .int p2, .int p3] (wC q cI cJ cZ cB cT h) (fun x (_ : Unit) => x = rr) (fun (_ : Unit) => (wC q cI cJ cZ cB cT hh)) := by
  intro sz
  refine gM_start (y := yX8_ink) (av := [.ref (q 0), .int p1, .int p2, .int p3]) (ws := (wC q cI cJ cZ cB cT h)) (Qf := fun A => va_Qi (fun x (_ : Unit) => x = rr) (gB G (fun (_ : Unit) => (wC q cI cJ cZ cB cT hh)) A) A) (cc := cX8_ink) (maxL := 4) (ret := (some .int)) (by decide) (Nat.le_of_ble_eq_true rfl) ?_
  intro p e s m args below meth c A ls H hx hb hr hts hown hin hlocks hml hP hK hD hA hS hl hE
  have hl : lv_has ls 4 [(0, .ref (q 0)), (1, .int p1), (2, .int p2), (3, .int p3)] := hl
  have hJ_19 : ∀ (h : HS), f_X8_ink_19 h = some (rr, hh) → ∀ (H : Heap) (locs : List Loc) (ls : Array Slot), va_P G vwCl (wC q cI cJ cZ cB cT h) H → va_D A (wC q cI cJ cZ cB cT h) → va_S A s.heap H locs → lv_has ls 4 [] → W p l e (gRm 5) s m args below meth c H locs 0 0 (MQ below (va_Qi (fun x (_ : Unit) => x = rr) (gB G (fun (_ : Unit) => (wC q cI cJ cZ cB cT hh)) A) A) args s 0 0 A) (F0 m 19 ls []) := by
    intro h hF H locs ls hP hD hS hl
    unfold f_X8_ink_19 at hF
    refine lv_iconst (v := (-1)) hx hb dX8_ink_19 (by decide) ?_
    obtain ⟨rfl, rfl⟩ := ob_pair hF
    exact gw_iret () hx hb hr hlocks hP hD hS rfl dX8_ink_20
  unfold f_X8_ink at hF
  refine lv_aload_n hx hb dX8_ink_0 rfl (lv_at hl 0 rfl) ?_
  refine va_get (D := G) (ci := 8) (v := .ref (q 1)) (C := RX8) (T := TX8) (N := 8) hx hb hts iX8 hown hK hP 0 wC_at0 rfl 0 (by decide) (hts _ m_738) (fun _ h9 => h9) rfl dX8_ink_1 ?_
  refine lv_iload_n hx hb dX8_ink_4 rfl (lv_at hl 1 rfl) ?_
  obtain ⟨r_1, h_1, e_1, hF⟩ := ob2_some hF
  refine gx_calli (gx_runV (As := [.int p1]) (rest := []) ⟨hx, hb, hml, hown, hts⟩ (c_X4_hasGoose l G cI cJ cZ cB cT q h p1 r_1 h_1 e_1 H.size) (gG_V m_839 m_5 m_6 m_7 m_3) rfl e_X4_hasGoose ⟨Nat.le_of_ble_eq_true rfl, Nat.le_of_ble_eq_true rfl⟩ hK hP hD hE hS hA 1 wC_at1 rfl rfl hl.1 rfl (Nat.le_of_ble_eq_true rfl) dX8_ink_5 ⟨Nat.le_refl _, Nat.le_refl _⟩) hP hD hS hA (fun x_1 u_1 H locs hw_1 hP hD hS => ?_)
  subst x_1
  refine lv_if_eq (tgt := 19) hx hb dX8_ink_8 (by decide) (fun c_2 => ?_) (fun c_2 => ?_)
  · have hF := ob_pos c_2 hF
    exact hJ_19 h_1 hF H _ ls hP hD hS (lv_sub hl [] rfl)
  · have hF := ob_neg c_2 hF
    refine lv_iload_n hx hb dX8_ink_11 rfl (lv_at hl 2 rfl) ?_
    refine lv_iload_n hx hb dX8_ink_12 rfl (lv_at hl 3 rfl) ?_
    obtain ⟨r_3, e_3, hF⟩ := ob1_some hF
    refine gx_calli0 (gx_runS0 (As := [.int p2, .int p3]) (rest := []) ⟨hx, hb, hml, hown, hts⟩ (c_X8_isQuill l G cI cJ cZ cB cT   p2 p3 r_3 e_3 H.size) (gG_S m_751 m_752 m_60 m_750) rfl e_X8_isQuill ⟨Nat.le_of_ble_eq_true rfl, Nat.le_of_ble_eq_true rfl⟩ hK hE hS hA rfl hl.1 rfl (Nat.le_of_ble_eq_true rfl) dX8_ink_13 ⟨Nat.le_refl _, Nat.le_refl _⟩) hP hD hS hA (fun x_3 u_3 H locs hw_3 hP hD hS => ?_)
    subst x_3
    refine lv_if_ne (tgt := 21) hx hb dX8_ink_16 (by decide) (fun c_4 => ?_) (fun c_4 => ?_)
    · have hF := ob_neg c_4 hF
      refine lv_aload_n hx hb dX8_ink_21 rfl (lv_at hl 0 rfl) ?_
      refine va_get (D := G) (ci := 8) (v := .ref (q 16)) (C := RX8) (T := TX8) (N := 8) hx hb hts iX8 hown hK hP 0 wC_at0 rfl 5 (by decide) (hts _ m_755) (fun _ h9 => h9) rfl dX8_ink_22 ?_
      refine lv_aload_n hx hb dX8_ink_25 rfl (lv_at hl 0 rfl) ?_
      refine va_get (D := G) (ci := 8) (v := .ref (q 1)) (C := RX8) (T := TX8) (N := 8) hx hb hts iX8 hown hK hP 0 wC_at0 rfl 0 (by decide) (hts _ m_738) (fun _ h9 => h9) rfl dX8_ink_26 ?_
      refine lv_iload_n hx hb dX8_ink_29 rfl (lv_at hl 1 rfl) ?_
      refine lv_iload_n hx hb dX8_ink_30 rfl (lv_at hl 2 rfl) ?_
      refine lv_iload_n hx hb dX8_ink_31 rfl (lv_at hl 3 rfl) ?_
      obtain ⟨r_5, h_5, e_5, hF⟩ := ob2_some hF
      refine gx_calli (gx_runV (As := [.ref (q 1), .int p1, .int p2, .int p3]) (rest := []) ⟨hx, hb, hml, hown, hts⟩ (c_X1_inkCost l G cI cJ cZ cB cT q h_1 p1 p2 p3 r_5 h_5 e_5 H.size) (gG_V m_757 m_758 m_759 m_436 m_756) rfl e_X1_inkCost ⟨Nat.le_of_ble_eq_true rfl, Nat.le_of_ble_eq_true rfl⟩ hK hP hD hE hS hA 16 wC_at16 rfl rfl hl.1 rfl (Nat.le_of_ble_eq_true rfl) dX8_ink_32 ⟨Nat.le_refl _, Nat.le_refl _⟩) hP hD hS hA (fun x_5 u_5 H locs hw_5 hP hD hS => ?_)
      subst x_5
      obtain ⟨rfl, rfl⟩ := ob_pair hF
      exact gw_iret () hx hb hr hlocks hP hD hS rfl dX8_ink_35
    · have hF := ob_pos c_4 hF
      exact hJ_19 h_1 hF H _ ls hP hD hS (lv_sub hl [] rfl)
def f_X8_tells_71 (h : HS) (y0 : Int32) : Option (Int32 × HS) := (if y0 = 0 ∨ y0 = 1 then (some (y0, h)) else none)
def f_X8_tells_70 (h : HS) : Option (Int32 × HS) := (f_X8_tells_71 h 0)
def f_X8_tells_37 (h : HS) (y0 : Int32) : Option (Int32 × HS) := (if y0 = 0 ∨ y0 = 1 then (some (y0, h)) else none)
def f_X8_tells (h : HS) (p1 : Int32) (p2 : Int32) (p3 : Int32) : Option (Int32 × HS) := (ob2 (f_X4_ofGoose h p1 2) (fun r_1 h_1 => (if r_1 = p2 then (if p3 = 0 then (ob2 (f_X4_ofGoose h_1 p1 4) (fun r_4 h_4 => (if r_4 = 2 then (ob2 (f_X1_isTrue h_4 p1) (fun r_6 h_6 => (if r_6 = 0 then (f_X8_tells_70 h_6) else (f_X8_tells_71 h_6 1)))) else (f_X8_tells_70 h_4)))) else (ob2 (f_X4_ofGoose h_1 p1 4) (fun r_8 h_8 => (if r_8 = 4 then (f_X8_tells_37 h_8 1) else (f_X8_tells_37 h_8 0))))) else (some (0, h_1)))))
set_option maxHeartbeats 4000000 in
set_option maxRecDepth 100000 in
theorem c_X8_tells (l : Launch) (G : va_G) (cI cJ cZ cB cT : ClassId) (q : Nat → Nat) (h : HS) (p1 : Int32) (p2 : Int32) (p3 : Int32) (rr : Int32) (hh : HS) (hF : f_X8_tells h p1 p2 p3 = some (rr, hh)) : gMi l yX8_tells (gws yX8_tells cX8_tells 4 (some .boolean)) 5 G (gT cI cJ cZ cB cT) [.ref (q 0), .int p1, .int p2, .int p3] (wC q cI cJ cZ cB cT h) (fun x (_ : Unit) => x = rr) (fun (_ : Unit) => (wC q cI cJ cZ cB cT hh)) := by
  intro sz
  refine gM_start (y := yX8_tells) (av := [.ref (q 0), .int p1, .int p2, .int p3]) (ws := (wC q cI cJ cZ cB cT h)) (Qf := fun A => va_Qi (fun x (_ : Unit) => x = rr) (gB G (fun (_ : Unit) => (wC q cI cJ cZ cB cT hh)) A) A) (cc := cX8_tells) (maxL := 4) (ret := (some .boolean)) (by decide) (Nat.le_of_ble_eq_true rfl) ?_
  intro p e s m args below meth c A ls H hx hb hr hts hown hin hlocks hml hP hK hD hA hS hl hE
  have hl : lv_has ls 4 [(0, .ref (q 0)), (1, .int p1), (2, .int p2), (3, .int p3)] := hl
  have hJ_71 : ∀ (h : HS) (y0 : Int32), f_X8_tells_71 h y0 = some (rr, hh) → ∀ (H : Heap) (locs : List Loc) (ls : Array Slot), va_P G vwCl (wC q cI cJ cZ cB cT h) H → va_D A (wC q cI cJ cZ cB cT h) → va_S A s.heap H locs → lv_has ls 4 [] → W p l e (gRm 5) s m args below meth c H locs 0 0 (MQ below (va_Qi (fun x (_ : Unit) => x = rr) (gB G (fun (_ : Unit) => (wC q cI cJ cZ cB cT hh)) A) A) args s 0 0 A) (F0 m 71 ls [.int y0]) := by
    intro h y0 hF H locs ls hP hD hS hl
    unfold f_X8_tells_71 at hF
    obtain ⟨hz_10, hF⟩ := ob_if hF
    obtain ⟨rfl, rfl⟩ := ob_pair hF
    exact gw_zret () hx hb hr hlocks (gz hz_10) hP hD hS rfl dX8_tells_71
  have hJ_70 : ∀ (h : HS), f_X8_tells_70 h = some (rr, hh) → ∀ (H : Heap) (locs : List Loc) (ls : Array Slot), va_P G vwCl (wC q cI cJ cZ cB cT h) H → va_D A (wC q cI cJ cZ cB cT h) → va_S A s.heap H locs → lv_has ls 4 [] → W p l e (gRm 5) s m args below meth c H locs 0 0 (MQ below (va_Qi (fun x (_ : Unit) => x = rr) (gB G (fun (_ : Unit) => (wC q cI cJ cZ cB cT hh)) A) A) args s 0 0 A) (F0 m 70 ls []) := by
    intro h hF H locs ls hP hD hS hl
    unfold f_X8_tells_70 at hF
    refine lv_iconst (v := 0) hx hb dX8_tells_70 (by decide) ?_
    exact hJ_71 h 0 hF H _ ls hP hD hS (lv_sub hl [] rfl)
  have hJ_37 : ∀ (h : HS) (y0 : Int32), f_X8_tells_37 h y0 = some (rr, hh) → ∀ (H : Heap) (locs : List Loc) (ls : Array Slot), va_P G vwCl (wC q cI cJ cZ cB cT h) H → va_D A (wC q cI cJ cZ cB cT h) → va_S A s.heap H locs → lv_has ls 4 [] → W p l e (gRm 5) s m args below meth c H locs 0 0 (MQ below (va_Qi (fun x (_ : Unit) => x = rr) (gB G (fun (_ : Unit) => (wC q cI cJ cZ cB cT hh)) A) A) args s 0 0 A) (F0 m 37 ls [.int y0]) := by
    intro h y0 hF H locs ls hP hD hS hl
    unfold f_X8_tells_37 at hF
    obtain ⟨hz_11, hF⟩ := ob_if hF
    obtain ⟨rfl, rfl⟩ := ob_pair hF
    exact gw_zret () hx hb hr hlocks (gz hz_11) hP hD hS rfl dX8_tells_37
  unfold f_X8_tells at hF
  refine lv_aload_n hx hb dX8_tells_0 rfl (lv_at hl 0 rfl) ?_
  refine va_get (D := G) (ci := 8) (v := .ref (q 1)) (C := RX8) (T := TX8) (N := 8) hx hb hts iX8 hown hK hP 0 wC_at0 rfl 0 (by decide) (hts _ m_738) (fun _ h9 => h9) rfl dX8_tells_1 ?_
  refine lv_iload_n hx hb dX8_tells_4 rfl (lv_at hl 1 rfl) ?_
  refine lv_iconst (v := 2) hx hb dX8_tells_5 (by decide) ?_
  obtain ⟨r_1, h_1, e_1, hF⟩ := ob2_some hF
  refine gx_calli (gx_runV (As := [.int p1, .int 2]) (rest := []) ⟨hx, hb, hml, hown, hts⟩ (c_X4_ofGoose l G cI cJ cZ cB cT q h p1 2 r_1 h_1 e_1 H.size) (gG_V m_754 m_15 m_16 m_7 m_13) rfl e_X4_ofGoose ⟨Nat.le_of_ble_eq_true rfl, Nat.le_of_ble_eq_true rfl⟩ hK hP hD hE hS hA 1 wC_at1 rfl rfl hl.1 rfl (Nat.le_of_ble_eq_true rfl) dX8_tells_6 ⟨Nat.le_refl _, Nat.le_refl _⟩) hP hD hS hA (fun x_1 u_1 H locs hw_1 hP hD hS => ?_)
  subst x_1
  refine lv_iload_n hx hb dX8_tells_9 rfl (lv_at hl 2 rfl) ?_
  refine lv_icmp_eq (tgt := 15) hx hb dX8_tells_10 (by decide) (fun c_2 => ?_) (fun c_2 => ?_)
  · have hF := ob_pos c_2 hF
    refine lv_iload_n hx hb dX8_tells_15 rfl (lv_at hl 3 rfl) ?_
    refine lv_if_eq (tgt := 38) hx hb dX8_tells_16 (by decide) (fun c_3 => ?_) (fun c_3 => ?_)
    · have hF := ob_pos c_3 hF
      refine lv_aload_n hx hb dX8_tells_38 rfl (lv_at hl 0 rfl) ?_
      refine va_get (D := G) (ci := 8) (v := .ref (q 1)) (C := RX8) (T := TX8) (N := 8) hx hb hts iX8 hown hK hP 0 wC_at0 rfl 0 (by decide) (hts _ m_738) (fun _ h9 => h9) rfl dX8_tells_39 ?_
      refine lv_iload_n hx hb dX8_tells_42 rfl (lv_at hl 1 rfl) ?_
      refine lv_iconst (v := 4) hx hb dX8_tells_43 (by decide) ?_
      obtain ⟨r_4, h_4, e_4, hF⟩ := ob2_some hF
      refine gx_calli (gx_runV (As := [.int p1, .int 4]) (rest := []) ⟨hx, hb, hml, hown, hts⟩ (c_X4_ofGoose l G cI cJ cZ cB cT q h_1 p1 4 r_4 h_4 e_4 H.size) (gG_V m_754 m_15 m_16 m_7 m_13) rfl e_X4_ofGoose ⟨Nat.le_of_ble_eq_true rfl, Nat.le_of_ble_eq_true rfl⟩ hK hP hD hE hS hA 1 wC_at1 rfl rfl hl.1 rfl (Nat.le_of_ble_eq_true rfl) dX8_tells_44 ⟨Nat.le_refl _, Nat.le_refl _⟩) hP hD hS hA (fun x_4 u_4 H locs hw_4 hP hD hS => ?_)
      subst x_4
      refine lv_iconst (v := 2) hx hb dX8_tells_47 (by decide) ?_
      refine lv_icmp_ne (tgt := 70) hx hb dX8_tells_48 (by decide) (fun c_5 => ?_) (fun c_5 => ?_)
      · have hF := ob_neg c_5 hF
        exact hJ_70 h_4 hF H _ ls hP hD hS (lv_sub hl [] rfl)
      · have hF := ob_pos c_5 hF
        refine lv_aload_n hx hb dX8_tells_51 rfl (lv_at hl 0 rfl) ?_
        refine va_get (D := G) (ci := 8) (v := .ref (q 16)) (C := RX8) (T := TX8) (N := 8) hx hb hts iX8 hown hK hP 0 wC_at0 rfl 5 (by decide) (hts _ m_755) (fun _ h9 => h9) rfl dX8_tells_52 ?_
        refine lv_aload_n hx hb dX8_tells_55 rfl (lv_at hl 0 rfl) ?_
        refine va_get (D := G) (ci := 8) (v := .ref (q 1)) (C := RX8) (T := TX8) (N := 8) hx hb hts iX8 hown hK hP 0 wC_at0 rfl 0 (by decide) (hts _ m_738) (fun _ h9 => h9) rfl dX8_tells_56 ?_
        refine lv_iload_n hx hb dX8_tells_59 rfl (lv_at hl 1 rfl) ?_
        obtain ⟨r_6, h_6, e_6, hF⟩ := ob2_some hF
        refine gx_calli (gx_runV (As := [.ref (q 1), .int p1]) (rest := []) ⟨hx, hb, hml, hown, hts⟩ (c_X1_isTrue l G cI cJ cZ cB cT q h_4 p1 r_6 h_6 e_6 H.size) (gG_V m_840 m_599 m_600 m_436 m_597) rfl e_X1_isTrue ⟨Nat.le_of_ble_eq_true rfl, Nat.le_of_ble_eq_true rfl⟩ hK hP hD hE hS hA 16 wC_at16 rfl rfl hl.1 rfl (Nat.le_of_ble_eq_true rfl) dX8_tells_60 ⟨Nat.le_refl _, Nat.le_refl _⟩) hP hD hS hA (fun x_6 u_6 H locs hw_6 hP hD hS => ?_)
        subst x_6
        refine lv_if_eq (tgt := 70) hx hb dX8_tells_63 (by decide) (fun c_7 => ?_) (fun c_7 => ?_)
        · have hF := ob_pos c_7 hF
          exact hJ_70 h_6 hF H _ ls hP hD hS (lv_sub hl [] rfl)
        · have hF := ob_neg c_7 hF
          refine lv_iconst (v := 1) hx hb dX8_tells_66 (by decide) ?_
          refine lv_goto (tgt := 71) hx hb dX8_tells_67 (by decide) ?_
          exact hJ_71 h_6 1 hF H _ ls hP hD hS (lv_sub hl [] rfl)
    · have hF := ob_neg c_3 hF
      refine lv_aload_n hx hb dX8_tells_19 rfl (lv_at hl 0 rfl) ?_
      refine va_get (D := G) (ci := 8) (v := .ref (q 1)) (C := RX8) (T := TX8) (N := 8) hx hb hts iX8 hown hK hP 0 wC_at0 rfl 0 (by decide) (hts _ m_738) (fun _ h9 => h9) rfl dX8_tells_20 ?_
      refine lv_iload_n hx hb dX8_tells_23 rfl (lv_at hl 1 rfl) ?_
      refine lv_iconst (v := 4) hx hb dX8_tells_24 (by decide) ?_
      obtain ⟨r_8, h_8, e_8, hF⟩ := ob2_some hF
      refine gx_calli (gx_runV (As := [.int p1, .int 4]) (rest := []) ⟨hx, hb, hml, hown, hts⟩ (c_X4_ofGoose l G cI cJ cZ cB cT q h_1 p1 4 r_8 h_8 e_8 H.size) (gG_V m_754 m_15 m_16 m_7 m_13) rfl e_X4_ofGoose ⟨Nat.le_of_ble_eq_true rfl, Nat.le_of_ble_eq_true rfl⟩ hK hP hD hE hS hA 1 wC_at1 rfl rfl hl.1 rfl (Nat.le_of_ble_eq_true rfl) dX8_tells_25 ⟨Nat.le_refl _, Nat.le_refl _⟩) hP hD hS hA (fun x_8 u_8 H locs hw_8 hP hD hS => ?_)
      subst x_8
      refine lv_iconst (v := 4) hx hb dX8_tells_28 (by decide) ?_
      refine lv_icmp_ne (tgt := 36) hx hb dX8_tells_29 (by decide) (fun c_9 => ?_) (fun c_9 => ?_)
      · have hF := ob_neg c_9 hF
        refine lv_iconst (v := 0) hx hb dX8_tells_36 (by decide) ?_
        exact hJ_37 h_8 0 hF H _ ls hP hD hS (lv_sub hl [] rfl)
      · have hF := ob_pos c_9 hF
        refine lv_iconst (v := 1) hx hb dX8_tells_32 (by decide) ?_
        refine lv_goto (tgt := 37) hx hb dX8_tells_33 (by decide) ?_
        exact hJ_37 h_8 1 hF H _ ls hP hD hS (lv_sub hl [] rfl)
  · have hF := ob_neg c_2 hF
    refine lv_iconst (v := 0) hx hb dX8_tells_13 (by decide) ?_
    obtain ⟨rfl, rfl⟩ := ob_pair hF
    exact gw_zret () hx hb hr hlocks rfl hP hD hS rfl dX8_tells_14
def f_X8_halvesHad_79 (k6 : HS → Int32 → Int32 → Int32 → Int32 → Int32 → Int32 → Option (Int32 × HS)) (h : HS) (x1 : Int32) (x2 : Int32) (x3 : Int32) (x4 : Int32) (x5 : Int32) (x6 : Int32) : Option (Int32 × HS) := (k6 h x1 x2 x3 x4 x5 (x6 + 1))
def f_X8_halvesHad_50 (k6 : HS → Int32 → Int32 → Int32 → Int32 → Int32 → Int32 → Option (Int32 × HS)) (h : HS) (x1 : Int32) (x2 : Int32) (x3 : Int32) (x4 : Int32) (x5 : Int32) (x6 : Int32) : Option (Int32 × HS) := (ob2 (f_X8_tells h x6 x1 x2) (fun r_6 h_6 => (if r_6 = 0 then (f_X8_halvesHad_79 k6 h_6 x1 x2 x3 x4 x5 x6) else (ob2 (f_X4_ofGoose h_6 x6 3) (fun r_8 h_8 => (ob1 (f_X8_halvesOf r_8) (fun r_9 => (f_X8_halvesHad_79 k6 h_8 x1 x2 x3 x4 (x5 ||| r_9) x6))))))))
def f_X8_halvesHad_6 : Nat → HS → Int32 → Int32 → Int32 → Int32 → Int32 → Int32 → Option (Int32 × HS)
  | 0, _, _, _, _, _, _, _ => none
  | n + 1, h, x1, x2, x3, x4, x5, x6 => (if (eI h 1 3) ≤ x6 then (some (x5, h)) else (ob2 (f_X4_ofGoose h x6 7) (fun r_2 h_2 => (if r_2 < x3 then (f_X8_halvesHad_50 (f_X8_halvesHad_6 n) h_2 x1 x2 x3 x4 x5 x6) else (if r_2 = x3 then (if x4 ≤ x6 then (f_X8_halvesHad_79 (f_X8_halvesHad_6 n) h_2 x1 x2 x3 x4 x5 x6) else (f_X8_halvesHad_50 (f_X8_halvesHad_6 n) h_2 x1 x2 x3 x4 x5 x6)) else (f_X8_halvesHad_79 (f_X8_halvesHad_6 n) h_2 x1 x2 x3 x4 x5 x6))))))
theorem f_X8_halvesHad_6_s (n : Nat) (h : HS) (x1 : Int32) (x2 : Int32) (x3 : Int32) (x4 : Int32) (x5 : Int32) (x6 : Int32) : f_X8_halvesHad_6 (n + 1) h x1 x2 x3 x4 x5 x6 = (if (eI h 1 3) ≤ x6 then (some (x5, h)) else (ob2 (f_X4_ofGoose h x6 7) (fun r_2 h_2 => (if r_2 < x3 then (f_X8_halvesHad_50 (f_X8_halvesHad_6 n) h_2 x1 x2 x3 x4 x5 x6) else (if r_2 = x3 then (if x4 ≤ x6 then (f_X8_halvesHad_79 (f_X8_halvesHad_6 n) h_2 x1 x2 x3 x4 x5 x6) else (f_X8_halvesHad_50 (f_X8_halvesHad_6 n) h_2 x1 x2 x3 x4 x5 x6)) else (f_X8_halvesHad_79 (f_X8_halvesHad_6 n) h_2 x1 x2 x3 x4 x5 x6)))))) := rfl
def f_X8_halvesHad (h : HS) (p1 : Int32) (p2 : Int32) (p3 : Int32) (p4 : Int32) : Option (Int32 × HS) := (f_X8_halvesHad_6 8589934592 h p1 p2 p3 p4 0 0)
theorem e_X8_halvesOf : yX8_halvesOf.cls = RX8 ∧ yX8_halvesOf.cls ≠ "java/lang/invoke/MethodHandle" ∧ yX8_halvesOf.cls ≠ "java/lang/invoke/VarHandle" ∧ (parseMethodDescriptor yX8_halvesOf.desc).map (fun d => d.parameters.length) = some 1 := by decide +kernel
theorem e_X8_tells : yX8_tells.cls = RX8 ∧ yX8_tells.cls ≠ "java/lang/invoke/MethodHandle" ∧ yX8_tells.cls ≠ "java/lang/invoke/VarHandle" ∧ (parseMethodDescriptor yX8_tells.desc).map (fun d => d.parameters.length) = some 3 := by decide +kernel
set_option maxHeartbeats 4000000 in
set_option maxRecDepth 100000 in
theorem c_X8_halvesHad (l : Launch) (G : va_G) (cI cJ cZ cB cT : ClassId) (q : Nat → Nat) (h : HS) (p1 : Int32) (p2 : Int32) (p3 : Int32) (p4 : Int32) (rr : Int32) (hh : HS) (hF : f_X8_halvesHad h p1 p2 p3 p4 = some (rr, hh)) : gMi l yX8_halvesHad (gws yX8_halvesHad cX8_halvesHad 8 (some .int)) 6 G (gT cI cJ cZ cB cT) [.ref (q 0), .int p1, .int p2, .int p3, .int p4] (wC q cI cJ cZ cB cT h) (fun x (_ : Unit) => x = rr) (fun (_ : Unit) => (wC q cI cJ cZ cB cT hh)) := by
  intro sz
  refine gM_start (y := yX8_halvesHad) (av := [.ref (q 0), .int p1, .int p2, .int p3, .int p4]) (ws := (wC q cI cJ cZ cB cT h)) (Qf := fun A => va_Qi (fun x (_ : Unit) => x = rr) (gB G (fun (_ : Unit) => (wC q cI cJ cZ cB cT hh)) A) A) (cc := cX8_halvesHad) (maxL := 8) (ret := (some .int)) (by decide) (Nat.le_of_ble_eq_true rfl) ?_
  intro p e s m args below meth c A ls H hx hb hr hts hown hin hlocks hml hP hK hD hA hS hl hE
  have hl : lv_has ls 8 [(0, .ref (q 0)), (1, .int p1), (2, .int p2), (3, .int p3), (4, .int p4)] := hl
  have hJ_6 : ∀ (n_6 : Nat) (h : HS) (x1 : Int32) (x2 : Int32) (x3 : Int32) (x4 : Int32) (x5 : Int32) (x6 : Int32), f_X8_halvesHad_6 n_6 h x1 x2 x3 x4 x5 x6 = some (rr, hh) → ∀ (H : Heap) (locs : List Loc) (ls : Array Slot), va_P G vwCl (wC q cI cJ cZ cB cT h) H → va_D A (wC q cI cJ cZ cB cT h) → va_S A s.heap H locs → lv_has ls 8 [(0, .ref (q 0)), (1, .int x1), (2, .int x2), (3, .int x3), (4, .int x4), (5, .int x5), (6, .int x6)] → W p l e (gRm 6) s m args below meth c H locs 0 0 (MQ below (va_Qi (fun x (_ : Unit) => x = rr) (gB G (fun (_ : Unit) => (wC q cI cJ cZ cB cT hh)) A) A) args s 0 0 A) (F0 m 6 ls []) := by
    intro n_6
    induction n_6 with
    | zero =>
      intro h x1 x2 x3 x4 x5 x6 hF
      exact absurd hF (by simp [f_X8_halvesHad_6])
    | succ n_6 ih_6 =>
      have hJ_79 : ∀ (h : HS) (x1 : Int32) (x2 : Int32) (x3 : Int32) (x4 : Int32) (x5 : Int32) (x6 : Int32), f_X8_halvesHad_79 (f_X8_halvesHad_6 n_6) h x1 x2 x3 x4 x5 x6 = some (rr, hh) → ∀ (H : Heap) (locs : List Loc) (ls : Array Slot), va_P G vwCl (wC q cI cJ cZ cB cT h) H → va_D A (wC q cI cJ cZ cB cT h) → va_S A s.heap H locs → lv_has ls 8 [(0, .ref (q 0)), (1, .int x1), (2, .int x2), (3, .int x3), (4, .int x4), (5, .int x5), (6, .int x6)] → W p l e (gRm 6) s m args below meth c H locs 0 0 (MQ below (va_Qi (fun x (_ : Unit) => x = rr) (gB G (fun (_ : Unit) => (wC q cI cJ cZ cB cT hh)) A) A) args s 0 0 A) (F0 m 79 ls []) := by
        intro h x1 x2 x3 x4 x5 x6 hF H locs ls hP hD hS hl
        unfold f_X8_halvesHad_79 at hF
        refine lv_iinc (v := (x6 + 1)) (lv' := [(6, .int (x6 + 1)), (0, .ref (q 0)), (1, .int x1), (2, .int x2), (3, .int x3), (4, .int x4), (5, .int x5)]) hx hb dX8_halvesHad_79 hl (k := 6) rfl rfl (by decide) rfl (fun ls hl => ?_)
        refine lv_goto (tgt := 6) hx hb dX8_halvesHad_82 (by decide) ?_
        exact ih_6 h x1 x2 x3 x4 x5 (x6 + 1) hF H _ ls hP hD hS (lv_sub hl [1, 2, 3, 4, 5, 6, 0] rfl)
      have hJ_50 : ∀ (h : HS) (x1 : Int32) (x2 : Int32) (x3 : Int32) (x4 : Int32) (x5 : Int32) (x6 : Int32), f_X8_halvesHad_50 (f_X8_halvesHad_6 n_6) h x1 x2 x3 x4 x5 x6 = some (rr, hh) → ∀ (H : Heap) (locs : List Loc) (ls : Array Slot), va_P G vwCl (wC q cI cJ cZ cB cT h) H → va_D A (wC q cI cJ cZ cB cT h) → va_S A s.heap H locs → lv_has ls 8 [(0, .ref (q 0)), (1, .int x1), (2, .int x2), (3, .int x3), (4, .int x4), (5, .int x5), (6, .int x6)] → W p l e (gRm 6) s m args below meth c H locs 0 0 (MQ below (va_Qi (fun x (_ : Unit) => x = rr) (gB G (fun (_ : Unit) => (wC q cI cJ cZ cB cT hh)) A) A) args s 0 0 A) (F0 m 50 ls []) := by
        intro h x1 x2 x3 x4 x5 x6 hF H locs ls hP hD hS hl
        unfold f_X8_halvesHad_50 at hF
        refine lv_aload_n hx hb dX8_halvesHad_50 rfl (lv_at hl 0 rfl) ?_
        refine lv_iload hx hb dX8_halvesHad_51 (lv_at hl 6 rfl) ?_
        refine lv_iload_n hx hb dX8_halvesHad_53 rfl (lv_at hl 1 rfl) ?_
        refine lv_iload_n hx hb dX8_halvesHad_54 rfl (lv_at hl 2 rfl) ?_
        obtain ⟨r_6, h_6, e_6, hF⟩ := ob2_some hF
        refine gx_calli (gx_runV (As := [.int x6, .int x1, .int x2]) (rest := []) ⟨hx, hb, hml, hown, hts⟩ (c_X8_tells l G cI cJ cZ cB cT q h x6 x1 x2 r_6 h_6 e_6 H.size) (gG_V m_842 m_843 m_844 m_60 m_841) rfl e_X8_tells ⟨Nat.le_of_ble_eq_true rfl, Nat.le_of_ble_eq_true rfl⟩ hK hP hD hE hS hA 0 wC_at0 rfl rfl hl.1 rfl (Nat.le_of_ble_eq_true rfl) dX8_halvesHad_55 ⟨Nat.le_refl _, Nat.le_refl _⟩) hP hD hS hA (fun x_6 u_6 H locs hw_6 hP hD hS => ?_)
        subst x_6
        refine lv_if_eq (tgt := 79) hx hb dX8_halvesHad_58 (by decide) (fun c_7 => ?_) (fun c_7 => ?_)
        · have hF := ob_pos c_7 hF
          exact hJ_79 h_6 x1 x2 x3 x4 x5 x6 hF H _ ls hP hD hS (lv_sub hl [0, 1, 2, 3, 4, 5, 6] rfl)
        · have hF := ob_neg c_7 hF
          refine lv_iload hx hb dX8_halvesHad_61 (lv_at hl 5 rfl) ?_
          refine lv_aload_n hx hb dX8_halvesHad_63 rfl (lv_at hl 0 rfl) ?_
          refine va_get (D := G) (ci := 8) (v := .ref (q 1)) (C := RX8) (T := TX8) (N := 8) hx hb hts iX8 hown hK hP 0 wC_at0 rfl 0 (by decide) (hts _ m_738) (fun _ h9 => h9) rfl dX8_halvesHad_64 ?_
          refine lv_iload hx hb dX8_halvesHad_67 (lv_at hl 6 rfl) ?_
          refine lv_iconst (v := 3) hx hb dX8_halvesHad_69 (by decide) ?_
          obtain ⟨r_8, h_8, e_8, hF⟩ := ob2_some hF
          refine gx_calli (gx_runV (As := [.int x6, .int 3]) (rest := [.int x5]) ⟨hx, hb, hml, hown, hts⟩ (c_X4_ofGoose l G cI cJ cZ cB cT q h_6 x6 3 r_8 h_8 e_8 H.size) (gG_V m_754 m_15 m_16 m_7 m_13) rfl e_X4_ofGoose ⟨Nat.le_of_ble_eq_true rfl, Nat.le_of_ble_eq_true rfl⟩ hK hP hD hE hS hA 1 wC_at1 rfl rfl hl.1 rfl (Nat.le_of_ble_eq_true rfl) dX8_halvesHad_70 ⟨Nat.le_refl _, Nat.le_refl _⟩) hP hD hS hA (fun x_8 u_8 H locs hw_8 hP hD hS => ?_)
          subst x_8
          obtain ⟨r_9, e_9, hF⟩ := ob1_some hF
          refine gx_calli0 (gx_runS0 (As := [.int r_8]) (rest := [.int x5]) ⟨hx, hb, hml, hown, hts⟩ (c_X8_halvesOf l G cI cJ cZ cB cT   r_8 r_9 e_9 H.size) (gG_S m_845 m_596 m_60 m_595) rfl e_X8_halvesOf ⟨Nat.le_of_ble_eq_true rfl, Nat.le_of_ble_eq_true rfl⟩ hK hE hS hA rfl hl.1 rfl (Nat.le_of_ble_eq_true rfl) dX8_halvesHad_73 ⟨Nat.le_refl _, Nat.le_refl _⟩) hP hD hS hA (fun x_9 u_9 H locs hw_9 hP hD hS => ?_)
          subst x_9
          refine lv_ior hx hb dX8_halvesHad_76 ?_
          refine lv_istore (lv' := [(5, .int (x5 ||| r_9)), (0, .ref (q 0)), (1, .int x1), (2, .int x2), (3, .int x3), (4, .int x4), (6, .int x6)]) hx hb dX8_halvesHad_77 hl (by decide) rfl (fun ls hl => ?_)
          exact hJ_79 h_8 x1 x2 x3 x4 (x5 ||| r_9) x6 hF H _ ls hP hD hS (lv_sub hl [1, 2, 3, 4, 5, 0, 6] rfl)
      intro h x1 x2 x3 x4 x5 x6 hF H locs ls hP hD hS hl
      rw [f_X8_halvesHad_6_s] at hF
      refine lv_iload hx hb dX8_halvesHad_6 (lv_at hl 6 rfl) ?_
      refine lv_aload_n hx hb dX8_halvesHad_8 rfl (lv_at hl 0 rfl) ?_
      refine va_get (D := G) (ci := 8) (v := .ref (q 1)) (C := RX8) (T := TX8) (N := 8) hx hb hts iX8 hown hK hP 0 wC_at0 rfl 0 (by decide) (hts _ m_738) (fun _ h9 => h9) rfl dX8_halvesHad_9 ?_
      refine va_get (D := G) (ci := 4) (v := .int (eI h 1 3)) (C := RX4) (T := TX4) (N := 13) hx hb hts iX4 hown hK hP 1 wC_at1 rfl 3 (by decide) (hts _ m_778) (fun _ h9 => h9) rfl dX8_halvesHad_12 ?_
      refine lv_icmp_ge (tgt := 85) hx hb dX8_halvesHad_15 (by decide) (fun c_1 => ?_) (fun c_1 => ?_)
      · have hF := ob_pos c_1 hF
        refine lv_iload hx hb dX8_halvesHad_85 (lv_at hl 5 rfl) ?_
        obtain ⟨rfl, rfl⟩ := ob_pair hF
        exact gw_iret () hx hb hr hlocks hP hD hS rfl dX8_halvesHad_87
      · have hF := ob_neg c_1 hF
        refine lv_aload_n hx hb dX8_halvesHad_18 rfl (lv_at hl 0 rfl) ?_
        refine va_get (D := G) (ci := 8) (v := .ref (q 1)) (C := RX8) (T := TX8) (N := 8) hx hb hts iX8 hown hK hP 0 wC_at0 rfl 0 (by decide) (hts _ m_738) (fun _ h9 => h9) rfl dX8_halvesHad_19 ?_
        refine lv_iload hx hb dX8_halvesHad_22 (lv_at hl 6 rfl) ?_
        refine lv_bipush (v := 7) hx hb dX8_halvesHad_24 (by decide) ?_
        obtain ⟨r_2, h_2, e_2, hF⟩ := ob2_some hF
        refine gx_calli (gx_runV (As := [.int x6, .int 7]) (rest := []) ⟨hx, hb, hml, hown, hts⟩ (c_X4_ofGoose l G cI cJ cZ cB cT q h x6 7 r_2 h_2 e_2 H.size) (gG_V m_754 m_15 m_16 m_7 m_13) rfl e_X4_ofGoose ⟨Nat.le_of_ble_eq_true rfl, Nat.le_of_ble_eq_true rfl⟩ hK hP hD hE hS hA 1 wC_at1 rfl rfl hl.1 rfl (Nat.le_of_ble_eq_true rfl) dX8_halvesHad_26 ⟨Nat.le_refl _, Nat.le_refl _⟩) hP hD hS hA (fun x_2 u_2 H locs hw_2 hP hD hS => ?_)
        subst x_2
        refine lv_istore (lv' := [(7, .int r_2), (0, .ref (q 0)), (1, .int x1), (2, .int x2), (3, .int x3), (4, .int x4), (5, .int x5), (6, .int x6)]) hx hb dX8_halvesHad_29 hl (by decide) rfl (fun ls hl => ?_)
        refine lv_iload hx hb dX8_halvesHad_31 (lv_at hl 0 rfl) ?_
        refine lv_iload_n hx hb dX8_halvesHad_33 rfl (lv_at hl 4 rfl) ?_
        refine lv_icmp_lt (tgt := 50) hx hb dX8_halvesHad_34 (by decide) (fun c_3 => ?_) (fun c_3 => ?_)
        · have hF := ob_pos c_3 hF
          exact hJ_50 h_2 x1 x2 x3 x4 x5 x6 hF H _ ls hP hD hS (lv_sub hl [1, 2, 3, 4, 5, 6, 7] rfl)
        · have hF := ob_neg c_3 hF
          refine lv_iload hx hb dX8_halvesHad_37 (lv_at hl 0 rfl) ?_
          refine lv_iload_n hx hb dX8_halvesHad_39 rfl (lv_at hl 4 rfl) ?_
          refine lv_icmp_ne (tgt := 79) hx hb dX8_halvesHad_40 (by decide) (fun c_4 => ?_) (fun c_4 => ?_)
          · have hF := ob_neg c_4 hF
            exact hJ_79 h_2 x1 x2 x3 x4 x5 x6 hF H _ ls hP hD hS (lv_sub hl [1, 2, 3, 4, 5, 6, 7] rfl)
          · have hF := ob_pos c_4 hF
            refine lv_iload hx hb dX8_halvesHad_43 (lv_at hl 7 rfl) ?_
            refine lv_iload hx hb dX8_halvesHad_45 (lv_at hl 5 rfl) ?_
            refine lv_icmp_ge (tgt := 79) hx hb dX8_halvesHad_47 (by decide) (fun c_5 => ?_) (fun c_5 => ?_)
            · have hF := ob_pos c_5 hF
              exact hJ_79 h_2 x1 x2 x3 x4 x5 x6 hF H _ ls hP hD hS (lv_sub hl [1, 2, 3, 4, 5, 6, 7] rfl)
            · have hF := ob_neg c_5 hF
              exact hJ_50 h_2 x1 x2 x3 x4 x5 x6 hF H _ ls hP hD hS (lv_sub hl [1, 2, 3, 4, 5, 6, 7] rfl)
  unfold f_X8_halvesHad at hF
  refine lv_iconst (v := 0) hx hb dX8_halvesHad_0 (by decide) ?_
  refine lv_istore (lv' := [(5, .int 0), (0, .ref (q 0)), (1, .int p1), (2, .int p2), (3, .int p3), (4, .int p4)]) hx hb dX8_halvesHad_1 hl (by decide) rfl (fun ls hl => ?_)
  refine lv_iconst (v := 0) hx hb dX8_halvesHad_3 (by decide) ?_
  refine lv_istore (lv' := [(6, .int 0), (5, .int 0), (0, .ref (q 0)), (1, .int p1), (2, .int p2), (3, .int p3), (4, .int p4)]) hx hb dX8_halvesHad_4 hl (by decide) rfl (fun ls hl => ?_)
  exact hJ_6 8589934592 h p1 p2 p3 p4 0 0 hF H _ ls hP hD hS (lv_sub hl [2, 3, 4, 5, 6, 1, 0] rfl)
def f_X8_known_18 (h : HS) : Option (Int32 × HS) := (some ((-1), h))
def f_X8_known_57 (h : HS) (x3 : Int32) (y0 : Int32) : Option (Int32 × HS) := (some ((x3 + y0), h))
def f_X8_known_38 (h : HS) (x1 : Int32) (x2 : Int32) (y0 : Int32) : Option (Int32 × HS) := (ob2 (f_X8_halvesHad h x1 1 x2 10) (fun r_7 h_7 => (if r_7 = 3 then (f_X8_known_57 h_7 y0 2) else (f_X8_known_57 h_7 y0 0))))
def f_X8_known (h : HS) (p1 : Int32) (p2 : Int32) : Option (Int32 × HS) := (ob1 (f_X8_isLetter p1) (fun r_1 => (if r_1 = 0 then (f_X8_known_18 h) else (if p2 < 0 then (f_X8_known_18 h) else (if p2 ≤ 999 then (ob2 (f_X8_halvesHad h p1 0 p2 10) (fun r_5 h_5 => (if r_5 = 3 then (f_X8_known_38 h_5 p1 p2 1) else (f_X8_known_38 h_5 p1 p2 0)))) else (f_X8_known_18 h))))))
theorem e_X8_halvesHad : yX8_halvesHad.cls = RX8 ∧ yX8_halvesHad.cls ≠ "java/lang/invoke/MethodHandle" ∧ yX8_halvesHad.cls ≠ "java/lang/invoke/VarHandle" ∧ (parseMethodDescriptor yX8_halvesHad.desc).map (fun d => d.parameters.length) = some 4 := by decide +kernel
set_option maxHeartbeats 4000000 in
set_option maxRecDepth 100000 in
theorem c_X8_known (l : Launch) (G : va_G) (cI cJ cZ cB cT : ClassId) (q : Nat → Nat) (h : HS) (p1 : Int32) (p2 : Int32) (rr : Int32) (hh : HS) (hF : f_X8_known h p1 p2 = some (rr, hh)) : gMi l yX8_known (gws yX8_known cX8_known 5 (some .int)) 7 G (gT cI cJ cZ cB cT) [.ref (q 0), .int p1, .int p2] (wC q cI cJ cZ cB cT h) (fun x (_ : Unit) => x = rr) (fun (_ : Unit) => (wC q cI cJ cZ cB cT hh)) := by
  intro sz
  refine gM_start (y := yX8_known) (av := [.ref (q 0), .int p1, .int p2]) (ws := (wC q cI cJ cZ cB cT h)) (Qf := fun A => va_Qi (fun x (_ : Unit) => x = rr) (gB G (fun (_ : Unit) => (wC q cI cJ cZ cB cT hh)) A) A) (cc := cX8_known) (maxL := 5) (ret := (some .int)) (by decide) (Nat.le_of_ble_eq_true rfl) ?_
  intro p e s m args below meth c A ls H hx hb hr hts hown hin hlocks hml hP hK hD hA hS hl hE
  have hl : lv_has ls 5 [(0, .ref (q 0)), (1, .int p1), (2, .int p2)] := hl
  have hJ_18 : ∀ (h : HS), f_X8_known_18 h = some (rr, hh) → ∀ (H : Heap) (locs : List Loc) (ls : Array Slot), va_P G vwCl (wC q cI cJ cZ cB cT h) H → va_D A (wC q cI cJ cZ cB cT h) → va_S A s.heap H locs → lv_has ls 5 [] → W p l e (gRm 7) s m args below meth c H locs 0 0 (MQ below (va_Qi (fun x (_ : Unit) => x = rr) (gB G (fun (_ : Unit) => (wC q cI cJ cZ cB cT hh)) A) A) args s 0 0 A) (F0 m 18 ls []) := by
    intro h hF H locs ls hP hD hS hl
    unfold f_X8_known_18 at hF
    refine lv_iconst (v := (-1)) hx hb dX8_known_18 (by decide) ?_
    obtain ⟨rfl, rfl⟩ := ob_pair hF
    exact gw_iret () hx hb hr hlocks hP hD hS rfl dX8_known_19
  have hJ_57 : ∀ (h : HS) (x3 : Int32) (y0 : Int32), f_X8_known_57 h x3 y0 = some (rr, hh) → ∀ (H : Heap) (locs : List Loc) (ls : Array Slot), va_P G vwCl (wC q cI cJ cZ cB cT h) H → va_D A (wC q cI cJ cZ cB cT h) → va_S A s.heap H locs → lv_has ls 5 [(3, .int x3)] → W p l e (gRm 7) s m args below meth c H locs 0 0 (MQ below (va_Qi (fun x (_ : Unit) => x = rr) (gB G (fun (_ : Unit) => (wC q cI cJ cZ cB cT hh)) A) A) args s 0 0 A) (F0 m 57 ls [.int y0]) := by
    intro h x3 y0 hF H locs ls hP hD hS hl
    unfold f_X8_known_57 at hF
    refine lv_istore (lv' := [(4, .int y0), (3, .int x3)]) hx hb dX8_known_57 hl (by decide) rfl (fun ls hl => ?_)
    refine lv_iload_n hx hb dX8_known_59 rfl (lv_at hl 1 rfl) ?_
    refine lv_iload hx hb dX8_known_60 (lv_at hl 0 rfl) ?_
    refine lv_iadd hx hb dX8_known_62 ?_
    obtain ⟨rfl, rfl⟩ := ob_pair hF
    exact gw_iret () hx hb hr hlocks hP hD hS rfl dX8_known_63
  have hJ_38 : ∀ (h : HS) (x1 : Int32) (x2 : Int32) (y0 : Int32), f_X8_known_38 h x1 x2 y0 = some (rr, hh) → ∀ (H : Heap) (locs : List Loc) (ls : Array Slot), va_P G vwCl (wC q cI cJ cZ cB cT h) H → va_D A (wC q cI cJ cZ cB cT h) → va_S A s.heap H locs → lv_has ls 5 [(0, .ref (q 0)), (1, .int x1), (2, .int x2)] → W p l e (gRm 7) s m args below meth c H locs 0 0 (MQ below (va_Qi (fun x (_ : Unit) => x = rr) (gB G (fun (_ : Unit) => (wC q cI cJ cZ cB cT hh)) A) A) args s 0 0 A) (F0 m 38 ls [.int y0]) := by
    intro h x1 x2 y0 hF H locs ls hP hD hS hl
    unfold f_X8_known_38 at hF
    refine lv_istore_n (lv' := [(3, .int y0), (0, .ref (q 0)), (1, .int x1), (2, .int x2)]) hx hb dX8_known_38 rfl hl (by decide) rfl (fun ls hl => ?_)
    refine lv_aload_n hx hb dX8_known_39 rfl (lv_at hl 1 rfl) ?_
    refine lv_iload_n hx hb dX8_known_40 rfl (lv_at hl 2 rfl) ?_
    refine lv_iconst (v := 1) hx hb dX8_known_41 (by decide) ?_
    refine lv_iload_n hx hb dX8_known_42 rfl (lv_at hl 3 rfl) ?_
    refine lv_bipush (v := 10) hx hb dX8_known_43 (by decide) ?_
    obtain ⟨r_7, h_7, e_7, hF⟩ := ob2_some hF
    refine gx_calli (gx_runV (As := [.int x1, .int 1, .int x2, .int 10]) (rest := []) ⟨hx, hb, hml, hown, hts⟩ (c_X8_halvesHad l G cI cJ cZ cB cT q h x1 1 x2 10 r_7 h_7 e_7 H.size) (gG_V m_847 m_848 m_849 m_60 m_846) rfl e_X8_halvesHad ⟨Nat.le_of_ble_eq_true rfl, Nat.le_of_ble_eq_true rfl⟩ hK hP hD hE hS hA 0 wC_at0 rfl rfl hl.1 rfl (Nat.le_of_ble_eq_true rfl) dX8_known_45 ⟨Nat.le_refl _, Nat.le_refl _⟩) hP hD hS hA (fun x_7 u_7 H locs hw_7 hP hD hS => ?_)
    subst x_7
    refine lv_iconst (v := 3) hx hb dX8_known_48 (by decide) ?_
    refine lv_icmp_ne (tgt := 56) hx hb dX8_known_49 (by decide) (fun c_8 => ?_) (fun c_8 => ?_)
    · have hF := ob_neg c_8 hF
      refine lv_iconst (v := 0) hx hb dX8_known_56 (by decide) ?_
      exact hJ_57 h_7 y0 0 hF H _ ls hP hD hS (lv_sub hl [0] rfl)
    · have hF := ob_pos c_8 hF
      refine lv_iconst (v := 2) hx hb dX8_known_52 (by decide) ?_
      refine lv_goto (tgt := 57) hx hb dX8_known_53 (by decide) ?_
      exact hJ_57 h_7 y0 2 hF H _ ls hP hD hS (lv_sub hl [0] rfl)
  unfold f_X8_known at hF
  refine lv_iload_n hx hb dX8_known_0 rfl (lv_at hl 1 rfl) ?_
  obtain ⟨r_1, e_1, hF⟩ := ob1_some hF
  refine gx_calli0 (gx_runS0 (As := [.int p1]) (rest := []) ⟨hx, hb, hml, hown, hts⟩ (c_X8_isLetter l G cI cJ cZ cB cT   p1 r_1 e_1 H.size) (gG_S m_58 m_59 m_60 m_57) rfl e_X8_isLetter ⟨Nat.le_of_ble_eq_true rfl, Nat.le_of_ble_eq_true rfl⟩ hK hE hS hA rfl hl.1 rfl (Nat.le_of_ble_eq_true rfl) dX8_known_1 ⟨Nat.le_refl _, Nat.le_refl _⟩) hP hD hS hA (fun x_1 u_1 H locs hw_1 hP hD hS => ?_)
  subst x_1
  refine lv_if_eq (tgt := 18) hx hb dX8_known_4 (by decide) (fun c_2 => ?_) (fun c_2 => ?_)
  · have hF := ob_pos c_2 hF
    exact hJ_18 h hF H _ ls hP hD hS (lv_sub hl [] rfl)
  · have hF := ob_neg c_2 hF
    refine lv_iload_n hx hb dX8_known_7 rfl (lv_at hl 2 rfl) ?_
    refine lv_if_lt (tgt := 18) hx hb dX8_known_8 (by decide) (fun c_3 => ?_) (fun c_3 => ?_)
    · have hF := ob_pos c_3 hF
      exact hJ_18 h hF H _ ls hP hD hS (lv_sub hl [] rfl)
    · have hF := ob_neg c_3 hF
      refine lv_iload_n hx hb dX8_known_11 rfl (lv_at hl 2 rfl) ?_
      refine lv_sipush (v := 999) hx hb dX8_known_12 (by decide) ?_
      refine lv_icmp_le (tgt := 20) hx hb dX8_known_15 (by decide) (fun c_4 => ?_) (fun c_4 => ?_)
      · have hF := ob_pos c_4 hF
        refine lv_aload_n hx hb dX8_known_20 rfl (lv_at hl 0 rfl) ?_
        refine lv_iload_n hx hb dX8_known_21 rfl (lv_at hl 1 rfl) ?_
        refine lv_iconst (v := 0) hx hb dX8_known_22 (by decide) ?_
        refine lv_iload_n hx hb dX8_known_23 rfl (lv_at hl 2 rfl) ?_
        refine lv_bipush (v := 10) hx hb dX8_known_24 (by decide) ?_
        obtain ⟨r_5, h_5, e_5, hF⟩ := ob2_some hF
        refine gx_calli (gx_runV (As := [.int p1, .int 0, .int p2, .int 10]) (rest := []) ⟨hx, hb, hml, hown, hts⟩ (c_X8_halvesHad l G cI cJ cZ cB cT q h p1 0 p2 10 r_5 h_5 e_5 H.size) (gG_V m_847 m_848 m_849 m_60 m_846) rfl e_X8_halvesHad ⟨Nat.le_of_ble_eq_true rfl, Nat.le_of_ble_eq_true rfl⟩ hK hP hD hE hS hA 0 wC_at0 rfl rfl hl.1 rfl (Nat.le_of_ble_eq_true rfl) dX8_known_26 ⟨Nat.le_refl _, Nat.le_refl _⟩) hP hD hS hA (fun x_5 u_5 H locs hw_5 hP hD hS => ?_)
        subst x_5
        refine lv_iconst (v := 3) hx hb dX8_known_29 (by decide) ?_
        refine lv_icmp_ne (tgt := 37) hx hb dX8_known_30 (by decide) (fun c_6 => ?_) (fun c_6 => ?_)
        · have hF := ob_neg c_6 hF
          refine lv_iconst (v := 0) hx hb dX8_known_37 (by decide) ?_
          exact hJ_38 h_5 p1 p2 0 hF H _ ls hP hD hS (lv_sub hl [0, 1, 2] rfl)
        · have hF := ob_pos c_6 hF
          refine lv_iconst (v := 1) hx hb dX8_known_33 (by decide) ?_
          refine lv_goto (tgt := 38) hx hb dX8_known_34 (by decide) ?_
          exact hJ_38 h_5 p1 p2 1 hF H _ ls hP hD hS (lv_sub hl [0, 1, 2] rfl)
      · have hF := ob_neg c_4 hF
        exact hJ_18 h hF H _ ls hP hD hS (lv_sub hl [] rfl)
def f_X8_led_101 (k14 : HS → Int32 → Int32 → Int32 → Int32 → Option (Int32 × HS)) (h : HS) (x1 : Int32) (x2 : Int32) (x3 : Int32) (x4 : Int32) : Option (Int32 × HS) := (k14 h x1 x2 x3 (x4 + 1))
def f_X8_led_64 (k14 : HS → Int32 → Int32 → Int32 → Int32 → Option (Int32 × HS)) (h : HS) (x1 : Int32) (x2 : Int32) (x3 : Int32) (x4 : Int32) (x5 : Int32) (y0 : Int32) : Option (Int32 × HS) := (if y0 = 0 then (f_X8_led_101 k14 h x1 x2 x3 x4) else (ob2 (f_X8_tells h x4 x1 x2) (fun r_9 h_9 => (if r_9 = 0 then (f_X8_led_101 k14 h_9 x1 x2 x3 x4) else (ob2 (f_X8_halvesHad h_9 x1 x2 x5 (x4 + 1)) (fun r_11 h_11 => (if r_11 = 3 then (f_X8_led_101 k14 h_11 x1 x2 x4 x4) else (f_X8_led_101 k14 h_11 x1 x2 x3 x4))))))))
def f_X8_led_59 (k14 : HS → Int32 → Int32 → Int32 → Int32 → Option (Int32 × HS)) (h : HS) (x1 : Int32) (x2 : Int32) (x3 : Int32) (x4 : Int32) (x5 : Int32) : Option (Int32 × HS) := (f_X8_led_64 k14 h x1 x2 x3 x4 x5 1)
def f_X8_led_14 : Nat → HS → Int32 → Int32 → Int32 → Int32 → Option (Int32 × HS)
  | 0, _, _, _, _, _ => none
  | n + 1, h, x1, x2, x3, x4 => (if (eI h 1 3) ≤ x4 then (some (x3, h)) else (ob2 (f_X4_ofGoose h x4 7) (fun r_4 h_4 => (if x3 = (-1) then (f_X8_led_59 (f_X8_led_14 n) h_4 x1 x2 x3 x4 r_4) else (ob2 (f_X4_ofGoose h_4 x3 7) (fun r_6 h_6 => (if r_6 ≤ r_4 then (f_X8_led_64 (f_X8_led_14 n) h_6 x1 x2 x3 x4 r_4 0) else (f_X8_led_59 (f_X8_led_14 n) h_6 x1 x2 x3 x4 r_4))))))))
theorem f_X8_led_14_s (n : Nat) (h : HS) (x1 : Int32) (x2 : Int32) (x3 : Int32) (x4 : Int32) : f_X8_led_14 (n + 1) h x1 x2 x3 x4 = (if (eI h 1 3) ≤ x4 then (some (x3, h)) else (ob2 (f_X4_ofGoose h x4 7) (fun r_4 h_4 => (if x3 = (-1) then (f_X8_led_59 (f_X8_led_14 n) h_4 x1 x2 x3 x4 r_4) else (ob2 (f_X4_ofGoose h_4 x3 7) (fun r_6 h_6 => (if r_6 ≤ r_4 then (f_X8_led_64 (f_X8_led_14 n) h_6 x1 x2 x3 x4 r_4 0) else (f_X8_led_59 (f_X8_led_14 n) h_6 x1 x2 x3 x4 r_4)))))))) := rfl
def f_X8_led (h : HS) (p1 : Int32) (p2 : Int32) : Option (Int32 × HS) := (ob1 (f_X8_isLetter p1) (fun r_1 => (if r_1 = 0 then (some ((-1), h)) else (f_X8_led_14 8589934592 h p1 p2 (-1) 0))))
set_option maxHeartbeats 4000000 in
set_option maxRecDepth 100000 in
theorem c_X8_led (l : Launch) (G : va_G) (cI cJ cZ cB cT : ClassId) (q : Nat → Nat) (h : HS) (p1 : Int32) (p2 : Int32) (rr : Int32) (hh : HS) (hF : f_X8_led h p1 p2 = some (rr, hh)) : gMi l yX8_led (gws yX8_led cX8_led 7 (some .int)) 7 G (gT cI cJ cZ cB cT) [.ref (q 0), .int p1, .int p2] (wC q cI cJ cZ cB cT h) (fun x (_ : Unit) => x = rr) (fun (_ : Unit) => (wC q cI cJ cZ cB cT hh)) := by
  intro sz
  refine gM_start (y := yX8_led) (av := [.ref (q 0), .int p1, .int p2]) (ws := (wC q cI cJ cZ cB cT h)) (Qf := fun A => va_Qi (fun x (_ : Unit) => x = rr) (gB G (fun (_ : Unit) => (wC q cI cJ cZ cB cT hh)) A) A) (cc := cX8_led) (maxL := 7) (ret := (some .int)) (by decide) (Nat.le_of_ble_eq_true rfl) ?_
  intro p e s m args below meth c A ls H hx hb hr hts hown hin hlocks hml hP hK hD hA hS hl hE
  have hl : lv_has ls 7 [(0, .ref (q 0)), (1, .int p1), (2, .int p2)] := hl
  have hJ_14 : ∀ (n_14 : Nat) (h : HS) (x1 : Int32) (x2 : Int32) (x3 : Int32) (x4 : Int32), f_X8_led_14 n_14 h x1 x2 x3 x4 = some (rr, hh) → ∀ (H : Heap) (locs : List Loc) (ls : Array Slot), va_P G vwCl (wC q cI cJ cZ cB cT h) H → va_D A (wC q cI cJ cZ cB cT h) → va_S A s.heap H locs → lv_has ls 7 [(0, .ref (q 0)), (1, .int x1), (2, .int x2), (3, .int x3), (4, .int x4)] → W p l e (gRm 7) s m args below meth c H locs 0 0 (MQ below (va_Qi (fun x (_ : Unit) => x = rr) (gB G (fun (_ : Unit) => (wC q cI cJ cZ cB cT hh)) A) A) args s 0 0 A) (F0 m 14 ls []) := by
    intro n_14
    induction n_14 with
    | zero =>
      intro h x1 x2 x3 x4 hF
      exact absurd hF (by simp [f_X8_led_14])
    | succ n_14 ih_14 =>
      have hJ_101 : ∀ (h : HS) (x1 : Int32) (x2 : Int32) (x3 : Int32) (x4 : Int32), f_X8_led_101 (f_X8_led_14 n_14) h x1 x2 x3 x4 = some (rr, hh) → ∀ (H : Heap) (locs : List Loc) (ls : Array Slot), va_P G vwCl (wC q cI cJ cZ cB cT h) H → va_D A (wC q cI cJ cZ cB cT h) → va_S A s.heap H locs → lv_has ls 7 [(0, .ref (q 0)), (1, .int x1), (2, .int x2), (3, .int x3), (4, .int x4)] → W p l e (gRm 7) s m args below meth c H locs 0 0 (MQ below (va_Qi (fun x (_ : Unit) => x = rr) (gB G (fun (_ : Unit) => (wC q cI cJ cZ cB cT hh)) A) A) args s 0 0 A) (F0 m 101 ls []) := by
        intro h x1 x2 x3 x4 hF H locs ls hP hD hS hl
        unfold f_X8_led_101 at hF
        refine lv_iinc (v := (x4 + 1)) (lv' := [(4, .int (x4 + 1)), (0, .ref (q 0)), (1, .int x1), (2, .int x2), (3, .int x3)]) hx hb dX8_led_101 hl (k := 4) rfl rfl (by decide) rfl (fun ls hl => ?_)
        refine lv_goto (tgt := 14) hx hb dX8_led_104 (by decide) ?_
        exact ih_14 h x1 x2 x3 (x4 + 1) hF H _ ls hP hD hS (lv_sub hl [1, 2, 3, 4, 0] rfl)
      have hJ_64 : ∀ (h : HS) (x1 : Int32) (x2 : Int32) (x3 : Int32) (x4 : Int32) (x5 : Int32) (y0 : Int32), f_X8_led_64 (f_X8_led_14 n_14) h x1 x2 x3 x4 x5 y0 = some (rr, hh) → ∀ (H : Heap) (locs : List Loc) (ls : Array Slot), va_P G vwCl (wC q cI cJ cZ cB cT h) H → va_D A (wC q cI cJ cZ cB cT h) → va_S A s.heap H locs → lv_has ls 7 [(0, .ref (q 0)), (1, .int x1), (2, .int x2), (3, .int x3), (4, .int x4), (5, .int x5)] → W p l e (gRm 7) s m args below meth c H locs 0 0 (MQ below (va_Qi (fun x (_ : Unit) => x = rr) (gB G (fun (_ : Unit) => (wC q cI cJ cZ cB cT hh)) A) A) args s 0 0 A) (F0 m 64 ls [.int y0]) := by
        intro h x1 x2 x3 x4 x5 y0 hF H locs ls hP hD hS hl
        unfold f_X8_led_64 at hF
        refine lv_istore (lv' := [(6, .int y0), (0, .ref (q 0)), (1, .int x1), (2, .int x2), (3, .int x3), (4, .int x4), (5, .int x5)]) hx hb dX8_led_64 hl (by decide) rfl (fun ls hl => ?_)
        refine lv_iload hx hb dX8_led_66 (lv_at hl 0 rfl) ?_
        refine lv_if_eq (tgt := 101) hx hb dX8_led_68 (by decide) (fun c_8 => ?_) (fun c_8 => ?_)
        · have hF := ob_pos c_8 hF
          exact hJ_101 h x1 x2 x3 x4 hF H _ ls hP hD hS (lv_sub hl [1, 2, 3, 4, 5] rfl)
        · have hF := ob_neg c_8 hF
          refine lv_aload_n hx hb dX8_led_71 rfl (lv_at hl 1 rfl) ?_
          refine lv_iload hx hb dX8_led_72 (lv_at hl 5 rfl) ?_
          refine lv_iload_n hx hb dX8_led_74 rfl (lv_at hl 2 rfl) ?_
          refine lv_iload_n hx hb dX8_led_75 rfl (lv_at hl 3 rfl) ?_
          obtain ⟨r_9, h_9, e_9, hF⟩ := ob2_some hF
          refine gx_calli (gx_runV (As := [.int x4, .int x1, .int x2]) (rest := []) ⟨hx, hb, hml, hown, hts⟩ (c_X8_tells l G cI cJ cZ cB cT q h x4 x1 x2 r_9 h_9 e_9 H.size) (gG_V m_842 m_843 m_844 m_60 m_841) rfl e_X8_tells ⟨Nat.le_of_ble_eq_true rfl, Nat.le_of_ble_eq_true rfl⟩ hK hP hD hE hS hA 0 wC_at0 rfl rfl hl.1 rfl (Nat.le_of_ble_eq_true rfl) dX8_led_76 ⟨Nat.le_refl _, Nat.le_refl _⟩) hP hD hS hA (fun x_9 u_9 H locs hw_9 hP hD hS => ?_)
          subst x_9
          refine lv_if_eq (tgt := 101) hx hb dX8_led_79 (by decide) (fun c_10 => ?_) (fun c_10 => ?_)
          · have hF := ob_pos c_10 hF
            exact hJ_101 h_9 x1 x2 x3 x4 hF H _ ls hP hD hS (lv_sub hl [1, 2, 3, 4, 5] rfl)
          · have hF := ob_neg c_10 hF
            refine lv_aload_n hx hb dX8_led_82 rfl (lv_at hl 1 rfl) ?_
            refine lv_iload_n hx hb dX8_led_83 rfl (lv_at hl 2 rfl) ?_
            refine lv_iload_n hx hb dX8_led_84 rfl (lv_at hl 3 rfl) ?_
            refine lv_iload hx hb dX8_led_85 (lv_at hl 6 rfl) ?_
            refine lv_iload hx hb dX8_led_87 (lv_at hl 5 rfl) ?_
            refine lv_iconst (v := 1) hx hb dX8_led_89 (by decide) ?_
            refine lv_iadd hx hb dX8_led_90 ?_
            obtain ⟨r_11, h_11, e_11, hF⟩ := ob2_some hF
            refine gx_calli (gx_runV (As := [.int x1, .int x2, .int x5, .int (x4 + 1)]) (rest := []) ⟨hx, hb, hml, hown, hts⟩ (c_X8_halvesHad l G cI cJ cZ cB cT q h_9 x1 x2 x5 (x4 + 1) r_11 h_11 e_11 H.size) (gG_V m_847 m_848 m_849 m_60 m_846) rfl e_X8_halvesHad ⟨Nat.le_of_ble_eq_true rfl, Nat.le_of_ble_eq_true rfl⟩ hK hP hD hE hS hA 0 wC_at0 rfl rfl hl.1 rfl (Nat.le_of_ble_eq_true rfl) dX8_led_91 ⟨Nat.le_refl _, Nat.le_refl _⟩) hP hD hS hA (fun x_11 u_11 H locs hw_11 hP hD hS => ?_)
            subst x_11
            refine lv_iconst (v := 3) hx hb dX8_led_94 (by decide) ?_
            refine lv_icmp_ne (tgt := 101) hx hb dX8_led_95 (by decide) (fun c_12 => ?_) (fun c_12 => ?_)
            · have hF := ob_neg c_12 hF
              exact hJ_101 h_11 x1 x2 x3 x4 hF H _ ls hP hD hS (lv_sub hl [1, 2, 3, 4, 5] rfl)
            · have hF := ob_pos c_12 hF
              refine lv_iload hx hb dX8_led_98 (lv_at hl 5 rfl) ?_
              refine lv_istore_n (lv' := [(3, .int x4), (6, .int y0), (0, .ref (q 0)), (1, .int x1), (2, .int x2), (4, .int x4), (5, .int x5)]) hx hb dX8_led_100 rfl hl (by decide) rfl (fun ls hl => ?_)
              exact hJ_101 h_11 x1 x2 x4 x4 hF H _ ls hP hD hS (lv_sub hl [2, 3, 4, 0, 5] rfl)
      have hJ_59 : ∀ (h : HS) (x1 : Int32) (x2 : Int32) (x3 : Int32) (x4 : Int32) (x5 : Int32), f_X8_led_59 (f_X8_led_14 n_14) h x1 x2 x3 x4 x5 = some (rr, hh) → ∀ (H : Heap) (locs : List Loc) (ls : Array Slot), va_P G vwCl (wC q cI cJ cZ cB cT h) H → va_D A (wC q cI cJ cZ cB cT h) → va_S A s.heap H locs → lv_has ls 7 [(0, .ref (q 0)), (1, .int x1), (2, .int x2), (3, .int x3), (4, .int x4), (5, .int x5)] → W p l e (gRm 7) s m args below meth c H locs 0 0 (MQ below (va_Qi (fun x (_ : Unit) => x = rr) (gB G (fun (_ : Unit) => (wC q cI cJ cZ cB cT hh)) A) A) args s 0 0 A) (F0 m 59 ls []) := by
        intro h x1 x2 x3 x4 x5 hF H locs ls hP hD hS hl
        unfold f_X8_led_59 at hF
        refine lv_iconst (v := 1) hx hb dX8_led_59 (by decide) ?_
        refine lv_goto (tgt := 64) hx hb dX8_led_60 (by decide) ?_
        exact hJ_64 h x1 x2 x3 x4 x5 1 hF H _ ls hP hD hS (lv_sub hl [0, 1, 2, 3, 4, 5] rfl)
      intro h x1 x2 x3 x4 hF H locs ls hP hD hS hl
      rw [f_X8_led_14_s] at hF
      refine lv_iload hx hb dX8_led_14 (lv_at hl 4 rfl) ?_
      refine lv_aload_n hx hb dX8_led_16 rfl (lv_at hl 0 rfl) ?_
      refine va_get (D := G) (ci := 8) (v := .ref (q 1)) (C := RX8) (T := TX8) (N := 8) hx hb hts iX8 hown hK hP 0 wC_at0 rfl 0 (by decide) (hts _ m_738) (fun _ h9 => h9) rfl dX8_led_17 ?_
      refine va_get (D := G) (ci := 4) (v := .int (eI h 1 3)) (C := RX4) (T := TX4) (N := 13) hx hb hts iX4 hown hK hP 1 wC_at1 rfl 3 (by decide) (hts _ m_778) (fun _ h9 => h9) rfl dX8_led_20 ?_
      refine lv_icmp_ge (tgt := 107) hx hb dX8_led_23 (by decide) (fun c_3 => ?_) (fun c_3 => ?_)
      · have hF := ob_pos c_3 hF
        refine lv_iload_n hx hb dX8_led_107 rfl (lv_at hl 3 rfl) ?_
        obtain ⟨rfl, rfl⟩ := ob_pair hF
        exact gw_iret () hx hb hr hlocks hP hD hS rfl dX8_led_108
      · have hF := ob_neg c_3 hF
        refine lv_aload_n hx hb dX8_led_26 rfl (lv_at hl 0 rfl) ?_
        refine va_get (D := G) (ci := 8) (v := .ref (q 1)) (C := RX8) (T := TX8) (N := 8) hx hb hts iX8 hown hK hP 0 wC_at0 rfl 0 (by decide) (hts _ m_738) (fun _ h9 => h9) rfl dX8_led_27 ?_
        refine lv_iload hx hb dX8_led_30 (lv_at hl 4 rfl) ?_
        refine lv_bipush (v := 7) hx hb dX8_led_32 (by decide) ?_
        obtain ⟨r_4, h_4, e_4, hF⟩ := ob2_some hF
        refine gx_calli (gx_runV (As := [.int x4, .int 7]) (rest := []) ⟨hx, hb, hml, hown, hts⟩ (c_X4_ofGoose l G cI cJ cZ cB cT q h x4 7 r_4 h_4 e_4 H.size) (gG_V m_754 m_15 m_16 m_7 m_13) rfl e_X4_ofGoose ⟨Nat.le_of_ble_eq_true rfl, Nat.le_of_ble_eq_true rfl⟩ hK hP hD hE hS hA 1 wC_at1 rfl rfl hl.1 rfl (Nat.le_of_ble_eq_true rfl) dX8_led_34 ⟨Nat.le_refl _, Nat.le_refl _⟩) hP hD hS hA (fun x_4 u_4 H locs hw_4 hP hD hS => ?_)
        subst x_4
        refine lv_istore (lv' := [(5, .int r_4), (0, .ref (q 0)), (1, .int x1), (2, .int x2), (3, .int x3), (4, .int x4)]) hx hb dX8_led_37 hl (by decide) rfl (fun ls hl => ?_)
        refine lv_iload_n hx hb dX8_led_39 rfl (lv_at hl 4 rfl) ?_
        refine lv_iconst (v := (-1)) hx hb dX8_led_40 (by decide) ?_
        refine lv_icmp_eq (tgt := 59) hx hb dX8_led_41 (by decide) (fun c_5 => ?_) (fun c_5 => ?_)
        · have hF := ob_pos c_5 hF
          exact hJ_59 h_4 x1 x2 x3 x4 r_4 hF H _ ls hP hD hS (lv_sub hl [1, 2, 3, 4, 5, 0] rfl)
        · have hF := ob_neg c_5 hF
          refine lv_iload hx hb dX8_led_44 (lv_at hl 0 rfl) ?_
          refine lv_aload_n hx hb dX8_led_46 rfl (lv_at hl 1 rfl) ?_
          refine va_get (D := G) (ci := 8) (v := .ref (q 1)) (C := RX8) (T := TX8) (N := 8) hx hb hts iX8 hown hK hP 0 wC_at0 rfl 0 (by decide) (hts _ m_738) (fun _ h9 => h9) rfl dX8_led_47 ?_
          refine lv_iload_n hx hb dX8_led_50 rfl (lv_at hl 4 rfl) ?_
          refine lv_bipush (v := 7) hx hb dX8_led_51 (by decide) ?_
          obtain ⟨r_6, h_6, e_6, hF⟩ := ob2_some hF
          refine gx_calli (gx_runV (As := [.int x3, .int 7]) (rest := [.int r_4]) ⟨hx, hb, hml, hown, hts⟩ (c_X4_ofGoose l G cI cJ cZ cB cT q h_4 x3 7 r_6 h_6 e_6 H.size) (gG_V m_754 m_15 m_16 m_7 m_13) rfl e_X4_ofGoose ⟨Nat.le_of_ble_eq_true rfl, Nat.le_of_ble_eq_true rfl⟩ hK hP hD hE hS hA 1 wC_at1 rfl rfl hl.1 rfl (Nat.le_of_ble_eq_true rfl) dX8_led_53 ⟨Nat.le_refl _, Nat.le_refl _⟩) hP hD hS hA (fun x_6 u_6 H locs hw_6 hP hD hS => ?_)
          subst x_6
          refine lv_icmp_ge (tgt := 63) hx hb dX8_led_56 (by decide) (fun c_7 => ?_) (fun c_7 => ?_)
          · have hF := ob_pos c_7 hF
            refine lv_iconst (v := 0) hx hb dX8_led_63 (by decide) ?_
            exact hJ_64 h_6 x1 x2 x3 x4 r_4 0 hF H _ ls hP hD hS (lv_sub hl [1, 2, 3, 4, 5, 0] rfl)
          · have hF := ob_neg c_7 hF
            exact hJ_59 h_6 x1 x2 x3 x4 r_4 hF H _ ls hP hD hS (lv_sub hl [1, 2, 3, 4, 5, 0] rfl)
  unfold f_X8_led at hF
  refine lv_iconst (v := (-1)) hx hb dX8_led_0 (by decide) ?_
  refine lv_istore_n (lv' := [(3, .int (-1)), (0, .ref (q 0)), (1, .int p1), (2, .int p2)]) hx hb dX8_led_1 rfl hl (by decide) rfl (fun ls hl => ?_)
  refine lv_iload_n hx hb dX8_led_2 rfl (lv_at hl 2 rfl) ?_
  obtain ⟨r_1, e_1, hF⟩ := ob1_some hF
  refine gx_calli0 (gx_runS0 (As := [.int p1]) (rest := []) ⟨hx, hb, hml, hown, hts⟩ (c_X8_isLetter l G cI cJ cZ cB cT   p1 r_1 e_1 H.size) (gG_S m_58 m_59 m_60 m_57) rfl e_X8_isLetter ⟨Nat.le_of_ble_eq_true rfl, Nat.le_of_ble_eq_true rfl⟩ hK hE hS hA rfl hl.1 rfl (Nat.le_of_ble_eq_true rfl) dX8_led_3 ⟨Nat.le_refl _, Nat.le_refl _⟩) hP hD hS hA (fun x_1 u_1 H locs hw_1 hP hD hS => ?_)
  subst x_1
  refine lv_if_ne (tgt := 11) hx hb dX8_led_6 (by decide) (fun c_2 => ?_) (fun c_2 => ?_)
  · have hF := ob_neg c_2 hF
    refine lv_iconst (v := 0) hx hb dX8_led_11 (by decide) ?_
    refine lv_istore (lv' := [(4, .int 0), (3, .int (-1)), (0, .ref (q 0)), (1, .int p1), (2, .int p2)]) hx hb dX8_led_12 hl (by decide) rfl (fun ls hl => ?_)
    exact hJ_14 8589934592 h p1 p2 (-1) 0 hF H _ ls hP hD hS (lv_sub hl [2, 3, 4, 1, 0] rfl)
  · have hF := ob_pos c_2 hF
    refine lv_iload_n hx hb dX8_led_9 rfl (lv_at hl 0 rfl) ?_
    obtain ⟨rfl, rfl⟩ := ob_pair hF
    exact gw_iret () hx hb hr hlocks hP hD hS rfl dX8_led_10
def f_X8_answer (h : HS) (p1 : Int32) : Option (Int32 × HS) := (ob2 (f_X8_led h p1 0) (fun r_1 h_1 => (if r_1 = (-1) then (some ((-1), h_1)) else (ob2 (f_X4_ofGoose h_1 r_1 7) (fun r_3 h_3 => (ob2 (f_X4_ofGoose h_3 r_1 5) (fun r_4 h_4 => (ob2 (f_X4_ofMarket h_4 r_4 0) (fun r_5 h_5 => (some ((r_3 + r_5), h_5)))))))))))
theorem e_X8_led : yX8_led.cls = RX8 ∧ yX8_led.cls ≠ "java/lang/invoke/MethodHandle" ∧ yX8_led.cls ≠ "java/lang/invoke/VarHandle" ∧ (parseMethodDescriptor yX8_led.desc).map (fun d => d.parameters.length) = some 2 := by decide +kernel
set_option maxHeartbeats 4000000 in
set_option maxRecDepth 100000 in
theorem c_X8_answer (l : Launch) (G : va_G) (cI cJ cZ cB cT : ClassId) (q : Nat → Nat) (h : HS) (p1 : Int32) (rr : Int32) (hh : HS) (hF : f_X8_answer h p1 = some (rr, hh)) : gMi l yX8_answer (gws yX8_answer cX8_answer 3 (some .int)) 8 G (gT cI cJ cZ cB cT) [.ref (q 0), .int p1] (wC q cI cJ cZ cB cT h) (fun x (_ : Unit) => x = rr) (fun (_ : Unit) => (wC q cI cJ cZ cB cT hh)) := by
  intro sz
  refine gM_start (y := yX8_answer) (av := [.ref (q 0), .int p1]) (ws := (wC q cI cJ cZ cB cT h)) (Qf := fun A => va_Qi (fun x (_ : Unit) => x = rr) (gB G (fun (_ : Unit) => (wC q cI cJ cZ cB cT hh)) A) A) (cc := cX8_answer) (maxL := 3) (ret := (some .int)) (by decide) (Nat.le_of_ble_eq_true rfl) ?_
  intro p e s m args below meth c A ls H hx hb hr hts hown hin hlocks hml hP hK hD hA hS hl hE
  have hl : lv_has ls 3 [(0, .ref (q 0)), (1, .int p1)] := hl
  unfold f_X8_answer at hF
  refine lv_aload_n hx hb dX8_answer_0 rfl (lv_at hl 0 rfl) ?_
  refine lv_iload_n hx hb dX8_answer_1 rfl (lv_at hl 1 rfl) ?_
  refine lv_iconst (v := 0) hx hb dX8_answer_2 (by decide) ?_
  obtain ⟨r_1, h_1, e_1, hF⟩ := ob2_some hF
  refine gx_calli (gx_runV (As := [.int p1, .int 0]) (rest := []) ⟨hx, hb, hml, hown, hts⟩ (c_X8_led l G cI cJ cZ cB cT q h p1 0 r_1 h_1 e_1 H.size) (gG_V m_851 m_852 m_853 m_60 m_850) rfl e_X8_led ⟨Nat.le_of_ble_eq_true rfl, Nat.le_of_ble_eq_true rfl⟩ hK hP hD hE hS hA 0 wC_at0 rfl rfl hl.1 rfl (Nat.le_of_ble_eq_true rfl) dX8_answer_3 ⟨Nat.le_refl _, Nat.le_refl _⟩) hP hD hS hA (fun x_1 u_1 H locs hw_1 hP hD hS => ?_)
  subst x_1
  refine lv_istore_n (lv' := [(2, .int r_1), (0, .ref (q 0)), (1, .int p1)]) hx hb dX8_answer_6 rfl hl (by decide) rfl (fun ls hl => ?_)
  refine lv_iload_n hx hb dX8_answer_7 rfl (lv_at hl 0 rfl) ?_
  refine lv_iconst (v := (-1)) hx hb dX8_answer_8 (by decide) ?_
  refine lv_icmp_ne (tgt := 14) hx hb dX8_answer_9 (by decide) (fun c_2 => ?_) (fun c_2 => ?_)
  · have hF := ob_neg c_2 hF
    refine lv_aload_n hx hb dX8_answer_14 rfl (lv_at hl 1 rfl) ?_
    refine va_get (D := G) (ci := 8) (v := .ref (q 1)) (C := RX8) (T := TX8) (N := 8) hx hb hts iX8 hown hK hP 0 wC_at0 rfl 0 (by decide) (hts _ m_738) (fun _ h9 => h9) rfl dX8_answer_15 ?_
    refine lv_iload_n hx hb dX8_answer_18 rfl (lv_at hl 0 rfl) ?_
    refine lv_bipush (v := 7) hx hb dX8_answer_19 (by decide) ?_
    obtain ⟨r_3, h_3, e_3, hF⟩ := ob2_some hF
    refine gx_calli (gx_runV (As := [.int r_1, .int 7]) (rest := []) ⟨hx, hb, hml, hown, hts⟩ (c_X4_ofGoose l G cI cJ cZ cB cT q h_1 r_1 7 r_3 h_3 e_3 H.size) (gG_V m_754 m_15 m_16 m_7 m_13) rfl e_X4_ofGoose ⟨Nat.le_of_ble_eq_true rfl, Nat.le_of_ble_eq_true rfl⟩ hK hP hD hE hS hA 1 wC_at1 rfl rfl hl.1 rfl (Nat.le_of_ble_eq_true rfl) dX8_answer_21 ⟨Nat.le_refl _, Nat.le_refl _⟩) hP hD hS hA (fun x_3 u_3 H locs hw_3 hP hD hS => ?_)
    subst x_3
    refine lv_aload_n hx hb dX8_answer_24 rfl (lv_at hl 1 rfl) ?_
    refine va_get (D := G) (ci := 8) (v := .ref (q 1)) (C := RX8) (T := TX8) (N := 8) hx hb hts iX8 hown hK hP 0 wC_at0 rfl 0 (by decide) (hts _ m_738) (fun _ h9 => h9) rfl dX8_answer_25 ?_
    refine lv_aload_n hx hb dX8_answer_28 rfl (lv_at hl 1 rfl) ?_
    refine va_get (D := G) (ci := 8) (v := .ref (q 1)) (C := RX8) (T := TX8) (N := 8) hx hb hts iX8 hown hK hP 0 wC_at0 rfl 0 (by decide) (hts _ m_738) (fun _ h9 => h9) rfl dX8_answer_29 ?_
    refine lv_iload_n hx hb dX8_answer_32 rfl (lv_at hl 0 rfl) ?_
    refine lv_iconst (v := 5) hx hb dX8_answer_33 (by decide) ?_
    obtain ⟨r_4, h_4, e_4, hF⟩ := ob2_some hF
    refine gx_calli (gx_runV (As := [.int r_1, .int 5]) (rest := [.ref (q 1), .int r_3]) ⟨hx, hb, hml, hown, hts⟩ (c_X4_ofGoose l G cI cJ cZ cB cT q h_3 r_1 5 r_4 h_4 e_4 H.size) (gG_V m_754 m_15 m_16 m_7 m_13) rfl e_X4_ofGoose ⟨Nat.le_of_ble_eq_true rfl, Nat.le_of_ble_eq_true rfl⟩ hK hP hD hE hS hA 1 wC_at1 rfl rfl hl.1 rfl (Nat.le_of_ble_eq_true rfl) dX8_answer_34 ⟨Nat.le_refl _, Nat.le_refl _⟩) hP hD hS hA (fun x_4 u_4 H locs hw_4 hP hD hS => ?_)
    subst x_4
    refine lv_iconst (v := 0) hx hb dX8_answer_37 (by decide) ?_
    obtain ⟨r_5, h_5, e_5, hF⟩ := ob2_some hF
    refine gx_calli (gx_runV (As := [.int r_4, .int 0]) (rest := [.int r_3]) ⟨hx, hb, hml, hown, hts⟩ (c_X4_ofMarket l G cI cJ cZ cB cT q h_4 r_4 0 r_5 h_5 e_5 H.size) (gG_V m_771 m_453 m_454 m_7 m_451) rfl e_X4_ofMarket ⟨Nat.le_of_ble_eq_true rfl, Nat.le_of_ble_eq_true rfl⟩ hK hP hD hE hS hA 1 wC_at1 rfl rfl hl.1 rfl (Nat.le_of_ble_eq_true rfl) dX8_answer_38 ⟨Nat.le_refl _, Nat.le_refl _⟩) hP hD hS hA (fun x_5 u_5 H locs hw_5 hP hD hS => ?_)
    subst x_5
    refine lv_iadd hx hb dX8_answer_41 ?_
    obtain ⟨rfl, rfl⟩ := ob_pair hF
    exact gw_iret () hx hb hr hlocks hP hD hS rfl dX8_answer_42
  · have hF := ob_pos c_2 hF
    refine lv_iconst (v := (-1)) hx hb dX8_answer_12 (by decide) ?_
    obtain ⟨rfl, rfl⟩ := ob_pair hF
    exact gw_iret () hx hb hr hlocks hP hD hS rfl dX8_answer_13
def f_X8_plucks_12 : Nat → HS → Int32 → Int32 → Int32 → Option (Int32 × HS)
  | 0, _, _, _, _ => none
  | n + 1, h, x1, x2, x3 => (if x2 < x3 then (some ((-1), h)) else (ob2 (f_X1_isTrueWith h x1 (x2 - x3)) (fun r_3 h_3 => (if r_3 = 0 then ((f_X8_plucks_12 n) h_3 x1 x2 (x3 + 1)) else (some (x3, h_3))))))
theorem f_X8_plucks_12_s (n : Nat) (h : HS) (x1 : Int32) (x2 : Int32) (x3 : Int32) : f_X8_plucks_12 (n + 1) h x1 x2 x3 = (if x2 < x3 then (some ((-1), h)) else (ob2 (f_X1_isTrueWith h x1 (x2 - x3)) (fun r_3 h_3 => (if r_3 = 0 then ((f_X8_plucks_12 n) h_3 x1 x2 (x3 + 1)) else (some (x3, h_3)))))) := rfl
def f_X8_plucks (h : HS) (p1 : Int32) : Option (Int32 × HS) := (ob2 (f_X4_ofGoose h p1 1) (fun r_1 h_1 => (f_X8_plucks_12 8589934592 h_1 p1 r_1 0)))
theorem e_X1_isTrueWith : yX1_isTrueWith.cls = RX1 ∧ yX1_isTrueWith.cls ≠ "java/lang/invoke/MethodHandle" ∧ yX1_isTrueWith.cls ≠ "java/lang/invoke/VarHandle" ∧ (parseMethodDescriptor yX1_isTrueWith.desc).map (fun d => d.parameters.length) = some 3 := by decide +kernel
set_option maxHeartbeats 4000000 in
set_option maxRecDepth 100000 in
theorem c_X8_plucks (l : Launch) (G : va_G) (cI cJ cZ cB cT : ClassId) (q : Nat → Nat) (h : HS) (p1 : Int32) (rr : Int32) (hh : HS) (hF : f_X8_plucks h p1 = some (rr, hh)) : gMi l yX8_plucks (gws yX8_plucks cX8_plucks 4 (some .int)) 5 G (gT cI cJ cZ cB cT) [.ref (q 0), .int p1] (wC q cI cJ cZ cB cT h) (fun x (_ : Unit) => x = rr) (fun (_ : Unit) => (wC q cI cJ cZ cB cT hh)) := by
  intro sz
  refine gM_start (y := yX8_plucks) (av := [.ref (q 0), .int p1]) (ws := (wC q cI cJ cZ cB cT h)) (Qf := fun A => va_Qi (fun x (_ : Unit) => x = rr) (gB G (fun (_ : Unit) => (wC q cI cJ cZ cB cT hh)) A) A) (cc := cX8_plucks) (maxL := 4) (ret := (some .int)) (by decide) (Nat.le_of_ble_eq_true rfl) ?_
  intro p e s m args below meth c A ls H hx hb hr hts hown hin hlocks hml hP hK hD hA hS hl hE
  have hl : lv_has ls 4 [(0, .ref (q 0)), (1, .int p1)] := hl
  have hJ_12 : ∀ (n_12 : Nat) (h : HS) (x1 : Int32) (x2 : Int32) (x3 : Int32), f_X8_plucks_12 n_12 h x1 x2 x3 = some (rr, hh) → ∀ (H : Heap) (locs : List Loc) (ls : Array Slot), va_P G vwCl (wC q cI cJ cZ cB cT h) H → va_D A (wC q cI cJ cZ cB cT h) → va_S A s.heap H locs → lv_has ls 4 [(0, .ref (q 0)), (1, .int x1), (2, .int x2), (3, .int x3)] → W p l e (gRm 5) s m args below meth c H locs 0 0 (MQ below (va_Qi (fun x (_ : Unit) => x = rr) (gB G (fun (_ : Unit) => (wC q cI cJ cZ cB cT hh)) A) A) args s 0 0 A) (F0 m 12 ls []) := by
    intro n_12
    induction n_12 with
    | zero =>
      intro h x1 x2 x3 hF
      exact absurd hF (by simp [f_X8_plucks_12])
    | succ n_12 ih_12 =>
      intro h x1 x2 x3 hF H locs ls hP hD hS hl
      rw [f_X8_plucks_12_s] at hF
      refine lv_iload_n hx hb dX8_plucks_12 rfl (lv_at hl 3 rfl) ?_
      refine lv_iload_n hx hb dX8_plucks_13 rfl (lv_at hl 2 rfl) ?_
      refine lv_icmp_gt (tgt := 43) hx hb dX8_plucks_14 (by decide) (fun c_2 => ?_) (fun c_2 => ?_)
      · have hF := ob_pos c_2 hF
        refine lv_iconst (v := (-1)) hx hb dX8_plucks_43 (by decide) ?_
        obtain ⟨rfl, rfl⟩ := ob_pair hF
        exact gw_iret () hx hb hr hlocks hP hD hS rfl dX8_plucks_44
      · have hF := ob_neg c_2 hF
        refine lv_aload_n hx hb dX8_plucks_17 rfl (lv_at hl 0 rfl) ?_
        refine va_get (D := G) (ci := 8) (v := .ref (q 16)) (C := RX8) (T := TX8) (N := 8) hx hb hts iX8 hown hK hP 0 wC_at0 rfl 5 (by decide) (hts _ m_755) (fun _ h9 => h9) rfl dX8_plucks_18 ?_
        refine lv_aload_n hx hb dX8_plucks_21 rfl (lv_at hl 0 rfl) ?_
        refine va_get (D := G) (ci := 8) (v := .ref (q 1)) (C := RX8) (T := TX8) (N := 8) hx hb hts iX8 hown hK hP 0 wC_at0 rfl 0 (by decide) (hts _ m_738) (fun _ h9 => h9) rfl dX8_plucks_22 ?_
        refine lv_iload_n hx hb dX8_plucks_25 rfl (lv_at hl 1 rfl) ?_
        refine lv_iload_n hx hb dX8_plucks_26 rfl (lv_at hl 2 rfl) ?_
        refine lv_iload_n hx hb dX8_plucks_27 rfl (lv_at hl 3 rfl) ?_
        refine lv_isub hx hb dX8_plucks_28 ?_
        obtain ⟨r_3, h_3, e_3, hF⟩ := ob2_some hF
        refine gx_calli (gx_runV (As := [.ref (q 1), .int x1, .int (x2 - x3)]) (rest := []) ⟨hx, hb, hml, hown, hts⟩ (c_X1_isTrueWith l G cI cJ cZ cB cT q h x1 (x2 - x3) r_3 h_3 e_3 H.size) (gG_V m_855 m_856 m_857 m_436 m_854) rfl e_X1_isTrueWith ⟨Nat.le_of_ble_eq_true rfl, Nat.le_of_ble_eq_true rfl⟩ hK hP hD hE hS hA 16 wC_at16 rfl rfl hl.1 rfl (Nat.le_of_ble_eq_true rfl) dX8_plucks_29 ⟨Nat.le_refl _, Nat.le_refl _⟩) hP hD hS hA (fun x_3 u_3 H locs hw_3 hP hD hS => ?_)
        subst x_3
        refine lv_if_eq (tgt := 37) hx hb dX8_plucks_32 (by decide) (fun c_4 => ?_) (fun c_4 => ?_)
        · have hF := ob_pos c_4 hF
          refine lv_iinc (v := (x3 + 1)) (lv' := [(3, .int (x3 + 1)), (0, .ref (q 0)), (1, .int x1), (2, .int x2)]) hx hb dX8_plucks_37 hl (k := 3) rfl rfl (by decide) rfl (fun ls hl => ?_)
          refine lv_goto (tgt := 12) hx hb dX8_plucks_40 (by decide) ?_
          exact ih_12 h_3 x1 x2 (x3 + 1) hF H _ ls hP hD hS (lv_sub hl [1, 2, 3, 0] rfl)
        · have hF := ob_neg c_4 hF
          refine lv_iload_n hx hb dX8_plucks_35 rfl (lv_at hl 3 rfl) ?_
          obtain ⟨rfl, rfl⟩ := ob_pair hF
          exact gw_iret () hx hb hr hlocks hP hD hS rfl dX8_plucks_36
  unfold f_X8_plucks at hF
  refine lv_aload_n hx hb dX8_plucks_0 rfl (lv_at hl 0 rfl) ?_
  refine va_get (D := G) (ci := 8) (v := .ref (q 1)) (C := RX8) (T := TX8) (N := 8) hx hb hts iX8 hown hK hP 0 wC_at0 rfl 0 (by decide) (hts _ m_738) (fun _ h9 => h9) rfl dX8_plucks_1 ?_
  refine lv_iload_n hx hb dX8_plucks_4 rfl (lv_at hl 1 rfl) ?_
  refine lv_iconst (v := 1) hx hb dX8_plucks_5 (by decide) ?_
  obtain ⟨r_1, h_1, e_1, hF⟩ := ob2_some hF
  refine gx_calli (gx_runV (As := [.int p1, .int 1]) (rest := []) ⟨hx, hb, hml, hown, hts⟩ (c_X4_ofGoose l G cI cJ cZ cB cT q h p1 1 r_1 h_1 e_1 H.size) (gG_V m_754 m_15 m_16 m_7 m_13) rfl e_X4_ofGoose ⟨Nat.le_of_ble_eq_true rfl, Nat.le_of_ble_eq_true rfl⟩ hK hP hD hE hS hA 1 wC_at1 rfl rfl hl.1 rfl (Nat.le_of_ble_eq_true rfl) dX8_plucks_6 ⟨Nat.le_refl _, Nat.le_refl _⟩) hP hD hS hA (fun x_1 u_1 H locs hw_1 hP hD hS => ?_)
  subst x_1
  refine lv_istore_n (lv' := [(2, .int r_1), (0, .ref (q 0)), (1, .int p1)]) hx hb dX8_plucks_9 rfl hl (by decide) rfl (fun ls hl => ?_)
  refine lv_iconst (v := 0) hx hb dX8_plucks_10 (by decide) ?_
  refine lv_istore_n (lv' := [(3, .int 0), (2, .int r_1), (0, .ref (q 0)), (1, .int p1)]) hx hb dX8_plucks_11 rfl hl (by decide) rfl (fun ls hl => ?_)
  exact hJ_12 8589934592 h_1 p1 r_1 0 hF H _ ls hP hD hS (lv_sub hl [2, 3, 1, 0] rfl)
def f_X8_odds_16 (h : HS) : Option (Int64 × HS) := (some ((-1), h))
def f_X8_odds_171 (h : HS) (x6 : Int64) (y0 : Int64) : Option (Int64 × HS) := (if ¬ x6 = 0 then (some ((y0 / x6), h)) else none)
def f_X8_odds_109 (k52 : HS → Int32 → Int32 → Int32 → Int32 → Option (Int64 × HS)) (h : HS) (x1 : Int32) (x2 : Int32) (x3 : Int32) (x4 : Int32) : Option (Int64 × HS) := (k52 h x1 x2 x3 (x4 + 1))
def f_X8_odds_52 : Nat → HS → Int32 → Int32 → Int32 → Int32 → Option (Int64 × HS)
  | 0, _, _, _, _, _ => none
  | n + 1, h, x1, x2, x3, x4 => (if (eI h 1 3) ≤ x4 then (if (eI h 7 0) ≤ 8 then (ob2 (f_X0_upper h x2) (fun r_10 h_10 => (ob1 (f_X8_commonDivisor (eL h_10 7 1) r_10) (fun r_11 => (if x3 = 0 then (f_X8_odds_171 h_10 r_11 r_10) else (f_X8_odds_171 h_10 r_11 (eL h_10 7 1))))))) else (some ((-1), h))) else (ob2 (f_X4_ofGoose h x4 4) (fun r_13 h_13 => (if r_13 = 1 then (ob2 (f_X4_ofGoose h_13 x4 2) (fun r_15 h_15 => (if r_15 = x1 then (ob1 (f_X0_add h_15 x4) (fun h_17 => (f_X8_odds_109 (f_X8_odds_52 n) h_17 x1 x2 x3 x4))) else (f_X8_odds_109 (f_X8_odds_52 n) h_15 x1 x2 x3 x4)))) else (f_X8_odds_109 (f_X8_odds_52 n) h_13 x1 x2 x3 x4)))))
theorem f_X8_odds_52_s (n : Nat) (h : HS) (x1 : Int32) (x2 : Int32) (x3 : Int32) (x4 : Int32) : f_X8_odds_52 (n + 1) h x1 x2 x3 x4 = (if (eI h 1 3) ≤ x4 then (if (eI h 7 0) ≤ 8 then (ob2 (f_X0_upper h x2) (fun r_10 h_10 => (ob1 (f_X8_commonDivisor (eL h_10 7 1) r_10) (fun r_11 => (if x3 = 0 then (f_X8_odds_171 h_10 r_11 r_10) else (f_X8_odds_171 h_10 r_11 (eL h_10 7 1))))))) else (some ((-1), h))) else (ob2 (f_X4_ofGoose h x4 4) (fun r_13 h_13 => (if r_13 = 1 then (ob2 (f_X4_ofGoose h_13 x4 2) (fun r_15 h_15 => (if r_15 = x1 then (ob1 (f_X0_add h_15 x4) (fun h_17 => (f_X8_odds_109 (f_X8_odds_52 n) h_17 x1 x2 x3 x4))) else (f_X8_odds_109 (f_X8_odds_52 n) h_15 x1 x2 x3 x4)))) else (f_X8_odds_109 (f_X8_odds_52 n) h_13 x1 x2 x3 x4))))) := rfl
def f_X8_odds (h : HS) (p1 : Int32) (p2 : Int32) (p3 : Int32) : Option (Int64 × HS) := (ob1 (f_X8_isLetter p1) (fun r_1 => (if r_1 = 0 then (f_X8_odds_16 h) else (if p2 < 0 then (f_X8_odds_16 h) else (if p2 ≤ 2 then (ob2 (f_X8_halvesHad h p1 0 999 10) (fun r_5 h_5 => (ob2 (f_X8_halvesHad h_5 p1 1 999 10) (fun r_6 h_6 => (ob1 (f_X0_begin h_6 r_5 r_6) (fun h_7 => (f_X8_odds_52 8589934592 h_7 p1 p2 p3 0))))))) else (f_X8_odds_16 h))))))
theorem e_X0_add : yX0_add.cls = RX0 ∧ yX0_add.cls ≠ "java/lang/invoke/MethodHandle" ∧ yX0_add.cls ≠ "java/lang/invoke/VarHandle" ∧ (parseMethodDescriptor yX0_add.desc).map (fun d => d.parameters.length) = some 3 := by decide +kernel
theorem e_X0_begin : yX0_begin.cls = RX0 ∧ yX0_begin.cls ≠ "java/lang/invoke/MethodHandle" ∧ yX0_begin.cls ≠ "java/lang/invoke/VarHandle" ∧ (parseMethodDescriptor yX0_begin.desc).map (fun d => d.parameters.length) = some 2 := by decide +kernel
theorem e_X0_upper : yX0_upper.cls = RX0 ∧ yX0_upper.cls ≠ "java/lang/invoke/MethodHandle" ∧ yX0_upper.cls ≠ "java/lang/invoke/VarHandle" ∧ (parseMethodDescriptor yX0_upper.desc).map (fun d => d.parameters.length) = some 1 := by decide +kernel
theorem e_X8_commonDivisor : yX8_commonDivisor.cls = RX8 ∧ yX8_commonDivisor.cls ≠ "java/lang/invoke/MethodHandle" ∧ yX8_commonDivisor.cls ≠ "java/lang/invoke/VarHandle" ∧ (parseMethodDescriptor yX8_commonDivisor.desc).map (fun d => d.parameters.length) = some 2 := by decide +kernel
set_option maxHeartbeats 4000000 in
set_option maxRecDepth 100000 in
theorem c_X8_odds (l : Launch) (G : va_G) (cI cJ cZ cB cT : ClassId) (q : Nat → Nat) (h : HS) (p1 : Int32) (p2 : Int32) (p3 : Int32) (rr : Int64) (hh : HS) (hF : f_X8_odds h p1 p2 p3 = some (rr, hh)) : gMl l yX8_odds (gws yX8_odds cX8_odds 8 (some .long)) 7 G (gT cI cJ cZ cB cT) [.ref (q 0), .int p1, .int p2, .int p3] (wC q cI cJ cZ cB cT h) (fun x (_ : Unit) => x = rr) (fun (_ : Unit) => (wC q cI cJ cZ cB cT hh)) := by
  intro sz
  refine gM_start (y := yX8_odds) (av := [.ref (q 0), .int p1, .int p2, .int p3]) (ws := (wC q cI cJ cZ cB cT h)) (Qf := fun A => va_Ql (fun x (_ : Unit) => x = rr) (gB G (fun (_ : Unit) => (wC q cI cJ cZ cB cT hh)) A) A) (cc := cX8_odds) (maxL := 8) (ret := (some .long)) (by decide) (Nat.le_of_ble_eq_true rfl) ?_
  intro p e s m args below meth c A ls H hx hb hr hts hown hin hlocks hml hP hK hD hA hS hl hE
  have hl : lv_has ls 8 [(0, .ref (q 0)), (1, .int p1), (2, .int p2), (3, .int p3)] := hl
  have hJ_16 : ∀ (h : HS), f_X8_odds_16 h = some (rr, hh) → ∀ (H : Heap) (locs : List Loc) (ls : Array Slot), va_P G vwCl (wC q cI cJ cZ cB cT h) H → va_D A (wC q cI cJ cZ cB cT h) → va_S A s.heap H locs → lv_has ls 8 [] → W p l e (gRm 7) s m args below meth c H locs 0 0 (MQ below (va_Ql (fun x (_ : Unit) => x = rr) (gB G (fun (_ : Unit) => (wC q cI cJ cZ cB cT hh)) A) A) args s 0 0 A) (F0 m 16 ls []) := by
    intro h hF H locs ls hP hD hS hl
    unfold f_X8_odds_16 at hF
    refine lv_ldc2 (v := (-1)) hx hb hown (hts _ m_864) dX8_odds_16 ?_
    obtain ⟨rfl, rfl⟩ := ob_pair hF
    exact gw_lret () hx hb hr hlocks hP hD hS rfl dX8_odds_19
  have hJ_171 : ∀ (h : HS) (x6 : Int64) (y0 : Int64), f_X8_odds_171 h x6 y0 = some (rr, hh) → ∀ (H : Heap) (locs : List Loc) (ls : Array Slot), va_P G vwCl (wC q cI cJ cZ cB cT h) H → va_D A (wC q cI cJ cZ cB cT h) → va_S A s.heap H locs → lv_has ls 8 [(6, .long x6)] → W p l e (gRm 7) s m args below meth c H locs 0 0 (MQ below (va_Ql (fun x (_ : Unit) => x = rr) (gB G (fun (_ : Unit) => (wC q cI cJ cZ cB cT hh)) A) A) args s 0 0 A) (F0 m 171 ls [.long y0]) := by
    intro h x6 y0 hF H locs ls hP hD hS hl
    unfold f_X8_odds_171 at hF
    refine lv_lload hx hb dX8_odds_171 (lv_at hl 0 rfl) ?_
    obtain ⟨hd_18, hF⟩ := ob_if hF
    refine lv_ldiv hx hb dX8_odds_173 hd_18 ?_
    obtain ⟨rfl, rfl⟩ := ob_pair hF
    exact gw_lret () hx hb hr hlocks hP hD hS rfl dX8_odds_174
  have hJ_52 : ∀ (n_52 : Nat) (h : HS) (x1 : Int32) (x2 : Int32) (x3 : Int32) (x4 : Int32), f_X8_odds_52 n_52 h x1 x2 x3 x4 = some (rr, hh) → ∀ (H : Heap) (locs : List Loc) (ls : Array Slot), va_P G vwCl (wC q cI cJ cZ cB cT h) H → va_D A (wC q cI cJ cZ cB cT h) → va_S A s.heap H locs → lv_has ls 8 [(0, .ref (q 0)), (1, .int x1), (2, .int x2), (3, .int x3), (4, .int x4)] → W p l e (gRm 7) s m args below meth c H locs 0 0 (MQ below (va_Ql (fun x (_ : Unit) => x = rr) (gB G (fun (_ : Unit) => (wC q cI cJ cZ cB cT hh)) A) A) args s 0 0 A) (F0 m 52 ls []) := by
    intro n_52
    induction n_52 with
    | zero =>
      intro h x1 x2 x3 x4 hF
      exact absurd hF (by simp [f_X8_odds_52])
    | succ n_52 ih_52 =>
      have hJ_109 : ∀ (h : HS) (x1 : Int32) (x2 : Int32) (x3 : Int32) (x4 : Int32), f_X8_odds_109 (f_X8_odds_52 n_52) h x1 x2 x3 x4 = some (rr, hh) → ∀ (H : Heap) (locs : List Loc) (ls : Array Slot), va_P G vwCl (wC q cI cJ cZ cB cT h) H → va_D A (wC q cI cJ cZ cB cT h) → va_S A s.heap H locs → lv_has ls 8 [(0, .ref (q 0)), (1, .int x1), (2, .int x2), (3, .int x3), (4, .int x4)] → W p l e (gRm 7) s m args below meth c H locs 0 0 (MQ below (va_Ql (fun x (_ : Unit) => x = rr) (gB G (fun (_ : Unit) => (wC q cI cJ cZ cB cT hh)) A) A) args s 0 0 A) (F0 m 109 ls []) := by
        intro h x1 x2 x3 x4 hF H locs ls hP hD hS hl
        unfold f_X8_odds_109 at hF
        refine lv_iinc (v := (x4 + 1)) (lv' := [(4, .int (x4 + 1)), (0, .ref (q 0)), (1, .int x1), (2, .int x2), (3, .int x3)]) hx hb dX8_odds_109 hl (k := 4) rfl rfl (by decide) rfl (fun ls hl => ?_)
        refine lv_goto (tgt := 52) hx hb dX8_odds_112 (by decide) ?_
        exact ih_52 h x1 x2 x3 (x4 + 1) hF H _ ls hP hD hS (lv_sub hl [1, 2, 3, 4, 0] rfl)
      intro h x1 x2 x3 x4 hF H locs ls hP hD hS hl
      rw [f_X8_odds_52_s] at hF
      refine lv_iload hx hb dX8_odds_52 (lv_at hl 4 rfl) ?_
      refine lv_aload_n hx hb dX8_odds_54 rfl (lv_at hl 0 rfl) ?_
      refine va_get (D := G) (ci := 8) (v := .ref (q 1)) (C := RX8) (T := TX8) (N := 8) hx hb hts iX8 hown hK hP 0 wC_at0 rfl 0 (by decide) (hts _ m_738) (fun _ h9 => h9) rfl dX8_odds_55 ?_
      refine va_get (D := G) (ci := 4) (v := .int (eI h 1 3)) (C := RX4) (T := TX4) (N := 13) hx hb hts iX4 hown hK hP 1 wC_at1 rfl 3 (by decide) (hts _ m_778) (fun _ h9 => h9) rfl dX8_odds_58 ?_
      refine lv_icmp_ge (tgt := 115) hx hb dX8_odds_61 (by decide) (fun c_8 => ?_) (fun c_8 => ?_)
      · have hF := ob_pos c_8 hF
        refine lv_aload_n hx hb dX8_odds_115 rfl (lv_at hl 0 rfl) ?_
        refine va_get (D := G) (ci := 8) (v := .ref (q 20)) (C := RX8) (T := TX8) (N := 8) hx hb hts iX8 hown hK hP 0 wC_at0 rfl 6 (by decide) (hts _ m_858) (fun _ h9 => h9) rfl dX8_odds_116 ?_
        refine va_get (D := G) (ci := 0) (v := .int (eI h 7 0)) (C := RX0) (T := TX0) (N := 4) hx hb hts iX0 hown hK hP 20 wC_at20 rfl 0 (by decide) (hts _ m_865) (fun _ h9 => h9) rfl dX8_odds_119 ?_
        refine lv_bipush (v := 8) hx hb dX8_odds_122 (by decide) ?_
        refine lv_icmp_le (tgt := 131) hx hb dX8_odds_124 (by decide) (fun c_9 => ?_) (fun c_9 => ?_)
        · have hF := ob_pos c_9 hF
          refine lv_aload_n hx hb dX8_odds_131 rfl (lv_at hl 0 rfl) ?_
          refine va_get (D := G) (ci := 8) (v := .ref (q 20)) (C := RX8) (T := TX8) (N := 8) hx hb hts iX8 hown hK hP 0 wC_at0 rfl 6 (by decide) (hts _ m_858) (fun _ h9 => h9) rfl dX8_odds_132 ?_
          refine lv_iload_n hx hb dX8_odds_135 rfl (lv_at hl 2 rfl) ?_
          obtain ⟨r_10, h_10, e_10, hF⟩ := ob2_some hF
          refine gx_calll (gx_runV (As := [.int x2]) (rest := []) ⟨hx, hb, hml, hown, hts⟩ (c_X0_upper l G cI cJ cZ cB cT q h x2 r_10 h_10 e_10 H.size) (gG_V m_867 m_868 m_869 m_863 m_866) rfl e_X0_upper ⟨Nat.le_of_ble_eq_true rfl, Nat.le_of_ble_eq_true rfl⟩ hK hP hD hE hS hA 20 wC_at20 rfl rfl hl.1 rfl (Nat.le_of_ble_eq_true rfl) dX8_odds_136 ⟨Nat.le_refl _, Nat.le_refl _⟩) hP hD hS hA (fun x_10 u_10 H locs hw_10 hP hD hS => ?_)
          subst x_10
          refine lv_lstore (lv' := [(4, .long r_10), (0, .ref (q 0)), (1, .int x1), (2, .int x2), (3, .int x3)]) hx hb dX8_odds_139 hl (by decide) rfl (fun ls hl => ?_)
          refine lv_aload_n hx hb dX8_odds_141 rfl (lv_at hl 1 rfl) ?_
          refine va_get (D := G) (ci := 8) (v := .ref (q 20)) (C := RX8) (T := TX8) (N := 8) hx hb hts iX8 hown hK hP 0 wC_at0 rfl 6 (by decide) (hts _ m_858) (fun _ h9 => h9) rfl dX8_odds_142 ?_
          refine va_get (D := G) (ci := 0) (v := .long (eL h_10 7 1)) (C := RX0) (T := TX0) (N := 4) hx hb hts iX0 hown hK hP 20 wC_at20 rfl 1 (by decide) (hts _ m_870) (fun _ h9 => h9) rfl dX8_odds_145 ?_
          refine lv_lload hx hb dX8_odds_148 (lv_at hl 0 rfl) ?_
          obtain ⟨r_11, e_11, hF⟩ := ob1_some hF
          refine gx_calll0 (gx_runS0 (As := [.long (eL h_10 7 1), .long r_10]) (rest := []) ⟨hx, hb, hml, hown, hts⟩ (c_X8_commonDivisor l G cI cJ cZ cB cT   (eL h_10 7 1) r_10 r_11 e_11 H.size) (gG_S m_872 m_873 m_60 m_871) rfl e_X8_commonDivisor ⟨Nat.le_of_ble_eq_true rfl, Nat.le_of_ble_eq_true rfl⟩ hK hE hS hA rfl hl.1 rfl (Nat.le_of_ble_eq_true rfl) dX8_odds_150 ⟨Nat.le_refl _, Nat.le_refl _⟩) hP hD hS hA (fun x_11 u_11 H locs hw_11 hP hD hS => ?_)
          subst x_11
          refine lv_lstore (lv' := [(6, .long r_11), (4, .long r_10), (0, .ref (q 0)), (1, .int x1), (2, .int x2), (3, .int x3)]) hx hb dX8_odds_153 hl (by decide) rfl (fun ls hl => ?_)
          refine lv_iload_n hx hb dX8_odds_155 rfl (lv_at hl 5 rfl) ?_
          refine lv_if_eq (tgt := 169) hx hb dX8_odds_156 (by decide) (fun c_12 => ?_) (fun c_12 => ?_)
          · have hF := ob_pos c_12 hF
            refine lv_lload hx hb dX8_odds_169 (lv_at hl 1 rfl) ?_
            exact hJ_171 h_10 r_11 r_10 hF H _ ls hP hD hS (lv_sub hl [0] rfl)
          · have hF := ob_neg c_12 hF
            refine lv_aload_n hx hb dX8_odds_159 rfl (lv_at hl 2 rfl) ?_
            refine va_get (D := G) (ci := 8) (v := .ref (q 20)) (C := RX8) (T := TX8) (N := 8) hx hb hts iX8 hown hK hP 0 wC_at0 rfl 6 (by decide) (hts _ m_858) (fun _ h9 => h9) rfl dX8_odds_160 ?_
            refine va_get (D := G) (ci := 0) (v := .long (eL h_10 7 1)) (C := RX0) (T := TX0) (N := 4) hx hb hts iX0 hown hK hP 20 wC_at20 rfl 1 (by decide) (hts _ m_870) (fun _ h9 => h9) rfl dX8_odds_163 ?_
            refine lv_goto (tgt := 171) hx hb dX8_odds_166 (by decide) ?_
            exact hJ_171 h_10 r_11 (eL h_10 7 1) hF H _ ls hP hD hS (lv_sub hl [0] rfl)
        · have hF := ob_neg c_9 hF
          refine lv_ldc2 (v := (-1)) hx hb hown (hts _ m_864) dX8_odds_127 ?_
          obtain ⟨rfl, rfl⟩ := ob_pair hF
          exact gw_lret () hx hb hr hlocks hP hD hS rfl dX8_odds_130
      · have hF := ob_neg c_8 hF
        refine lv_aload_n hx hb dX8_odds_64 rfl (lv_at hl 0 rfl) ?_
        refine va_get (D := G) (ci := 8) (v := .ref (q 1)) (C := RX8) (T := TX8) (N := 8) hx hb hts iX8 hown hK hP 0 wC_at0 rfl 0 (by decide) (hts _ m_738) (fun _ h9 => h9) rfl dX8_odds_65 ?_
        refine lv_iload hx hb dX8_odds_68 (lv_at hl 4 rfl) ?_
        refine lv_iconst (v := 4) hx hb dX8_odds_70 (by decide) ?_
        obtain ⟨r_13, h_13, e_13, hF⟩ := ob2_some hF
        refine gx_calli (gx_runV (As := [.int x4, .int 4]) (rest := []) ⟨hx, hb, hml, hown, hts⟩ (c_X4_ofGoose l G cI cJ cZ cB cT q h x4 4 r_13 h_13 e_13 H.size) (gG_V m_754 m_15 m_16 m_7 m_13) rfl e_X4_ofGoose ⟨Nat.le_of_ble_eq_true rfl, Nat.le_of_ble_eq_true rfl⟩ hK hP hD hE hS hA 1 wC_at1 rfl rfl hl.1 rfl (Nat.le_of_ble_eq_true rfl) dX8_odds_71 ⟨Nat.le_refl _, Nat.le_refl _⟩) hP hD hS hA (fun x_13 u_13 H locs hw_13 hP hD hS => ?_)
        subst x_13
        refine lv_iconst (v := 1) hx hb dX8_odds_74 (by decide) ?_
        refine lv_icmp_ne (tgt := 109) hx hb dX8_odds_75 (by decide) (fun c_14 => ?_) (fun c_14 => ?_)
        · have hF := ob_neg c_14 hF
          exact hJ_109 h_13 x1 x2 x3 x4 hF H _ ls hP hD hS (lv_sub hl [0, 1, 2, 3, 4] rfl)
        · have hF := ob_pos c_14 hF
          refine lv_aload_n hx hb dX8_odds_78 rfl (lv_at hl 0 rfl) ?_
          refine va_get (D := G) (ci := 8) (v := .ref (q 1)) (C := RX8) (T := TX8) (N := 8) hx hb hts iX8 hown hK hP 0 wC_at0 rfl 0 (by decide) (hts _ m_738) (fun _ h9 => h9) rfl dX8_odds_79 ?_
          refine lv_iload hx hb dX8_odds_82 (lv_at hl 4 rfl) ?_
          refine lv_iconst (v := 2) hx hb dX8_odds_84 (by decide) ?_
          obtain ⟨r_15, h_15, e_15, hF⟩ := ob2_some hF
          refine gx_calli (gx_runV (As := [.int x4, .int 2]) (rest := []) ⟨hx, hb, hml, hown, hts⟩ (c_X4_ofGoose l G cI cJ cZ cB cT q h_13 x4 2 r_15 h_15 e_15 H.size) (gG_V m_754 m_15 m_16 m_7 m_13) rfl e_X4_ofGoose ⟨Nat.le_of_ble_eq_true rfl, Nat.le_of_ble_eq_true rfl⟩ hK hP hD hE hS hA 1 wC_at1 rfl rfl hl.1 rfl (Nat.le_of_ble_eq_true rfl) dX8_odds_85 ⟨Nat.le_refl _, Nat.le_refl _⟩) hP hD hS hA (fun x_15 u_15 H locs hw_15 hP hD hS => ?_)
          subst x_15
          refine lv_iload_n hx hb dX8_odds_88 rfl (lv_at hl 1 rfl) ?_
          refine lv_icmp_ne (tgt := 109) hx hb dX8_odds_89 (by decide) (fun c_16 => ?_) (fun c_16 => ?_)
          · have hF := ob_neg c_16 hF
            exact hJ_109 h_15 x1 x2 x3 x4 hF H _ ls hP hD hS (lv_sub hl [0, 1, 2, 3, 4] rfl)
          · have hF := ob_pos c_16 hF
            refine lv_aload_n hx hb dX8_odds_92 rfl (lv_at hl 0 rfl) ?_
            refine va_get (D := G) (ci := 8) (v := .ref (q 20)) (C := RX8) (T := TX8) (N := 8) hx hb hts iX8 hown hK hP 0 wC_at0 rfl 6 (by decide) (hts _ m_858) (fun _ h9 => h9) rfl dX8_odds_93 ?_
            refine lv_aload_n hx hb dX8_odds_96 rfl (lv_at hl 0 rfl) ?_
            refine va_get (D := G) (ci := 8) (v := .ref (q 1)) (C := RX8) (T := TX8) (N := 8) hx hb hts iX8 hown hK hP 0 wC_at0 rfl 0 (by decide) (hts _ m_738) (fun _ h9 => h9) rfl dX8_odds_97 ?_
            refine lv_aload_n hx hb dX8_odds_100 rfl (lv_at hl 0 rfl) ?_
            refine va_get (D := G) (ci := 8) (v := .ref (q 16)) (C := RX8) (T := TX8) (N := 8) hx hb hts iX8 hown hK hP 0 wC_at0 rfl 5 (by decide) (hts _ m_755) (fun _ h9 => h9) rfl dX8_odds_101 ?_
            refine lv_iload hx hb dX8_odds_104 (lv_at hl 4 rfl) ?_
            obtain ⟨h_17, e_17, hF⟩ := ob1_some hF
            refine gx_callv (gx_runV (As := [.ref (q 1), .ref (q 16), .int x4]) (rest := []) ⟨hx, hb, hml, hown, hts⟩ (c_X0_add l G cI cJ cZ cB cT q h_15 x4 h_17 e_17 H.size) (gG_V m_875 m_876 m_877 m_863 m_874) rfl e_X0_add ⟨Nat.le_of_ble_eq_true rfl, Nat.le_of_ble_eq_true rfl⟩ hK hP hD hE hS hA 20 wC_at20 rfl rfl hl.1 rfl (Nat.le_of_ble_eq_true rfl) dX8_odds_106 ⟨Nat.le_refl _, Nat.le_refl _⟩) hP hD hS hA (fun u_17 H locs hw_17 hP hD hS => ?_)
            exact hJ_109 h_17 x1 x2 x3 x4 hF H _ ls hP hD hS (lv_sub hl [0, 1, 2, 3, 4] rfl)
  unfold f_X8_odds at hF
  refine lv_iload_n hx hb dX8_odds_0 rfl (lv_at hl 1 rfl) ?_
  obtain ⟨r_1, e_1, hF⟩ := ob1_some hF
  refine gx_calli0 (gx_runS0 (As := [.int p1]) (rest := []) ⟨hx, hb, hml, hown, hts⟩ (c_X8_isLetter l G cI cJ cZ cB cT   p1 r_1 e_1 H.size) (gG_S m_58 m_59 m_60 m_57) rfl e_X8_isLetter ⟨Nat.le_of_ble_eq_true rfl, Nat.le_of_ble_eq_true rfl⟩ hK hE hS hA rfl hl.1 rfl (Nat.le_of_ble_eq_true rfl) dX8_odds_1 ⟨Nat.le_refl _, Nat.le_refl _⟩) hP hD hS hA (fun x_1 u_1 H locs hw_1 hP hD hS => ?_)
  subst x_1
  refine lv_if_eq (tgt := 16) hx hb dX8_odds_4 (by decide) (fun c_2 => ?_) (fun c_2 => ?_)
  · have hF := ob_pos c_2 hF
    exact hJ_16 h hF H _ ls hP hD hS (lv_sub hl [] rfl)
  · have hF := ob_neg c_2 hF
    refine lv_iload_n hx hb dX8_odds_7 rfl (lv_at hl 2 rfl) ?_
    refine lv_if_lt (tgt := 16) hx hb dX8_odds_8 (by decide) (fun c_3 => ?_) (fun c_3 => ?_)
    · have hF := ob_pos c_3 hF
      exact hJ_16 h hF H _ ls hP hD hS (lv_sub hl [] rfl)
    · have hF := ob_neg c_3 hF
      refine lv_iload_n hx hb dX8_odds_11 rfl (lv_at hl 2 rfl) ?_
      refine lv_iconst (v := 2) hx hb dX8_odds_12 (by decide) ?_
      refine lv_icmp_le (tgt := 20) hx hb dX8_odds_13 (by decide) (fun c_4 => ?_) (fun c_4 => ?_)
      · have hF := ob_pos c_4 hF
        refine lv_aload_n hx hb dX8_odds_20 rfl (lv_at hl 0 rfl) ?_
        refine va_get (D := G) (ci := 8) (v := .ref (q 20)) (C := RX8) (T := TX8) (N := 8) hx hb hts iX8 hown hK hP 0 wC_at0 rfl 6 (by decide) (hts _ m_858) (fun _ h9 => h9) rfl dX8_odds_21 ?_
        refine lv_aload_n hx hb dX8_odds_24 rfl (lv_at hl 0 rfl) ?_
        refine lv_iload_n hx hb dX8_odds_25 rfl (lv_at hl 1 rfl) ?_
        refine lv_iconst (v := 0) hx hb dX8_odds_26 (by decide) ?_
        refine lv_sipush (v := 999) hx hb dX8_odds_27 (by decide) ?_
        refine lv_bipush (v := 10) hx hb dX8_odds_30 (by decide) ?_
        obtain ⟨r_5, h_5, e_5, hF⟩ := ob2_some hF
        refine gx_calli (gx_runV (As := [.int p1, .int 0, .int 999, .int 10]) (rest := [.ref (q 20)]) ⟨hx, hb, hml, hown, hts⟩ (c_X8_halvesHad l G cI cJ cZ cB cT q h p1 0 999 10 r_5 h_5 e_5 H.size) (gG_V m_847 m_848 m_849 m_60 m_846) rfl e_X8_halvesHad ⟨Nat.le_of_ble_eq_true rfl, Nat.le_of_ble_eq_true rfl⟩ hK hP hD hE hS hA 0 wC_at0 rfl rfl hl.1 rfl (Nat.le_of_ble_eq_true rfl) dX8_odds_32 ⟨Nat.le_refl _, Nat.le_refl _⟩) hP hD hS hA (fun x_5 u_5 H locs hw_5 hP hD hS => ?_)
        subst x_5
        refine lv_aload_n hx hb dX8_odds_35 rfl (lv_at hl 0 rfl) ?_
        refine lv_iload_n hx hb dX8_odds_36 rfl (lv_at hl 1 rfl) ?_
        refine lv_iconst (v := 1) hx hb dX8_odds_37 (by decide) ?_
        refine lv_sipush (v := 999) hx hb dX8_odds_38 (by decide) ?_
        refine lv_bipush (v := 10) hx hb dX8_odds_41 (by decide) ?_
        obtain ⟨r_6, h_6, e_6, hF⟩ := ob2_some hF
        refine gx_calli (gx_runV (As := [.int p1, .int 1, .int 999, .int 10]) (rest := [.int r_5, .ref (q 20)]) ⟨hx, hb, hml, hown, hts⟩ (c_X8_halvesHad l G cI cJ cZ cB cT q h_5 p1 1 999 10 r_6 h_6 e_6 H.size) (gG_V m_847 m_848 m_849 m_60 m_846) rfl e_X8_halvesHad ⟨Nat.le_of_ble_eq_true rfl, Nat.le_of_ble_eq_true rfl⟩ hK hP hD hE hS hA 0 wC_at0 rfl rfl hl.1 rfl (Nat.le_of_ble_eq_true rfl) dX8_odds_43 ⟨Nat.le_refl _, Nat.le_refl _⟩) hP hD hS hA (fun x_6 u_6 H locs hw_6 hP hD hS => ?_)
        subst x_6
        obtain ⟨h_7, e_7, hF⟩ := ob1_some hF
        refine gx_callv (gx_runV (As := [.int r_5, .int r_6]) (rest := []) ⟨hx, hb, hml, hown, hts⟩ (c_X0_begin l G cI cJ cZ cB cT q h_6 r_5 r_6 h_7 e_7 H.size) (gG_V m_860 m_861 m_862 m_863 m_859) rfl e_X0_begin ⟨Nat.le_of_ble_eq_true rfl, Nat.le_of_ble_eq_true rfl⟩ hK hP hD hE hS hA 20 wC_at20 rfl rfl hl.1 rfl (Nat.le_of_ble_eq_true rfl) dX8_odds_46 ⟨Nat.le_refl _, Nat.le_refl _⟩) hP hD hS hA (fun u_7 H locs hw_7 hP hD hS => ?_)
        refine lv_iconst (v := 0) hx hb dX8_odds_49 (by decide) ?_
        refine lv_istore (lv' := [(4, .int 0), (0, .ref (q 0)), (1, .int p1), (2, .int p2), (3, .int p3)]) hx hb dX8_odds_50 hl (by decide) rfl (fun ls hl => ?_)
        exact hJ_52 8589934592 h_7 p1 p2 p3 0 hF H _ ls hP hD hS (lv_sub hl [1, 2, 3, 4, 0] rfl)
      · have hF := ob_neg c_4 hF
        exact hJ_16 h hF H _ ls hP hD hS (lv_sub hl [] rfl)
def f_X8_plan_34 (h : HS) : Option (Int32 × HS) := (some ((-2), h))
def f_X8_plan_82 (h : HS) (y0 : Int32) : Option (Int32 × HS) := (some (y0, h))
def f_X8_plan_37 (h : HS) (x1 : Int32) (x2 : Int32) (x3 : Int32) : Option (Int32 × HS) := (ob2 (f_X3_fewest h x1 x2) (fun r_8 h_8 => (if r_8 = 0 then (some ((-2), h_8)) else (if x3 = (-1) then (f_X8_plan_82 h_8 r_8) else (ob2 (f_X3_choiceOf h_8 x3) (fun r_11 h_11 => (f_X8_plan_82 h_11 r_11)))))))
def f_X8_plan (h : HS) (p1 : Int32) (p2 : Int32) (p3 : Int32) : Option (Int32 × HS) := (ob1 (f_X8_isLetter p1) (fun r_1 => (if r_1 = 0 then (f_X8_plan_34 h) else (if p2 < 1 then (f_X8_plan_34 h) else (if 100 < p2 then (f_X8_plan_34 h) else (if p3 = (-1) then (f_X8_plan_37 h p1 p2 p3) else (ob2 (f_X4_hasGoose h p3) (fun r_6 h_6 => (if r_6 = 0 then (f_X8_plan_34 h_6) else (f_X8_plan_37 h_6 p1 p2 p3))))))))))
theorem e_X3_choiceOf : yX3_choiceOf.cls = RX3 ∧ yX3_choiceOf.cls ≠ "java/lang/invoke/MethodHandle" ∧ yX3_choiceOf.cls ≠ "java/lang/invoke/VarHandle" ∧ (parseMethodDescriptor yX3_choiceOf.desc).map (fun d => d.parameters.length) = some 1 := by decide +kernel
theorem e_X3_fewest : yX3_fewest.cls = RX3 ∧ yX3_fewest.cls ≠ "java/lang/invoke/MethodHandle" ∧ yX3_fewest.cls ≠ "java/lang/invoke/VarHandle" ∧ (parseMethodDescriptor yX3_fewest.desc).map (fun d => d.parameters.length) = some 4 := by decide +kernel
set_option maxHeartbeats 4000000 in
set_option maxRecDepth 100000 in
theorem c_X8_plan (l : Launch) (G : va_G) (cI cJ cZ cB cT : ClassId) (q : Nat → Nat) (h : HS) (p1 : Int32) (p2 : Int32) (p3 : Int32) (rr : Int32) (hh : HS) (hF : f_X8_plan h p1 p2 p3 = some (rr, hh)) : gMi l yX8_plan (gws yX8_plan cX8_plan 5 (some .int)) 19 G (gT cI cJ cZ cB cT) [.ref (q 0), .int p1, .int p2, .int p3] (wC q cI cJ cZ cB cT h) (fun x (_ : Unit) => x = rr) (fun (_ : Unit) => (wC q cI cJ cZ cB cT hh)) := by
  intro sz
  refine gM_start (y := yX8_plan) (av := [.ref (q 0), .int p1, .int p2, .int p3]) (ws := (wC q cI cJ cZ cB cT h)) (Qf := fun A => va_Qi (fun x (_ : Unit) => x = rr) (gB G (fun (_ : Unit) => (wC q cI cJ cZ cB cT hh)) A) A) (cc := cX8_plan) (maxL := 5) (ret := (some .int)) (by decide) (Nat.le_of_ble_eq_true rfl) ?_
  intro p e s m args below meth c A ls H hx hb hr hts hown hin hlocks hml hP hK hD hA hS hl hE
  have hl : lv_has ls 5 [(0, .ref (q 0)), (1, .int p1), (2, .int p2), (3, .int p3)] := hl
  have hJ_34 : ∀ (h : HS), f_X8_plan_34 h = some (rr, hh) → ∀ (H : Heap) (locs : List Loc) (ls : Array Slot), va_P G vwCl (wC q cI cJ cZ cB cT h) H → va_D A (wC q cI cJ cZ cB cT h) → va_S A s.heap H locs → lv_has ls 5 [] → W p l e (gRm 19) s m args below meth c H locs 0 0 (MQ below (va_Qi (fun x (_ : Unit) => x = rr) (gB G (fun (_ : Unit) => (wC q cI cJ cZ cB cT hh)) A) A) args s 0 0 A) (F0 m 34 ls []) := by
    intro h hF H locs ls hP hD hS hl
    unfold f_X8_plan_34 at hF
    refine lv_bipush (v := (-2)) hx hb dX8_plan_34 (by decide) ?_
    obtain ⟨rfl, rfl⟩ := ob_pair hF
    exact gw_iret () hx hb hr hlocks hP hD hS rfl dX8_plan_36
  have hJ_82 : ∀ (h : HS) (y0 : Int32), f_X8_plan_82 h y0 = some (rr, hh) → ∀ (H : Heap) (locs : List Loc) (ls : Array Slot), va_P G vwCl (wC q cI cJ cZ cB cT h) H → va_D A (wC q cI cJ cZ cB cT h) → va_S A s.heap H locs → lv_has ls 5 [] → W p l e (gRm 19) s m args below meth c H locs 0 0 (MQ below (va_Qi (fun x (_ : Unit) => x = rr) (gB G (fun (_ : Unit) => (wC q cI cJ cZ cB cT hh)) A) A) args s 0 0 A) (F0 m 82 ls [.int y0]) := by
    intro h y0 hF H locs ls hP hD hS hl
    unfold f_X8_plan_82 at hF
    obtain ⟨rfl, rfl⟩ := ob_pair hF
    exact gw_iret () hx hb hr hlocks hP hD hS rfl dX8_plan_82
  have hJ_37 : ∀ (h : HS) (x1 : Int32) (x2 : Int32) (x3 : Int32), f_X8_plan_37 h x1 x2 x3 = some (rr, hh) → ∀ (H : Heap) (locs : List Loc) (ls : Array Slot), va_P G vwCl (wC q cI cJ cZ cB cT h) H → va_D A (wC q cI cJ cZ cB cT h) → va_S A s.heap H locs → lv_has ls 5 [(0, .ref (q 0)), (1, .int x1), (2, .int x2), (3, .int x3)] → W p l e (gRm 19) s m args below meth c H locs 0 0 (MQ below (va_Qi (fun x (_ : Unit) => x = rr) (gB G (fun (_ : Unit) => (wC q cI cJ cZ cB cT hh)) A) A) args s 0 0 A) (F0 m 37 ls []) := by
    intro h x1 x2 x3 hF H locs ls hP hD hS hl
    unfold f_X8_plan_37 at hF
    refine lv_aload_n hx hb dX8_plan_37 rfl (lv_at hl 0 rfl) ?_
    refine va_get (D := G) (ci := 8) (v := .ref (q 23)) (C := RX8) (T := TX8) (N := 8) hx hb hts iX8 hown hK hP 0 wC_at0 rfl 7 (by decide) (hts _ m_878) (fun _ h9 => h9) rfl dX8_plan_38 ?_
    refine lv_aload_n hx hb dX8_plan_41 rfl (lv_at hl 0 rfl) ?_
    refine va_get (D := G) (ci := 8) (v := .ref (q 1)) (C := RX8) (T := TX8) (N := 8) hx hb hts iX8 hown hK hP 0 wC_at0 rfl 0 (by decide) (hts _ m_738) (fun _ h9 => h9) rfl dX8_plan_42 ?_
    refine lv_aload_n hx hb dX8_plan_45 rfl (lv_at hl 0 rfl) ?_
    refine va_get (D := G) (ci := 8) (v := .ref (q 16)) (C := RX8) (T := TX8) (N := 8) hx hb hts iX8 hown hK hP 0 wC_at0 rfl 5 (by decide) (hts _ m_755) (fun _ h9 => h9) rfl dX8_plan_46 ?_
    refine lv_iload_n hx hb dX8_plan_49 rfl (lv_at hl 1 rfl) ?_
    refine lv_iload_n hx hb dX8_plan_50 rfl (lv_at hl 2 rfl) ?_
    obtain ⟨r_8, h_8, e_8, hF⟩ := ob2_some hF
    refine gx_calli (gx_runV (As := [.ref (q 1), .ref (q 16), .int x1, .int x2]) (rest := []) ⟨hx, hb, hml, hown, hts⟩ (c_X3_fewest l G cI cJ cZ cB cT q h x1 x2 r_8 h_8 e_8 H.size) (gG_V m_880 m_881 m_882 m_486 m_879) rfl e_X3_fewest ⟨Nat.le_of_ble_eq_true rfl, Nat.le_of_ble_eq_true rfl⟩ hK hP hD hE hS hA 23 wC_at23 rfl rfl hl.1 rfl (Nat.le_of_ble_eq_true rfl) dX8_plan_51 ⟨Nat.le_refl _, Nat.le_refl _⟩) hP hD hS hA (fun x_8 u_8 H locs hw_8 hP hD hS => ?_)
    subst x_8
    refine lv_istore (lv' := [(4, .int r_8), (0, .ref (q 0)), (1, .int x1), (2, .int x2), (3, .int x3)]) hx hb dX8_plan_54 hl (by decide) rfl (fun ls hl => ?_)
    refine lv_iload hx hb dX8_plan_56 (lv_at hl 0 rfl) ?_
    refine lv_if_ne (tgt := 64) hx hb dX8_plan_58 (by decide) (fun c_9 => ?_) (fun c_9 => ?_)
    · have hF := ob_neg c_9 hF
      refine lv_iload_n hx hb dX8_plan_64 rfl (lv_at hl 4 rfl) ?_
      refine lv_iconst (v := (-1)) hx hb dX8_plan_65 (by decide) ?_
      refine lv_icmp_ne (tgt := 74) hx hb dX8_plan_66 (by decide) (fun c_10 => ?_) (fun c_10 => ?_)
      · have hF := ob_neg c_10 hF
        refine lv_aload_n hx hb dX8_plan_74 rfl (lv_at hl 1 rfl) ?_
        refine va_get (D := G) (ci := 8) (v := .ref (q 23)) (C := RX8) (T := TX8) (N := 8) hx hb hts iX8 hown hK hP 0 wC_at0 rfl 7 (by decide) (hts _ m_878) (fun _ h9 => h9) rfl dX8_plan_75 ?_
        refine lv_iload_n hx hb dX8_plan_78 rfl (lv_at hl 4 rfl) ?_
        obtain ⟨r_11, h_11, e_11, hF⟩ := ob2_some hF
        refine gx_calli (gx_runV (As := [.int x3]) (rest := []) ⟨hx, hb, hml, hown, hts⟩ (c_X3_choiceOf l G cI cJ cZ cB cT q h_8 x3 r_11 h_11 e_11 H.size) (gG_V m_884 m_885 m_886 m_486 m_883) rfl e_X3_choiceOf ⟨Nat.le_of_ble_eq_true rfl, Nat.le_of_ble_eq_true rfl⟩ hK hP hD hE hS hA 23 wC_at23 rfl rfl hl.1 rfl (Nat.le_of_ble_eq_true rfl) dX8_plan_79 ⟨Nat.le_refl _, Nat.le_refl _⟩) hP hD hS hA (fun x_11 u_11 H locs hw_11 hP hD hS => ?_)
        subst x_11
        exact hJ_82 h_11 r_11 hF H _ ls hP hD hS (lv_sub hl [] rfl)
      · have hF := ob_pos c_10 hF
        refine lv_iload hx hb dX8_plan_69 (lv_at hl 0 rfl) ?_
        refine lv_goto (tgt := 82) hx hb dX8_plan_71 (by decide) ?_
        exact hJ_82 h_8 r_8 hF H _ ls hP hD hS (lv_sub hl [] rfl)
    · have hF := ob_pos c_9 hF
      refine lv_bipush (v := (-2)) hx hb dX8_plan_61 (by decide) ?_
      obtain ⟨rfl, rfl⟩ := ob_pair hF
      exact gw_iret () hx hb hr hlocks hP hD hS rfl dX8_plan_63
  unfold f_X8_plan at hF
  refine lv_iload_n hx hb dX8_plan_0 rfl (lv_at hl 1 rfl) ?_
  obtain ⟨r_1, e_1, hF⟩ := ob1_some hF
  refine gx_calli0 (gx_runS0 (As := [.int p1]) (rest := []) ⟨hx, hb, hml, hown, hts⟩ (c_X8_isLetter l G cI cJ cZ cB cT   p1 r_1 e_1 H.size) (gG_S m_58 m_59 m_60 m_57) rfl e_X8_isLetter ⟨Nat.le_of_ble_eq_true rfl, Nat.le_of_ble_eq_true rfl⟩ hK hE hS hA rfl hl.1 rfl (Nat.le_of_ble_eq_true rfl) dX8_plan_1 ⟨Nat.le_refl _, Nat.le_refl _⟩) hP hD hS hA (fun x_1 u_1 H locs hw_1 hP hD hS => ?_)
  subst x_1
  refine lv_if_eq (tgt := 34) hx hb dX8_plan_4 (by decide) (fun c_2 => ?_) (fun c_2 => ?_)
  · have hF := ob_pos c_2 hF
    exact hJ_34 h hF H _ ls hP hD hS (lv_sub hl [] rfl)
  · have hF := ob_neg c_2 hF
    refine lv_iload_n hx hb dX8_plan_7 rfl (lv_at hl 2 rfl) ?_
    refine lv_iconst (v := 1) hx hb dX8_plan_8 (by decide) ?_
    refine lv_icmp_lt (tgt := 34) hx hb dX8_plan_9 (by decide) (fun c_3 => ?_) (fun c_3 => ?_)
    · have hF := ob_pos c_3 hF
      exact hJ_34 h hF H _ ls hP hD hS (lv_sub hl [] rfl)
    · have hF := ob_neg c_3 hF
      refine lv_iload_n hx hb dX8_plan_12 rfl (lv_at hl 2 rfl) ?_
      refine lv_bipush (v := 100) hx hb dX8_plan_13 (by decide) ?_
      refine lv_icmp_gt (tgt := 34) hx hb dX8_plan_15 (by decide) (fun c_4 => ?_) (fun c_4 => ?_)
      · have hF := ob_pos c_4 hF
        exact hJ_34 h hF H _ ls hP hD hS (lv_sub hl [] rfl)
      · have hF := ob_neg c_4 hF
        refine lv_iload_n hx hb dX8_plan_18 rfl (lv_at hl 3 rfl) ?_
        refine lv_iconst (v := (-1)) hx hb dX8_plan_19 (by decide) ?_
        refine lv_icmp_eq (tgt := 37) hx hb dX8_plan_20 (by decide) (fun c_5 => ?_) (fun c_5 => ?_)
        · have hF := ob_pos c_5 hF
          exact hJ_37 h p1 p2 p3 hF H _ ls hP hD hS (lv_sub hl [0, 1, 2, 3] rfl)
        · have hF := ob_neg c_5 hF
          refine lv_aload_n hx hb dX8_plan_23 rfl (lv_at hl 0 rfl) ?_
          refine va_get (D := G) (ci := 8) (v := .ref (q 1)) (C := RX8) (T := TX8) (N := 8) hx hb hts iX8 hown hK hP 0 wC_at0 rfl 0 (by decide) (hts _ m_738) (fun _ h9 => h9) rfl dX8_plan_24 ?_
          refine lv_iload_n hx hb dX8_plan_27 rfl (lv_at hl 3 rfl) ?_
          obtain ⟨r_6, h_6, e_6, hF⟩ := ob2_some hF
          refine gx_calli (gx_runV (As := [.int p3]) (rest := []) ⟨hx, hb, hml, hown, hts⟩ (c_X4_hasGoose l G cI cJ cZ cB cT q h p3 r_6 h_6 e_6 H.size) (gG_V m_839 m_5 m_6 m_7 m_3) rfl e_X4_hasGoose ⟨Nat.le_of_ble_eq_true rfl, Nat.le_of_ble_eq_true rfl⟩ hK hP hD hE hS hA 1 wC_at1 rfl rfl hl.1 rfl (Nat.le_of_ble_eq_true rfl) dX8_plan_28 ⟨Nat.le_refl _, Nat.le_refl _⟩) hP hD hS hA (fun x_6 u_6 H locs hw_6 hP hD hS => ?_)
          subst x_6
          refine lv_if_ne (tgt := 37) hx hb dX8_plan_31 (by decide) (fun c_7 => ?_) (fun c_7 => ?_)
          · have hF := ob_neg c_7 hF
            exact hJ_37 h_6 p1 p2 p3 hF H _ ls hP hD hS (lv_sub hl [0, 1, 2, 3] rfl)
          · have hF := ob_pos c_7 hF
            exact hJ_34 h_6 hF H _ ls hP hD hS (lv_sub hl [] rfl)
def f_X8_holds (h : HS) : Option (Int32 × HS) := (ob2 (f_X4_dailyNeed h) (fun r_1 h_1 => (if 1 ≤ r_1 then (if ¬ r_1 = 0 then (some ((if ((eI h_1 1 5) / r_1) < 999 then ((eI h_1 1 5) / r_1) else 999), h_1)) else none) else (some (999, h_1)))))
set_option maxHeartbeats 4000000 in
set_option maxRecDepth 100000 in
theorem c_X8_holds (l : Launch) (G : va_G) (cI cJ cZ cB cT : ClassId) (q : Nat → Nat) (h : HS)  (rr : Int32) (hh : HS) (hF : f_X8_holds h = some (rr, hh)) : gMi l yX8_holds (gws yX8_holds cX8_holds 2 (some .int)) 4 G (gT cI cJ cZ cB cT) [.ref (q 0)] (wC q cI cJ cZ cB cT h) (fun x (_ : Unit) => x = rr) (fun (_ : Unit) => (wC q cI cJ cZ cB cT hh)) := by
  intro sz
  refine gM_start (y := yX8_holds) (av := [.ref (q 0)]) (ws := (wC q cI cJ cZ cB cT h)) (Qf := fun A => va_Qi (fun x (_ : Unit) => x = rr) (gB G (fun (_ : Unit) => (wC q cI cJ cZ cB cT hh)) A) A) (cc := cX8_holds) (maxL := 2) (ret := (some .int)) (by decide) (Nat.le_of_ble_eq_true rfl) ?_
  intro p e s m args below meth c A ls H hx hb hr hts hown hin hlocks hml hP hK hD hA hS hl hE
  have hl : lv_has ls 2 [(0, .ref (q 0))] := hl
  unfold f_X8_holds at hF
  refine lv_aload_n hx hb dX8_holds_0 rfl (lv_at hl 0 rfl) ?_
  refine va_get (D := G) (ci := 8) (v := .ref (q 1)) (C := RX8) (T := TX8) (N := 8) hx hb hts iX8 hown hK hP 0 wC_at0 rfl 0 (by decide) (hts _ m_738) (fun _ h9 => h9) rfl dX8_holds_1 ?_
  obtain ⟨r_1, h_1, e_1, hF⟩ := ob2_some hF
  refine gx_calli (gx_runV (As := []) (rest := []) ⟨hx, hb, hml, hown, hts⟩ (c_X4_dailyNeed l G cI cJ cZ cB cT q h  r_1 h_1 e_1 H.size) (gG_V m_887 m_29 m_30 m_7 m_27) rfl e_X4_dailyNeed ⟨Nat.le_of_ble_eq_true rfl, Nat.le_of_ble_eq_true rfl⟩ hK hP hD hE hS hA 1 wC_at1 rfl rfl hl.1 rfl (Nat.le_of_ble_eq_true rfl) dX8_holds_4 ⟨Nat.le_refl _, Nat.le_refl _⟩) hP hD hS hA (fun x_1 u_1 H locs hw_1 hP hD hS => ?_)
  subst x_1
  refine lv_istore_n (lv' := [(1, .int r_1), (0, .ref (q 0))]) hx hb dX8_holds_7 rfl hl (by decide) rfl (fun ls hl => ?_)
  refine lv_iload_n hx hb dX8_holds_8 rfl (lv_at hl 0 rfl) ?_
  refine lv_iconst (v := 1) hx hb dX8_holds_9 (by decide) ?_
  refine lv_icmp_ge (tgt := 17) hx hb dX8_holds_10 (by decide) (fun c_2 => ?_) (fun c_2 => ?_)
  · have hF := ob_pos c_2 hF
    refine lv_sipush (v := 999) hx hb dX8_holds_17 (by decide) ?_
    refine lv_aload_n hx hb dX8_holds_20 rfl (lv_at hl 1 rfl) ?_
    refine va_get (D := G) (ci := 8) (v := .ref (q 1)) (C := RX8) (T := TX8) (N := 8) hx hb hts iX8 hown hK hP 0 wC_at0 rfl 0 (by decide) (hts _ m_738) (fun _ h9 => h9) rfl dX8_holds_21 ?_
    refine va_get (D := G) (ci := 4) (v := .int (eI h_1 1 5)) (C := RX4) (T := TX4) (N := 13) hx hb hts iX4 hown hK hP 1 wC_at1 rfl 5 (by decide) (hts _ m_747) (fun _ h9 => h9) rfl dX8_holds_24 ?_
    refine lv_iload_n hx hb dX8_holds_27 rfl (lv_at hl 0 rfl) ?_
    obtain ⟨hd_3, hF⟩ := ob_if hF
    refine lv_idiv hx hb dX8_holds_28 hd_3 ?_
    refine va_mmin hx hb (by rw [hml]; exact hl.1.symm) hown (hts _ m_888) (hts _ m_53) (hts _ m_50) (hts _ m_54) (Nat.le_of_ble_eq_true rfl) (Nat.le_of_ble_eq_true rfl) (Nat.le_of_ble_eq_true rfl) (Nat.le_of_ble_eq_true rfl) dX8_holds_29 ?_
    obtain ⟨rfl, rfl⟩ := ob_pair hF
    exact gw_iret () hx hb hr hlocks hP hD hS rfl dX8_holds_32
  · have hF := ob_neg c_2 hF
    refine lv_sipush (v := 999) hx hb dX8_holds_13 (by decide) ?_
    obtain ⟨rfl, rfl⟩ := ob_pair hF
    exact gw_iret () hx hb hr hlocks hP hD hS rfl dX8_holds_16
def f_X8_image (h : HS) : Option (Int32 × HS) := (ob1 (f_X4_copyFrom_i h) (fun h_1 => (some ((eI h_1 1 7), h_1))))
theorem e_X4_copyFrom : yX4_copyFrom.cls = RX4 ∧ yX4_copyFrom.cls ≠ "java/lang/invoke/MethodHandle" ∧ yX4_copyFrom.cls ≠ "java/lang/invoke/VarHandle" ∧ (parseMethodDescriptor yX4_copyFrom.desc).map (fun d => d.parameters.length) = some 1 := by decide +kernel
set_option maxHeartbeats 4000000 in
set_option maxRecDepth 100000 in
theorem c_X8_image (l : Launch) (G : va_G) (cI cJ cZ cB cT : ClassId) (q : Nat → Nat) (h : HS)  (rr : Int32) (hh : HS) (hF : f_X8_image h = some (rr, hh)) : gMi l yX8_image (gws yX8_image cX8_image 1 (some .int)) 2 G (gT cI cJ cZ cB cT) [.ref (q 0)] (wC q cI cJ cZ cB cT h) (fun x (_ : Unit) => x = rr) (fun (_ : Unit) => (wC q cI cJ cZ cB cT hh)) := by
  intro sz
  refine gM_start (y := yX8_image) (av := [.ref (q 0)]) (ws := (wC q cI cJ cZ cB cT h)) (Qf := fun A => va_Qi (fun x (_ : Unit) => x = rr) (gB G (fun (_ : Unit) => (wC q cI cJ cZ cB cT hh)) A) A) (cc := cX8_image) (maxL := 1) (ret := (some .int)) (by decide) (Nat.le_of_ble_eq_true rfl) ?_
  intro p e s m args below meth c A ls H hx hb hr hts hown hin hlocks hml hP hK hD hA hS hl hE
  have hl : lv_has ls 1 [(0, .ref (q 0))] := hl
  unfold f_X8_image at hF
  refine lv_aload_n hx hb dX8_image_0 rfl (lv_at hl 0 rfl) ?_
  refine va_get (D := G) (ci := 8) (v := .ref (q 5)) (C := RX8) (T := TX8) (N := 8) hx hb hts iX8 hown hK hP 0 wC_at0 rfl 1 (by decide) (hts _ m_889) (fun _ h9 => h9) rfl dX8_image_1 ?_
  refine lv_aload_n hx hb dX8_image_4 rfl (lv_at hl 0 rfl) ?_
  refine va_get (D := G) (ci := 8) (v := .ref (q 1)) (C := RX8) (T := TX8) (N := 8) hx hb hts iX8 hown hK hP 0 wC_at0 rfl 0 (by decide) (hts _ m_738) (fun _ h9 => h9) rfl dX8_image_5 ?_
  obtain ⟨h_1, e_1, hF⟩ := ob1_some hF
  refine gx_callv (gx_runV (As := [.ref (q 1)]) (rest := []) ⟨hx, hb, hml, hown, hts⟩ (c_X4_copyFrom_i l G cI cJ cZ cB cT q h  h_1 e_1 H.size) (gG_V m_891 m_892 m_893 m_7 m_890) rfl e_X4_copyFrom ⟨Nat.le_of_ble_eq_true rfl, Nat.le_of_ble_eq_true rfl⟩ hK hP hD hE hS hA 5 wC_at5 rfl rfl hl.1 rfl (Nat.le_of_ble_eq_true rfl) dX8_image_8 ⟨Nat.le_refl _, Nat.le_refl _⟩) hP hD hS hA (fun u_1 H locs hw_1 hP hD hS => ?_)
  refine lv_aload_n hx hb dX8_image_11 rfl (lv_at hl 0 rfl) ?_
  refine va_get (D := G) (ci := 8) (v := .ref (q 1)) (C := RX8) (T := TX8) (N := 8) hx hb hts iX8 hown hK hP 0 wC_at0 rfl 0 (by decide) (hts _ m_738) (fun _ h9 => h9) rfl dX8_image_12 ?_
  refine va_get (D := G) (ci := 4) (v := .int (eI h_1 1 7)) (C := RX4) (T := TX4) (N := 13) hx hb hts iX4 hown hK hP 1 wC_at1 rfl 7 (by decide) (hts _ m_770) (fun _ h9 => h9) rfl dX8_image_15 ?_
  obtain ⟨rfl, rfl⟩ := ob_pair hF
  exact gw_iret () hx hb hr hlocks hP hD hS rfl dX8_image_18
def f_X8_back (h : HS) : Option (Int32 × HS) := (ob1 (f_X4_copyFrom_b h) (fun h_1 => (some ((eI h_1 1 7), h_1))))
set_option maxHeartbeats 4000000 in
set_option maxRecDepth 100000 in
theorem c_X8_back (l : Launch) (G : va_G) (cI cJ cZ cB cT : ClassId) (q : Nat → Nat) (h : HS)  (rr : Int32) (hh : HS) (hF : f_X8_back h = some (rr, hh)) : gMi l yX8_back (gws yX8_back cX8_back 1 (some .int)) 2 G (gT cI cJ cZ cB cT) [.ref (q 0)] (wC q cI cJ cZ cB cT h) (fun x (_ : Unit) => x = rr) (fun (_ : Unit) => (wC q cI cJ cZ cB cT hh)) := by
  intro sz
  refine gM_start (y := yX8_back) (av := [.ref (q 0)]) (ws := (wC q cI cJ cZ cB cT h)) (Qf := fun A => va_Qi (fun x (_ : Unit) => x = rr) (gB G (fun (_ : Unit) => (wC q cI cJ cZ cB cT hh)) A) A) (cc := cX8_back) (maxL := 1) (ret := (some .int)) (by decide) (Nat.le_of_ble_eq_true rfl) ?_
  intro p e s m args below meth c A ls H hx hb hr hts hown hin hlocks hml hP hK hD hA hS hl hE
  have hl : lv_has ls 1 [(0, .ref (q 0))] := hl
  unfold f_X8_back at hF
  refine lv_aload_n hx hb dX8_back_0 rfl (lv_at hl 0 rfl) ?_
  refine va_get (D := G) (ci := 8) (v := .ref (q 1)) (C := RX8) (T := TX8) (N := 8) hx hb hts iX8 hown hK hP 0 wC_at0 rfl 0 (by decide) (hts _ m_738) (fun _ h9 => h9) rfl dX8_back_1 ?_
  refine lv_aload_n hx hb dX8_back_4 rfl (lv_at hl 0 rfl) ?_
  refine va_get (D := G) (ci := 8) (v := .ref (q 5)) (C := RX8) (T := TX8) (N := 8) hx hb hts iX8 hown hK hP 0 wC_at0 rfl 1 (by decide) (hts _ m_889) (fun _ h9 => h9) rfl dX8_back_5 ?_
  obtain ⟨h_1, e_1, hF⟩ := ob1_some hF
  refine gx_callv (gx_runV (As := [.ref (q 5)]) (rest := []) ⟨hx, hb, hml, hown, hts⟩ (c_X4_copyFrom_b l G cI cJ cZ cB cT q h  h_1 e_1 H.size) (gG_V m_891 m_892 m_893 m_7 m_890) rfl e_X4_copyFrom ⟨Nat.le_of_ble_eq_true rfl, Nat.le_of_ble_eq_true rfl⟩ hK hP hD hE hS hA 1 wC_at1 rfl rfl hl.1 rfl (Nat.le_of_ble_eq_true rfl) dX8_back_8 ⟨Nat.le_refl _, Nat.le_refl _⟩) hP hD hS hA (fun u_1 H locs hw_1 hP hD hS => ?_)
  refine lv_aload_n hx hb dX8_back_11 rfl (lv_at hl 0 rfl) ?_
  refine va_get (D := G) (ci := 8) (v := .ref (q 1)) (C := RX8) (T := TX8) (N := 8) hx hb hts iX8 hown hK hP 0 wC_at0 rfl 0 (by decide) (hts _ m_738) (fun _ h9 => h9) rfl dX8_back_12 ?_
  refine va_get (D := G) (ci := 4) (v := .int (eI h_1 1 7)) (C := RX4) (T := TX4) (N := 13) hx hb hts iX4 hown hK hP 1 wC_at1 rfl 7 (by decide) (hts _ m_770) (fun _ h9 => h9) rfl dX8_back_15 ?_
  obtain ⟨rfl, rfl⟩ := ob_pair hF
  exact gw_iret () hx hb hr hlocks hP hD hS rfl dX8_back_18
def f_X8_aboutMany_44 (h : HS) : Option (Int32 × HS) := (some ((-2), h))
def f_X8_aboutMany_24 (h : HS) (x1 : Int32) : Option (Int32 × HS) := (if x1 < 10 then (f_X8_aboutMany_44 h) else (if x1 < (10 + (eI h 1 4)) then (ob2 (f_X4_ofMarket h (x1 - 10) 0) (fun r_6 h_6 => (ob2 (f_X4_ofMarket h_6 (x1 - 10) 1) (fun r_7 h_7 => (ob2 (f_X4_ofMarket h_7 (x1 - 10) 2) (fun r_8 h_8 => (some ((((r_6 * 100) + (r_7 * 10)) + r_8), h_8)))))))) else (f_X8_aboutMany_44 h)))
def f_X8_aboutMany (h : HS) (p1 : Int32) : Option (Int32 × HS) := (if p1 < 20 then (f_X8_aboutMany_24 h p1) else (if 26 ≤ p1 then (f_X8_aboutMany_24 h p1) else (ob2 (f_X4_countFate h (p1 - 20)) (fun r_3 h_3 => (some (r_3, h_3))))))
set_option maxHeartbeats 4000000 in
set_option maxRecDepth 100000 in
theorem c_X8_aboutMany (l : Launch) (G : va_G) (cI cJ cZ cB cT : ClassId) (q : Nat → Nat) (h : HS) (p1 : Int32) (rr : Int32) (hh : HS) (hF : f_X8_aboutMany h p1 = some (rr, hh)) : gMi l yX8_aboutMany (gws yX8_aboutMany cX8_aboutMany 3 (some .int)) 3 G (gT cI cJ cZ cB cT) [.ref (q 0), .int p1] (wC q cI cJ cZ cB cT h) (fun x (_ : Unit) => x = rr) (fun (_ : Unit) => (wC q cI cJ cZ cB cT hh)) := by
  intro sz
  refine gM_start (y := yX8_aboutMany) (av := [.ref (q 0), .int p1]) (ws := (wC q cI cJ cZ cB cT h)) (Qf := fun A => va_Qi (fun x (_ : Unit) => x = rr) (gB G (fun (_ : Unit) => (wC q cI cJ cZ cB cT hh)) A) A) (cc := cX8_aboutMany) (maxL := 3) (ret := (some .int)) (by decide) (Nat.le_of_ble_eq_true rfl) ?_
  intro p e s m args below meth c A ls H hx hb hr hts hown hin hlocks hml hP hK hD hA hS hl hE
  have hl : lv_has ls 3 [(0, .ref (q 0)), (1, .int p1)] := hl
  have hJ_44 : ∀ (h : HS), f_X8_aboutMany_44 h = some (rr, hh) → ∀ (H : Heap) (locs : List Loc) (ls : Array Slot), va_P G vwCl (wC q cI cJ cZ cB cT h) H → va_D A (wC q cI cJ cZ cB cT h) → va_S A s.heap H locs → lv_has ls 3 [] → W p l e (gRm 3) s m args below meth c H locs 0 0 (MQ below (va_Qi (fun x (_ : Unit) => x = rr) (gB G (fun (_ : Unit) => (wC q cI cJ cZ cB cT hh)) A) A) args s 0 0 A) (F0 m 44 ls []) := by
    intro h hF H locs ls hP hD hS hl
    unfold f_X8_aboutMany_44 at hF
    refine lv_bipush (v := (-2)) hx hb dX8_aboutMany_44 (by decide) ?_
    obtain ⟨rfl, rfl⟩ := ob_pair hF
    exact gw_iret () hx hb hr hlocks hP hD hS rfl dX8_aboutMany_46
  have hJ_24 : ∀ (h : HS) (x1 : Int32), f_X8_aboutMany_24 h x1 = some (rr, hh) → ∀ (H : Heap) (locs : List Loc) (ls : Array Slot), va_P G vwCl (wC q cI cJ cZ cB cT h) H → va_D A (wC q cI cJ cZ cB cT h) → va_S A s.heap H locs → lv_has ls 3 [(0, .ref (q 0)), (1, .int x1)] → W p l e (gRm 3) s m args below meth c H locs 0 0 (MQ below (va_Qi (fun x (_ : Unit) => x = rr) (gB G (fun (_ : Unit) => (wC q cI cJ cZ cB cT hh)) A) A) args s 0 0 A) (F0 m 24 ls []) := by
    intro h x1 hF H locs ls hP hD hS hl
    unfold f_X8_aboutMany_24 at hF
    refine lv_iload_n hx hb dX8_aboutMany_24 rfl (lv_at hl 1 rfl) ?_
    refine lv_bipush (v := 10) hx hb dX8_aboutMany_25 (by decide) ?_
    refine lv_icmp_lt (tgt := 44) hx hb dX8_aboutMany_27 (by decide) (fun c_4 => ?_) (fun c_4 => ?_)
    · have hF := ob_pos c_4 hF
      exact hJ_44 h hF H _ ls hP hD hS (lv_sub hl [] rfl)
    · have hF := ob_neg c_4 hF
      refine lv_iload_n hx hb dX8_aboutMany_30 rfl (lv_at hl 1 rfl) ?_
      refine lv_bipush (v := 10) hx hb dX8_aboutMany_31 (by decide) ?_
      refine lv_aload_n hx hb dX8_aboutMany_33 rfl (lv_at hl 0 rfl) ?_
      refine va_get (D := G) (ci := 8) (v := .ref (q 1)) (C := RX8) (T := TX8) (N := 8) hx hb hts iX8 hown hK hP 0 wC_at0 rfl 0 (by decide) (hts _ m_738) (fun _ h9 => h9) rfl dX8_aboutMany_34 ?_
      refine va_get (D := G) (ci := 4) (v := .int (eI h 1 4)) (C := RX4) (T := TX4) (N := 13) hx hb hts iX4 hown hK hP 1 wC_at1 rfl 4 (by decide) (hts _ m_895) (fun _ h9 => h9) rfl dX8_aboutMany_37 ?_
      refine lv_iadd hx hb dX8_aboutMany_40 ?_
      refine lv_icmp_lt (tgt := 47) hx hb dX8_aboutMany_41 (by decide) (fun c_5 => ?_) (fun c_5 => ?_)
      · have hF := ob_pos c_5 hF
        refine lv_iload_n hx hb dX8_aboutMany_47 rfl (lv_at hl 1 rfl) ?_
        refine lv_bipush (v := 10) hx hb dX8_aboutMany_48 (by decide) ?_
        refine lv_isub hx hb dX8_aboutMany_50 ?_
        refine lv_istore_n (lv' := [(2, .int (x1 - 10)), (0, .ref (q 0)), (1, .int x1)]) hx hb dX8_aboutMany_51 rfl hl (by decide) rfl (fun ls hl => ?_)
        refine lv_aload_n hx hb dX8_aboutMany_52 rfl (lv_at hl 1 rfl) ?_
        refine va_get (D := G) (ci := 8) (v := .ref (q 1)) (C := RX8) (T := TX8) (N := 8) hx hb hts iX8 hown hK hP 0 wC_at0 rfl 0 (by decide) (hts _ m_738) (fun _ h9 => h9) rfl dX8_aboutMany_53 ?_
        refine lv_iload_n hx hb dX8_aboutMany_56 rfl (lv_at hl 0 rfl) ?_
        refine lv_iconst (v := 0) hx hb dX8_aboutMany_57 (by decide) ?_
        obtain ⟨r_6, h_6, e_6, hF⟩ := ob2_some hF
        refine gx_calli (gx_runV (As := [.int (x1 - 10), .int 0]) (rest := []) ⟨hx, hb, hml, hown, hts⟩ (c_X4_ofMarket l G cI cJ cZ cB cT q h (x1 - 10) 0 r_6 h_6 e_6 H.size) (gG_V m_771 m_453 m_454 m_7 m_451) rfl e_X4_ofMarket ⟨Nat.le_of_ble_eq_true rfl, Nat.le_of_ble_eq_true rfl⟩ hK hP hD hE hS hA 1 wC_at1 rfl rfl hl.1 rfl (Nat.le_of_ble_eq_true rfl) dX8_aboutMany_58 ⟨Nat.le_refl _, Nat.le_refl _⟩) hP hD hS hA (fun x_6 u_6 H locs hw_6 hP hD hS => ?_)
        subst x_6
        refine lv_bipush (v := 100) hx hb dX8_aboutMany_61 (by decide) ?_
        refine lv_imul hx hb dX8_aboutMany_63 ?_
        refine lv_aload_n hx hb dX8_aboutMany_64 rfl (lv_at hl 1 rfl) ?_
        refine va_get (D := G) (ci := 8) (v := .ref (q 1)) (C := RX8) (T := TX8) (N := 8) hx hb hts iX8 hown hK hP 0 wC_at0 rfl 0 (by decide) (hts _ m_738) (fun _ h9 => h9) rfl dX8_aboutMany_65 ?_
        refine lv_iload_n hx hb dX8_aboutMany_68 rfl (lv_at hl 0 rfl) ?_
        refine lv_iconst (v := 1) hx hb dX8_aboutMany_69 (by decide) ?_
        obtain ⟨r_7, h_7, e_7, hF⟩ := ob2_some hF
        refine gx_calli (gx_runV (As := [.int (x1 - 10), .int 1]) (rest := [.int (r_6 * 100)]) ⟨hx, hb, hml, hown, hts⟩ (c_X4_ofMarket l G cI cJ cZ cB cT q h_6 (x1 - 10) 1 r_7 h_7 e_7 H.size) (gG_V m_771 m_453 m_454 m_7 m_451) rfl e_X4_ofMarket ⟨Nat.le_of_ble_eq_true rfl, Nat.le_of_ble_eq_true rfl⟩ hK hP hD hE hS hA 1 wC_at1 rfl rfl hl.1 rfl (Nat.le_of_ble_eq_true rfl) dX8_aboutMany_70 ⟨Nat.le_refl _, Nat.le_refl _⟩) hP hD hS hA (fun x_7 u_7 H locs hw_7 hP hD hS => ?_)
        subst x_7
        refine lv_bipush (v := 10) hx hb dX8_aboutMany_73 (by decide) ?_
        refine lv_imul hx hb dX8_aboutMany_75 ?_
        refine lv_iadd hx hb dX8_aboutMany_76 ?_
        refine lv_aload_n hx hb dX8_aboutMany_77 rfl (lv_at hl 1 rfl) ?_
        refine va_get (D := G) (ci := 8) (v := .ref (q 1)) (C := RX8) (T := TX8) (N := 8) hx hb hts iX8 hown hK hP 0 wC_at0 rfl 0 (by decide) (hts _ m_738) (fun _ h9 => h9) rfl dX8_aboutMany_78 ?_
        refine lv_iload_n hx hb dX8_aboutMany_81 rfl (lv_at hl 0 rfl) ?_
        refine lv_iconst (v := 2) hx hb dX8_aboutMany_82 (by decide) ?_
        obtain ⟨r_8, h_8, e_8, hF⟩ := ob2_some hF
        refine gx_calli (gx_runV (As := [.int (x1 - 10), .int 2]) (rest := [.int ((r_6 * 100) + (r_7 * 10))]) ⟨hx, hb, hml, hown, hts⟩ (c_X4_ofMarket l G cI cJ cZ cB cT q h_7 (x1 - 10) 2 r_8 h_8 e_8 H.size) (gG_V m_771 m_453 m_454 m_7 m_451) rfl e_X4_ofMarket ⟨Nat.le_of_ble_eq_true rfl, Nat.le_of_ble_eq_true rfl⟩ hK hP hD hE hS hA 1 wC_at1 rfl rfl hl.1 rfl (Nat.le_of_ble_eq_true rfl) dX8_aboutMany_83 ⟨Nat.le_refl _, Nat.le_refl _⟩) hP hD hS hA (fun x_8 u_8 H locs hw_8 hP hD hS => ?_)
        subst x_8
        refine lv_iadd hx hb dX8_aboutMany_86 ?_
        obtain ⟨rfl, rfl⟩ := ob_pair hF
        exact gw_iret () hx hb hr hlocks hP hD hS rfl dX8_aboutMany_87
      · have hF := ob_neg c_5 hF
        exact hJ_44 h hF H _ ls hP hD hS (lv_sub hl [] rfl)
  unfold f_X8_aboutMany at hF
  refine lv_iload_n hx hb dX8_aboutMany_0 rfl (lv_at hl 1 rfl) ?_
  refine lv_bipush (v := 20) hx hb dX8_aboutMany_1 (by decide) ?_
  refine lv_icmp_lt (tgt := 24) hx hb dX8_aboutMany_3 (by decide) (fun c_1 => ?_) (fun c_1 => ?_)
  · have hF := ob_pos c_1 hF
    exact hJ_24 h p1 hF H _ ls hP hD hS (lv_sub hl [0, 1] rfl)
  · have hF := ob_neg c_1 hF
    refine lv_iload_n hx hb dX8_aboutMany_6 rfl (lv_at hl 1 rfl) ?_
    refine lv_bipush (v := 26) hx hb dX8_aboutMany_7 (by decide) ?_
    refine lv_icmp_ge (tgt := 24) hx hb dX8_aboutMany_9 (by decide) (fun c_2 => ?_) (fun c_2 => ?_)
    · have hF := ob_pos c_2 hF
      exact hJ_24 h p1 hF H _ ls hP hD hS (lv_sub hl [0, 1] rfl)
    · have hF := ob_neg c_2 hF
      refine lv_aload_n hx hb dX8_aboutMany_12 rfl (lv_at hl 0 rfl) ?_
      refine va_get (D := G) (ci := 8) (v := .ref (q 1)) (C := RX8) (T := TX8) (N := 8) hx hb hts iX8 hown hK hP 0 wC_at0 rfl 0 (by decide) (hts _ m_738) (fun _ h9 => h9) rfl dX8_aboutMany_13 ?_
      refine lv_iload_n hx hb dX8_aboutMany_16 rfl (lv_at hl 1 rfl) ?_
      refine lv_bipush (v := 20) hx hb dX8_aboutMany_17 (by decide) ?_
      refine lv_isub hx hb dX8_aboutMany_19 ?_
      obtain ⟨r_3, h_3, e_3, hF⟩ := ob2_some hF
      refine gx_calli (gx_runV (As := [.int (p1 - 20)]) (rest := []) ⟨hx, hb, hml, hown, hts⟩ (c_X4_countFate l G cI cJ cZ cB cT q h (p1 - 20) r_3 h_3 e_3 H.size) (gG_V m_894 m_25 m_26 m_7 m_23) rfl e_X4_countFate ⟨Nat.le_of_ble_eq_true rfl, Nat.le_of_ble_eq_true rfl⟩ hK hP hD hE hS hA 1 wC_at1 rfl rfl hl.1 rfl (Nat.le_of_ble_eq_true rfl) dX8_aboutMany_20 ⟨Nat.le_refl _, Nat.le_refl _⟩) hP hD hS hA (fun x_3 u_3 H locs hw_3 hP hD hS => ?_)
      subst x_3
      obtain ⟨rfl, rfl⟩ := ob_pair hF
      exact gw_iret () hx hb hr hlocks hP hD hS rfl dX8_aboutMany_23
def f_X8_about (h : HS) (p1 : Int32) : Option (Int32 × HS) := (if p1 = 0 then (some ((eI h 1 4), h)) else (if p1 = 1 then (some ((eI h 1 3), h)) else (if p1 = 2 then (some ((eI h 1 5), h)) else (if p1 = 3 then (some ((eI h 1 6), h)) else (if p1 = 4 then (some ((eI h 1 7), h)) else (if p1 = 5 then (some ((eI h 1 8), h)) else (if p1 = 6 then (some ((eI h 1 9), h)) else (if p1 = 7 then (some ((eI h 1 10), h)) else (if p1 = 8 then (some ((eI h 1 12), h)) else (if p1 = 9 then (some ((eI h 3 1), h)) else (ob2 (f_X8_aboutMany h p1) (fun r_11 h_11 => (some (r_11, h_11))))))))))))))
theorem e_X8_aboutMany : yX8_aboutMany.cls = RX8 ∧ yX8_aboutMany.cls ≠ "java/lang/invoke/MethodHandle" ∧ yX8_aboutMany.cls ≠ "java/lang/invoke/VarHandle" ∧ (parseMethodDescriptor yX8_aboutMany.desc).map (fun d => d.parameters.length) = some 1 := by decide +kernel
set_option maxHeartbeats 4000000 in
set_option maxRecDepth 100000 in
theorem c_X8_about (l : Launch) (G : va_G) (cI cJ cZ cB cT : ClassId) (q : Nat → Nat) (h : HS) (p1 : Int32) (rr : Int32) (hh : HS) (hF : f_X8_about h p1 = some (rr, hh)) : gMi l yX8_about (gws yX8_about cX8_about 2 (some .int)) 4 G (gT cI cJ cZ cB cT) [.ref (q 0), .int p1] (wC q cI cJ cZ cB cT h) (fun x (_ : Unit) => x = rr) (fun (_ : Unit) => (wC q cI cJ cZ cB cT hh)) := by
  intro sz
  refine gM_start (y := yX8_about) (av := [.ref (q 0), .int p1]) (ws := (wC q cI cJ cZ cB cT h)) (Qf := fun A => va_Qi (fun x (_ : Unit) => x = rr) (gB G (fun (_ : Unit) => (wC q cI cJ cZ cB cT hh)) A) A) (cc := cX8_about) (maxL := 2) (ret := (some .int)) (by decide) (Nat.le_of_ble_eq_true rfl) ?_
  intro p e s m args below meth c A ls H hx hb hr hts hown hin hlocks hml hP hK hD hA hS hl hE
  have hl : lv_has ls 2 [(0, .ref (q 0)), (1, .int p1)] := hl
  unfold f_X8_about at hF
  refine lv_iload_n hx hb dX8_about_0 rfl (lv_at hl 1 rfl) ?_
  by_cases c_1 : p1 = 0
  · have hF := ob_pos c_1 hF
    refine lv_tableIn (tgt := 56) (off := 55) hx hb dX8_about_1 (by rw [c_1]; decide) (by rw [c_1]; decide) (by rw [c_1]; decide) (by decide) ?_
    refine lv_aload_n hx hb dX8_about_56 rfl (lv_at hl 0 rfl) ?_
    refine va_get (D := G) (ci := 8) (v := .ref (q 1)) (C := RX8) (T := TX8) (N := 8) hx hb hts iX8 hown hK hP 0 wC_at0 rfl 0 (by decide) (hts _ m_738) (fun _ h9 => h9) rfl dX8_about_57 ?_
    refine va_get (D := G) (ci := 4) (v := .int (eI h 1 4)) (C := RX4) (T := TX4) (N := 13) hx hb hts iX4 hown hK hP 1 wC_at1 rfl 4 (by decide) (hts _ m_895) (fun _ h9 => h9) rfl dX8_about_60 ?_
    obtain ⟨rfl, rfl⟩ := ob_pair hF
    exact gw_iret () hx hb hr hlocks hP hD hS rfl dX8_about_63
  have hF := ob_neg c_1 hF
  by_cases c_2 : p1 = 1
  · have hF := ob_pos c_2 hF
    refine lv_tableIn (tgt := 64) (off := 63) hx hb dX8_about_1 (by rw [c_2]; decide) (by rw [c_2]; decide) (by rw [c_2]; decide) (by decide) ?_
    refine lv_aload_n hx hb dX8_about_64 rfl (lv_at hl 0 rfl) ?_
    refine va_get (D := G) (ci := 8) (v := .ref (q 1)) (C := RX8) (T := TX8) (N := 8) hx hb hts iX8 hown hK hP 0 wC_at0 rfl 0 (by decide) (hts _ m_738) (fun _ h9 => h9) rfl dX8_about_65 ?_
    refine va_get (D := G) (ci := 4) (v := .int (eI h 1 3)) (C := RX4) (T := TX4) (N := 13) hx hb hts iX4 hown hK hP 1 wC_at1 rfl 3 (by decide) (hts _ m_778) (fun _ h9 => h9) rfl dX8_about_68 ?_
    obtain ⟨rfl, rfl⟩ := ob_pair hF
    exact gw_iret () hx hb hr hlocks hP hD hS rfl dX8_about_71
  have hF := ob_neg c_2 hF
  by_cases c_3 : p1 = 2
  · have hF := ob_pos c_3 hF
    refine lv_tableIn (tgt := 72) (off := 71) hx hb dX8_about_1 (by rw [c_3]; decide) (by rw [c_3]; decide) (by rw [c_3]; decide) (by decide) ?_
    refine lv_aload_n hx hb dX8_about_72 rfl (lv_at hl 0 rfl) ?_
    refine va_get (D := G) (ci := 8) (v := .ref (q 1)) (C := RX8) (T := TX8) (N := 8) hx hb hts iX8 hown hK hP 0 wC_at0 rfl 0 (by decide) (hts _ m_738) (fun _ h9 => h9) rfl dX8_about_73 ?_
    refine va_get (D := G) (ci := 4) (v := .int (eI h 1 5)) (C := RX4) (T := TX4) (N := 13) hx hb hts iX4 hown hK hP 1 wC_at1 rfl 5 (by decide) (hts _ m_747) (fun _ h9 => h9) rfl dX8_about_76 ?_
    obtain ⟨rfl, rfl⟩ := ob_pair hF
    exact gw_iret () hx hb hr hlocks hP hD hS rfl dX8_about_79
  have hF := ob_neg c_3 hF
  by_cases c_4 : p1 = 3
  · have hF := ob_pos c_4 hF
    refine lv_tableIn (tgt := 80) (off := 79) hx hb dX8_about_1 (by rw [c_4]; decide) (by rw [c_4]; decide) (by rw [c_4]; decide) (by decide) ?_
    refine lv_aload_n hx hb dX8_about_80 rfl (lv_at hl 0 rfl) ?_
    refine va_get (D := G) (ci := 8) (v := .ref (q 1)) (C := RX8) (T := TX8) (N := 8) hx hb hts iX8 hown hK hP 0 wC_at0 rfl 0 (by decide) (hts _ m_738) (fun _ h9 => h9) rfl dX8_about_81 ?_
    refine va_get (D := G) (ci := 4) (v := .int (eI h 1 6)) (C := RX4) (T := TX4) (N := 13) hx hb hts iX4 hown hK hP 1 wC_at1 rfl 6 (by decide) (hts _ m_748) (fun _ h9 => h9) rfl dX8_about_84 ?_
    obtain ⟨rfl, rfl⟩ := ob_pair hF
    exact gw_iret () hx hb hr hlocks hP hD hS rfl dX8_about_87
  have hF := ob_neg c_4 hF
  by_cases c_5 : p1 = 4
  · have hF := ob_pos c_5 hF
    refine lv_tableIn (tgt := 88) (off := 87) hx hb dX8_about_1 (by rw [c_5]; decide) (by rw [c_5]; decide) (by rw [c_5]; decide) (by decide) ?_
    refine lv_aload_n hx hb dX8_about_88 rfl (lv_at hl 0 rfl) ?_
    refine va_get (D := G) (ci := 8) (v := .ref (q 1)) (C := RX8) (T := TX8) (N := 8) hx hb hts iX8 hown hK hP 0 wC_at0 rfl 0 (by decide) (hts _ m_738) (fun _ h9 => h9) rfl dX8_about_89 ?_
    refine va_get (D := G) (ci := 4) (v := .int (eI h 1 7)) (C := RX4) (T := TX4) (N := 13) hx hb hts iX4 hown hK hP 1 wC_at1 rfl 7 (by decide) (hts _ m_770) (fun _ h9 => h9) rfl dX8_about_92 ?_
    obtain ⟨rfl, rfl⟩ := ob_pair hF
    exact gw_iret () hx hb hr hlocks hP hD hS rfl dX8_about_95
  have hF := ob_neg c_5 hF
  by_cases c_6 : p1 = 5
  · have hF := ob_pos c_6 hF
    refine lv_tableIn (tgt := 96) (off := 95) hx hb dX8_about_1 (by rw [c_6]; decide) (by rw [c_6]; decide) (by rw [c_6]; decide) (by decide) ?_
    refine lv_aload_n hx hb dX8_about_96 rfl (lv_at hl 0 rfl) ?_
    refine va_get (D := G) (ci := 8) (v := .ref (q 1)) (C := RX8) (T := TX8) (N := 8) hx hb hts iX8 hown hK hP 0 wC_at0 rfl 0 (by decide) (hts _ m_738) (fun _ h9 => h9) rfl dX8_about_97 ?_
    refine va_get (D := G) (ci := 4) (v := .int (eI h 1 8)) (C := RX4) (T := TX4) (N := 13) hx hb hts iX4 hown hK hP 1 wC_at1 rfl 8 (by decide) (hts _ m_749) (fun _ h9 => h9) rfl dX8_about_100 ?_
    obtain ⟨rfl, rfl⟩ := ob_pair hF
    exact gw_iret () hx hb hr hlocks hP hD hS rfl dX8_about_103
  have hF := ob_neg c_6 hF
  by_cases c_7 : p1 = 6
  · have hF := ob_pos c_7 hF
    refine lv_tableIn (tgt := 104) (off := 103) hx hb dX8_about_1 (by rw [c_7]; decide) (by rw [c_7]; decide) (by rw [c_7]; decide) (by decide) ?_
    refine lv_aload_n hx hb dX8_about_104 rfl (lv_at hl 0 rfl) ?_
    refine va_get (D := G) (ci := 8) (v := .ref (q 1)) (C := RX8) (T := TX8) (N := 8) hx hb hts iX8 hown hK hP 0 wC_at0 rfl 0 (by decide) (hts _ m_738) (fun _ h9 => h9) rfl dX8_about_105 ?_
    refine va_get (D := G) (ci := 4) (v := .int (eI h 1 9)) (C := RX4) (T := TX4) (N := 13) hx hb hts iX4 hown hK hP 1 wC_at1 rfl 9 (by decide) (hts _ m_798) (fun _ h9 => h9) rfl dX8_about_108 ?_
    obtain ⟨rfl, rfl⟩ := ob_pair hF
    exact gw_iret () hx hb hr hlocks hP hD hS rfl dX8_about_111
  have hF := ob_neg c_7 hF
  by_cases c_8 : p1 = 7
  · have hF := ob_pos c_8 hF
    refine lv_tableIn (tgt := 112) (off := 111) hx hb dX8_about_1 (by rw [c_8]; decide) (by rw [c_8]; decide) (by rw [c_8]; decide) (by decide) ?_
    refine lv_aload_n hx hb dX8_about_112 rfl (lv_at hl 0 rfl) ?_
    refine va_get (D := G) (ci := 8) (v := .ref (q 1)) (C := RX8) (T := TX8) (N := 8) hx hb hts iX8 hown hK hP 0 wC_at0 rfl 0 (by decide) (hts _ m_738) (fun _ h9 => h9) rfl dX8_about_113 ?_
    refine va_get (D := G) (ci := 4) (v := .int (eI h 1 10)) (C := RX4) (T := TX4) (N := 13) hx hb hts iX4 hown hK hP 1 wC_at1 rfl 10 (by decide) (hts _ m_812) (fun _ h9 => h9) rfl dX8_about_116 ?_
    obtain ⟨rfl, rfl⟩ := ob_pair hF
    exact gw_iret () hx hb hr hlocks hP hD hS rfl dX8_about_119
  have hF := ob_neg c_8 hF
  by_cases c_9 : p1 = 8
  · have hF := ob_pos c_9 hF
    refine lv_tableIn (tgt := 120) (off := 119) hx hb dX8_about_1 (by rw [c_9]; decide) (by rw [c_9]; decide) (by rw [c_9]; decide) (by decide) ?_
    refine lv_aload_n hx hb dX8_about_120 rfl (lv_at hl 0 rfl) ?_
    refine va_get (D := G) (ci := 8) (v := .ref (q 1)) (C := RX8) (T := TX8) (N := 8) hx hb hts iX8 hown hK hP 0 wC_at0 rfl 0 (by decide) (hts _ m_738) (fun _ h9 => h9) rfl dX8_about_121 ?_
    refine va_get (D := G) (ci := 4) (v := .int (eI h 1 12)) (C := RX4) (T := TX4) (N := 13) hx hb hts iX4 hown hK hP 1 wC_at1 rfl 12 (by decide) (hts _ m_838) (fun _ h9 => h9) rfl dX8_about_124 ?_
    obtain ⟨rfl, rfl⟩ := ob_pair hF
    exact gw_iret () hx hb hr hlocks hP hD hS rfl dX8_about_127
  have hF := ob_neg c_9 hF
  by_cases c_10 : p1 = 9
  · have hF := ob_pos c_10 hF
    refine lv_tableIn (tgt := 128) (off := 127) hx hb dX8_about_1 (by rw [c_10]; decide) (by rw [c_10]; decide) (by rw [c_10]; decide) (by decide) ?_
    refine lv_aload_n hx hb dX8_about_128 rfl (lv_at hl 0 rfl) ?_
    refine va_get (D := G) (ci := 8) (v := .ref (q 9)) (C := RX8) (T := TX8) (N := 8) hx hb hts iX8 hown hK hP 0 wC_at0 rfl 2 (by decide) (hts _ m_792) (fun _ h9 => h9) rfl dX8_about_129 ?_
    refine va_get (D := G) (ci := 5) (v := .int (eI h 3 1)) (C := RX5) (T := TX5) (N := 2) hx hb hts iX5 hown hK hP 9 wC_at9 rfl 1 (by decide) (hts _ m_793) (fun _ h9 => h9) rfl dX8_about_132 ?_
    obtain ⟨rfl, rfl⟩ := ob_pair hF
    exact gw_iret () hx hb hr hlocks hP hD hS rfl dX8_about_135
  have hF := ob_neg c_10 hF
  have hq : (p1).toInt < 0 ∨ 9 < (p1).toInt := by
    have e_c_1 := lv_neT (a := 0) c_1 (by decide)
    have e_c_2 := lv_neT (a := 1) c_2 (by decide)
    have e_c_3 := lv_neT (a := 2) c_3 (by decide)
    have e_c_4 := lv_neT (a := 3) c_4 (by decide)
    have e_c_5 := lv_neT (a := 4) c_5 (by decide)
    have e_c_6 := lv_neT (a := 5) c_6 (by decide)
    have e_c_7 := lv_neT (a := 6) c_7 (by decide)
    have e_c_8 := lv_neT (a := 7) c_8 (by decide)
    have e_c_9 := lv_neT (a := 8) c_9 (by decide)
    have e_c_10 := lv_neT (a := 9) c_10 (by decide)
    omega
  refine lv_tableOut (tgt := 136) hx hb dX8_about_1 hq (by decide) ?_
  refine lv_aload_n hx hb dX8_about_136 rfl (lv_at hl 0 rfl) ?_
  refine lv_iload_n hx hb dX8_about_137 rfl (lv_at hl 1 rfl) ?_
  obtain ⟨r_11, h_11, e_11, hF⟩ := ob2_some hF
  refine gx_calli (gx_runV (As := [.int p1]) (rest := []) ⟨hx, hb, hml, hown, hts⟩ (c_X8_aboutMany l G cI cJ cZ cB cT q h p1 r_11 h_11 e_11 H.size) (gG_V m_897 m_898 m_899 m_60 m_896) rfl e_X8_aboutMany ⟨Nat.le_of_ble_eq_true rfl, Nat.le_of_ble_eq_true rfl⟩ hK hP hD hE hS hA 0 wC_at0 rfl rfl hl.1 rfl (Nat.le_of_ble_eq_true rfl) dX8_about_138 ⟨Nat.le_refl _, Nat.le_refl _⟩) hP hD hS hA (fun x_11 u_11 H locs hw_11 hP hD hS => ?_)
  subst x_11
  obtain ⟨rfl, rfl⟩ := ob_pair hF
  exact gw_iret () hx hb hr hlocks hP hD hS rfl dX8_about_141
theorem m_900 : Cond.methodLink RX4 5 objectInit ∈ lwc := nv_1 (nthP_mem (i := 30) rfl) rfl
theorem m_901 : Cond.instanceMethod objectInit ∈ lwc := nv_1 (nthP_mem (i := 23) rfl) rfl
theorem m_902 : Cond.code objectInit ⟨#[0xb1]⟩ 1 none ∈ lwc := nv_1 (nthP_mem (i := 24) rfl) rfl
theorem m_903 : Cond.arrayClass .int ∈ lwc := nv_1 (nthP_mem (i := 84) rfl) rfl
theorem m_904 : Cond.methodLink RX5 3 objectInit ∈ lwc := nv_1 (nthP_mem (i := 90) rfl) rfl
theorem m_905 : Cond.methodLink RX7 3 objectInit ∈ lwc := nv_1 (nthP_mem (i := 105) rfl) rfl
theorem m_906 : Cond.methodLink RX2 3 objectInit ∈ lwc := nv_1 (nthP_mem (i := 127) rfl) rfl
theorem m_907 : Cond.methodLink RX0 3 objectInit ∈ lwc := nv_1 (nthP_mem (i := 192) rfl) rfl
theorem m_908 : Cond.arrayClass .long ∈ lwc := nv_1 (nthP_mem (i := 208) rfl) rfl
theorem m_909 : Cond.methodLink RX3 3 objectInit ∈ lwc := nv_1 (nthP_mem (i := 214) rfl) rfl
theorem m_910 : Cond.arrayClass .boolean ∈ lwc := nv_2 (nthP_mem (i := 24) rfl) rfl
theorem m_911 : Cond.methodLink RX6 3 objectInit ∈ lwc := nv_1 (nthP_mem (i := 152) rfl) rfl
theorem m_912 : Cond.methodLink RX1 3 objectInit ∈ lwc := nv_1 (nthP_mem (i := 145) rfl) rfl
theorem m_913 : Cond.classLink RX1 9 RX6 ∈ lwc := nv_1 (nthP_mem (i := 146) rfl) rfl
theorem m_914 : Cond.instantiable RX6 6 ∈ lwc := nv_1 (nthP_mem (i := 148) rfl) rfl
theorem m_915 : Cond.code yX6_init cX6_init 1 none ∈ lwc := nv_1 (nthP_mem (i := 151) rfl) rfl
theorem m_916 : Cond.instanceMethod yX6_init ∈ lwc := nv_1 (nthP_mem (i := 150) rfl) rfl
theorem m_917 : Cond.methodLink RX8 1 objectInit ∈ lwc := nv_1 (nthP_mem (i := 22) rfl) rfl
theorem m_918 : Cond.classLink RX8 7 RX4 ∈ lwc := nv_1 (nthP_mem (i := 25) rfl) rfl
theorem m_919 : Cond.instantiable RX4 13 ∈ lwc := nv_1 (nthP_mem (i := 26) rfl) rfl
theorem m_920 : Cond.code yX4_init cX4_init 1 none ∈ lwc := nv_1 (nthP_mem (i := 29) rfl) rfl
theorem m_921 : Cond.instanceMethod yX4_init ∈ lwc := nv_1 (nthP_mem (i := 28) rfl) rfl
theorem m_922 : Cond.classLink RX8 19 RX5 ∈ lwc := nv_1 (nthP_mem (i := 85) rfl) rfl
theorem m_923 : Cond.instantiable RX5 2 ∈ lwc := nv_1 (nthP_mem (i := 86) rfl) rfl
theorem m_924 : Cond.code yX5_init cX5_init 1 none ∈ lwc := nv_1 (nthP_mem (i := 89) rfl) rfl
theorem m_925 : Cond.instanceMethod yX5_init ∈ lwc := nv_1 (nthP_mem (i := 88) rfl) rfl
theorem m_926 : Cond.classLink RX8 26 RX7 ∈ lwc := nv_1 (nthP_mem (i := 100) rfl) rfl
theorem m_927 : Cond.instantiable RX7 5 ∈ lwc := nv_1 (nthP_mem (i := 101) rfl) rfl
theorem m_928 : Cond.code yX7_init cX7_init 1 none ∈ lwc := nv_1 (nthP_mem (i := 104) rfl) rfl
theorem m_929 : Cond.instanceMethod yX7_init ∈ lwc := nv_1 (nthP_mem (i := 103) rfl) rfl
theorem m_930 : Cond.classLink RX8 33 RX2 ∈ lwc := nv_1 (nthP_mem (i := 122) rfl) rfl
theorem m_931 : Cond.instantiable RX2 3 ∈ lwc := nv_1 (nthP_mem (i := 123) rfl) rfl
theorem m_932 : Cond.code yX2_init cX2_init 1 none ∈ lwc := nv_1 (nthP_mem (i := 126) rfl) rfl
theorem m_933 : Cond.instanceMethod yX2_init ∈ lwc := nv_1 (nthP_mem (i := 125) rfl) rfl
theorem m_934 : Cond.classLink RX8 40 RX1 ∈ lwc := nv_1 (nthP_mem (i := 140) rfl) rfl
theorem m_935 : Cond.instantiable RX1 4 ∈ lwc := nv_1 (nthP_mem (i := 141) rfl) rfl
theorem m_936 : Cond.code yX1_init cX1_init 2 none ∈ lwc := nv_1 (nthP_mem (i := 144) rfl) rfl
theorem m_937 : Cond.methodLink RX8 42 yX1_init ∈ lwc := nv_1 (nthP_mem (i := 142) rfl) rfl
theorem m_938 : Cond.instanceMethod yX1_init ∈ lwc := nv_1 (nthP_mem (i := 143) rfl) rfl
theorem m_939 : Cond.classLink RX8 47 RX0 ∈ lwc := nv_1 (nthP_mem (i := 187) rfl) rfl
theorem m_940 : Cond.instantiable RX0 4 ∈ lwc := nv_1 (nthP_mem (i := 188) rfl) rfl
theorem m_941 : Cond.code yX0_init cX0_init 1 none ∈ lwc := nv_1 (nthP_mem (i := 191) rfl) rfl
theorem m_942 : Cond.instanceMethod yX0_init ∈ lwc := nv_1 (nthP_mem (i := 190) rfl) rfl
theorem m_943 : Cond.classLink RX8 54 RX3 ∈ lwc := nv_1 (nthP_mem (i := 209) rfl) rfl
theorem m_944 : Cond.instantiable RX3 16 ∈ lwc := nv_1 (nthP_mem (i := 210) rfl) rfl
theorem m_945 : Cond.code yX3_init cX3_init 1 none ∈ lwc := nv_1 (nthP_mem (i := 213) rfl) rfl
theorem m_946 : Cond.instanceMethod yX3_init ∈ lwc := nv_1 (nthP_mem (i := 212) rfl) rfl
theorem m_947 : Cond.methodLink RX9 1 objectInit ∈ lwc := nv_4 (nthP_mem (i := 164) rfl) rfl
theorem m_948 : Cond.arrayClass .byte ∈ lwc := nv_3 (nthP_mem (i := 205) rfl) rfl
theorem m_949 : Cond.methodLink RL 13 yX8_market ∈ lwc := nv_2 (nthP_mem (i := 50) rfl) rfl
theorem m_950 : Cond.instanceMethod yX8_market ∈ lwc := nv_2 (nthP_mem (i := 51) rfl) rfl
theorem m_951 : Cond.selects RX8 yX8_market yX8_market ∈ lwc := nv_2 (nthP_mem (i := 52) rfl) rfl
theorem m_952 : Cond.code yX8_market cX8_market 4 (some .int) ∈ lwc := nv_2 (nthP_mem (i := 53) rfl) rfl
theorem m_953 : Cond.methodLink RL 17 yX9_market ∈ lwc := nv_5 (nthP_mem (i := 89) rfl) rfl
theorem m_954 : Cond.instanceMethod yX9_market ∈ lwc := nv_5 (nthP_mem (i := 90) rfl) rfl
theorem m_955 : Cond.selects RX9 yX9_market yX9_market ∈ lwc := nv_5 (nthP_mem (i := 91) rfl) rfl
theorem m_956 : Cond.code yX9_market cX9_market 5 (some .int) ∈ lwc := nv_5 (nthP_mem (i := 92) rfl) rfl
theorem m_957 : Cond.methodLink RL 18 yX8_goose ∈ lwc := nv_2 (nthP_mem (i := 61) rfl) rfl
theorem m_958 : Cond.instanceMethod yX8_goose ∈ lwc := nv_2 (nthP_mem (i := 62) rfl) rfl
theorem m_959 : Cond.selects RX8 yX8_goose yX8_goose ∈ lwc := nv_2 (nthP_mem (i := 63) rfl) rfl
theorem m_960 : Cond.code yX8_goose cX8_goose 3 (some .int) ∈ lwc := nv_2 (nthP_mem (i := 64) rfl) rfl
theorem m_961 : Cond.methodLink RL 22 yX9_goose ∈ lwc := nv_5 (nthP_mem (i := 96) rfl) rfl
theorem m_962 : Cond.instanceMethod yX9_goose ∈ lwc := nv_5 (nthP_mem (i := 97) rfl) rfl
theorem m_963 : Cond.selects RX9 yX9_goose yX9_goose ∈ lwc := nv_5 (nthP_mem (i := 98) rfl) rfl
theorem m_964 : Cond.code yX9_goose cX9_goose 4 (some .int) ∈ lwc := nv_5 (nthP_mem (i := 99) rfl) rfl
theorem m_965 : Cond.methodLink RL 23 yX8_store ∈ lwc := nv_2 (nthP_mem (i := 77) rfl) rfl
theorem m_966 : Cond.instanceMethod yX8_store ∈ lwc := nv_2 (nthP_mem (i := 78) rfl) rfl
theorem m_967 : Cond.selects RX8 yX8_store yX8_store ∈ lwc := nv_2 (nthP_mem (i := 79) rfl) rfl
theorem m_968 : Cond.code yX8_store cX8_store 3 (some .boolean) ∈ lwc := nv_2 (nthP_mem (i := 80) rfl) rfl
theorem m_969 : Cond.methodLink RL 27 yX9_store ∈ lwc := nv_5 (nthP_mem (i := 104) rfl) rfl
theorem m_970 : Cond.instanceMethod yX9_store ∈ lwc := nv_5 (nthP_mem (i := 105) rfl) rfl
theorem m_971 : Cond.selects RX9 yX9_store yX9_store ∈ lwc := nv_5 (nthP_mem (i := 106) rfl) rfl
theorem m_972 : Cond.code yX9_store cX9_store 3 (some .boolean) ∈ lwc := nv_5 (nthP_mem (i := 107) rfl) rfl
theorem m_973 : Cond.methodLink RL 28 yX8_seed ∈ lwc := nv_2 (nthP_mem (i := 81) rfl) rfl
theorem m_974 : Cond.instanceMethod yX8_seed ∈ lwc := nv_2 (nthP_mem (i := 82) rfl) rfl
theorem m_975 : Cond.selects RX8 yX8_seed yX8_seed ∈ lwc := nv_2 (nthP_mem (i := 83) rfl) rfl
theorem m_976 : Cond.code yX8_seed cX8_seed 2 (some .boolean) ∈ lwc := nv_2 (nthP_mem (i := 84) rfl) rfl
theorem m_977 : Cond.methodLink RL 32 yX9_seed ∈ lwc := nv_5 (nthP_mem (i := 108) rfl) rfl
theorem m_978 : Cond.instanceMethod yX9_seed ∈ lwc := nv_5 (nthP_mem (i := 109) rfl) rfl
theorem m_979 : Cond.selects RX9 yX9_seed yX9_seed ∈ lwc := nv_5 (nthP_mem (i := 110) rfl) rfl
theorem m_980 : Cond.code yX9_seed cX9_seed 2 (some .boolean) ∈ lwc := nv_5 (nthP_mem (i := 111) rfl) rfl
theorem m_981 : Cond.methodLink RL 33 yX8_fill ∈ lwc := nv_2 (nthP_mem (i := 85) rfl) rfl
theorem m_982 : Cond.methodLink RL 36 yX9_fill ∈ lwc := nv_5 (nthP_mem (i := 116) rfl) rfl
theorem m_983 : Cond.methodLink RL 37 yX8_send ∈ lwc := nv_2 (nthP_mem (i := 178) rfl) rfl
theorem m_984 : Cond.methodLink RL 40 yX9_send ∈ lwc := nv_5 (nthP_mem (i := 170) rfl) rfl
theorem m_985 : Cond.methodLink RL 41 yX8_fatten ∈ lwc := nv_2 (nthP_mem (i := 195) rfl) rfl
theorem m_986 : Cond.methodLink RL 45 yX9_fatten ∈ lwc := nv_5 (nthP_mem (i := 178) rfl) rfl
theorem m_987 : Cond.methodLink RL 46 yX8_pluck ∈ lwc := nv_2 (nthP_mem (i := 199) rfl) rfl
theorem m_988 : Cond.instanceMethod yX8_pluck ∈ lwc := nv_2 (nthP_mem (i := 200) rfl) rfl
theorem m_989 : Cond.selects RX8 yX8_pluck yX8_pluck ∈ lwc := nv_2 (nthP_mem (i := 201) rfl) rfl
theorem m_990 : Cond.code yX8_pluck cX8_pluck 2 (some .int) ∈ lwc := nv_2 (nthP_mem (i := 202) rfl) rfl
theorem m_991 : Cond.methodLink RL 49 yX9_pluck ∈ lwc := nv_5 (nthP_mem (i := 182) rfl) rfl
theorem m_992 : Cond.instanceMethod yX9_pluck ∈ lwc := nv_5 (nthP_mem (i := 183) rfl) rfl
theorem m_993 : Cond.selects RX9 yX9_pluck yX9_pluck ∈ lwc := nv_5 (nthP_mem (i := 184) rfl) rfl
theorem m_994 : Cond.code yX9_pluck cX9_pluck 2 (some .int) ∈ lwc := nv_5 (nthP_mem (i := 185) rfl) rfl
theorem m_995 : Cond.methodLink RL 50 yX8_name ∈ lwc := nv_2 (nthP_mem (i := 203) rfl) rfl
theorem m_996 : Cond.instanceMethod yX8_name ∈ lwc := nv_2 (nthP_mem (i := 204) rfl) rfl
theorem m_997 : Cond.selects RX8 yX8_name yX8_name ∈ lwc := nv_2 (nthP_mem (i := 205) rfl) rfl
theorem m_998 : Cond.code yX8_name cX8_name 2 (some .boolean) ∈ lwc := nv_2 (nthP_mem (i := 206) rfl) rfl
theorem m_999 : Cond.methodLink RL 53 yX9_name ∈ lwc := nv_5 (nthP_mem (i := 186) rfl) rfl
theorem m_1000 : Cond.instanceMethod yX9_name ∈ lwc := nv_5 (nthP_mem (i := 187) rfl) rfl
theorem m_1001 : Cond.selects RX9 yX9_name yX9_name ∈ lwc := nv_5 (nthP_mem (i := 188) rfl) rfl
theorem m_1002 : Cond.code yX9_name cX9_name 2 (some .boolean) ∈ lwc := nv_5 (nthP_mem (i := 189) rfl) rfl
theorem m_1003 : Cond.methodLink RL 54 yX8_pass ∈ lwc := nv_2 (nthP_mem (i := 207) rfl) rfl
theorem m_1004 : Cond.methodLink RL 57 yX9_pass ∈ lwc := nv_6 (nthP_mem (i := 98) rfl) rfl
theorem m_1005 : Cond.methodLink RL 58 yX8_feed ∈ lwc := nv_3 (nthP_mem (i := 11) rfl) rfl
theorem m_1006 : Cond.instanceMethod yX8_feed ∈ lwc := nv_3 (nthP_mem (i := 12) rfl) rfl
theorem m_1007 : Cond.selects RX8 yX8_feed yX8_feed ∈ lwc := nv_3 (nthP_mem (i := 13) rfl) rfl
theorem m_1008 : Cond.code yX8_feed cX8_feed 6 (some .int) ∈ lwc := nv_3 (nthP_mem (i := 14) rfl) rfl
theorem m_1009 : Cond.methodLink RL 62 yX9_feed ∈ lwc := nv_5 (nthP_mem (i := 190) rfl) rfl
theorem m_1010 : Cond.instanceMethod yX9_feed ∈ lwc := nv_5 (nthP_mem (i := 191) rfl) rfl
theorem m_1011 : Cond.selects RX9 yX9_feed yX9_feed ∈ lwc := nv_5 (nthP_mem (i := 192) rfl) rfl
theorem m_1012 : Cond.code yX9_feed cX9_feed 6 (some .int) ∈ lwc := nv_5 (nthP_mem (i := 193) rfl) rfl
theorem m_1013 : Cond.methodLink RL 63 yX8_end ∈ lwc := nv_3 (nthP_mem (i := 19) rfl) rfl
theorem m_1014 : Cond.instanceMethod yX8_end ∈ lwc := nv_3 (nthP_mem (i := 20) rfl) rfl
theorem m_1015 : Cond.selects RX8 yX8_end yX8_end ∈ lwc := nv_3 (nthP_mem (i := 21) rfl) rfl
theorem m_1016 : Cond.code yX8_end cX8_end 2 (some .int) ∈ lwc := nv_3 (nthP_mem (i := 22) rfl) rfl
theorem m_1017 : Cond.methodLink RL 66 yX9_end ∈ lwc := nv_5 (nthP_mem (i := 198) rfl) rfl
theorem m_1018 : Cond.instanceMethod yX9_end ∈ lwc := nv_5 (nthP_mem (i := 199) rfl) rfl
theorem m_1019 : Cond.selects RX9 yX9_end yX9_end ∈ lwc := nv_5 (nthP_mem (i := 200) rfl) rfl
theorem m_1020 : Cond.code yX9_end cX9_end 2 (some .int) ∈ lwc := nv_5 (nthP_mem (i := 201) rfl) rfl
theorem m_1021 : Cond.methodLink RL 67 yX8_text ∈ lwc := nv_3 (nthP_mem (i := 23) rfl) rfl
theorem m_1022 : Cond.instanceMethod yX8_text ∈ lwc := nv_3 (nthP_mem (i := 24) rfl) rfl
theorem m_1023 : Cond.selects RX8 yX8_text yX8_text ∈ lwc := nv_3 (nthP_mem (i := 25) rfl) rfl
theorem m_1024 : Cond.code yX8_text cX8_text 2 (some .int) ∈ lwc := nv_3 (nthP_mem (i := 26) rfl) rfl
theorem m_1025 : Cond.methodLink RL 71 yX9_text ∈ lwc := nv_5 (nthP_mem (i := 202) rfl) rfl
theorem m_1026 : Cond.instanceMethod yX9_text ∈ lwc := nv_5 (nthP_mem (i := 203) rfl) rfl
theorem m_1027 : Cond.selects RX9 yX9_text yX9_text ∈ lwc := nv_5 (nthP_mem (i := 204) rfl) rfl
theorem m_1028 : Cond.code yX9_text cX9_text 3 (some .int) ∈ lwc := nv_5 (nthP_mem (i := 205) rfl) rfl
theorem m_1029 : Cond.methodLink RL 72 yX8_fault ∈ lwc := nv_3 (nthP_mem (i := 206) rfl) rfl
theorem m_1030 : Cond.instanceMethod yX8_fault ∈ lwc := nv_3 (nthP_mem (i := 207) rfl) rfl
theorem m_1031 : Cond.selects RX8 yX8_fault yX8_fault ∈ lwc := nv_3 (nthP_mem (i := 208) rfl) rfl
theorem m_1032 : Cond.code yX8_fault cX8_fault 2 (some .int) ∈ lwc := nv_3 (nthP_mem (i := 209) rfl) rfl
theorem m_1033 : Cond.methodLink RL 75 yX9_fault ∈ lwc := nv_6 (nthP_mem (i := 86) rfl) rfl
theorem m_1034 : Cond.instanceMethod yX9_fault ∈ lwc := nv_6 (nthP_mem (i := 87) rfl) rfl
theorem m_1035 : Cond.selects RX9 yX9_fault yX9_fault ∈ lwc := nv_6 (nthP_mem (i := 88) rfl) rfl
theorem m_1036 : Cond.code yX9_fault cX9_fault 2 (some .int) ∈ lwc := nv_6 (nthP_mem (i := 89) rfl) rfl
theorem m_1037 : Cond.methodLink RL 76 yX8_by ∈ lwc := nv_3 (nthP_mem (i := 210) rfl) rfl
theorem m_1038 : Cond.instanceMethod yX8_by ∈ lwc := nv_3 (nthP_mem (i := 211) rfl) rfl
theorem m_1039 : Cond.selects RX8 yX8_by yX8_by ∈ lwc := nv_3 (nthP_mem (i := 212) rfl) rfl
theorem m_1040 : Cond.code yX8_by cX8_by 2 (some .boolean) ∈ lwc := nv_3 (nthP_mem (i := 213) rfl) rfl
theorem m_1041 : Cond.methodLink RL 79 yX9_by ∈ lwc := nv_6 (nthP_mem (i := 90) rfl) rfl
theorem m_1042 : Cond.instanceMethod yX9_by ∈ lwc := nv_6 (nthP_mem (i := 91) rfl) rfl
theorem m_1043 : Cond.selects RX9 yX9_by yX9_by ∈ lwc := nv_6 (nthP_mem (i := 92) rfl) rfl
theorem m_1044 : Cond.code yX9_by cX9_by 2 (some .boolean) ∈ lwc := nv_6 (nthP_mem (i := 93) rfl) rfl
theorem m_1045 : Cond.methodLink RL 80 yX8_played ∈ lwc := nv_3 (nthP_mem (i := 214) rfl) rfl
theorem m_1046 : Cond.instanceMethod yX8_played ∈ lwc := nv_3 (nthP_mem (i := 215) rfl) rfl
theorem m_1047 : Cond.selects RX8 yX8_played yX8_played ∈ lwc := nv_3 (nthP_mem (i := 216) rfl) rfl
theorem m_1048 : Cond.code yX8_played cX8_played 7 (some .int) ∈ lwc := nv_3 (nthP_mem (i := 217) rfl) rfl
theorem m_1049 : Cond.methodLink RL 83 yX9_played ∈ lwc := nv_6 (nthP_mem (i := 126) rfl) rfl
theorem m_1050 : Cond.instanceMethod yX9_played ∈ lwc := nv_6 (nthP_mem (i := 127) rfl) rfl
theorem m_1051 : Cond.selects RX9 yX9_played yX9_played ∈ lwc := nv_6 (nthP_mem (i := 128) rfl) rfl
theorem m_1052 : Cond.code yX9_played cX9_played 5 (some .int) ∈ lwc := nv_6 (nthP_mem (i := 129) rfl) rfl
theorem m_1053 : Cond.methodLink RL 84 yX8_undo ∈ lwc := nv_3 (nthP_mem (i := 226) rfl) rfl
theorem m_1054 : Cond.instanceMethod yX8_undo ∈ lwc := nv_3 (nthP_mem (i := 227) rfl) rfl
theorem m_1055 : Cond.selects RX8 yX8_undo yX8_undo ∈ lwc := nv_3 (nthP_mem (i := 228) rfl) rfl
theorem m_1056 : Cond.code yX8_undo cX8_undo 1 (some .int) ∈ lwc := nv_3 (nthP_mem (i := 229) rfl) rfl
theorem m_1057 : Cond.methodLink RL 87 yX9_undo ∈ lwc := nv_5 (nthP_mem (i := 112) rfl) rfl
theorem m_1058 : Cond.instanceMethod yX9_undo ∈ lwc := nv_5 (nthP_mem (i := 113) rfl) rfl
theorem m_1059 : Cond.selects RX9 yX9_undo yX9_undo ∈ lwc := nv_5 (nthP_mem (i := 114) rfl) rfl
theorem m_1060 : Cond.code yX9_undo cX9_undo 2 (some .int) ∈ lwc := nv_5 (nthP_mem (i := 115) rfl) rfl
theorem m_1061 : Cond.methodLink RL 88 yX8_of ∈ lwc := nv_3 (nthP_mem (i := 236) rfl) rfl
theorem m_1062 : Cond.instanceMethod yX8_of ∈ lwc := nv_3 (nthP_mem (i := 237) rfl) rfl
theorem m_1063 : Cond.selects RX8 yX8_of yX8_of ∈ lwc := nv_3 (nthP_mem (i := 238) rfl) rfl
theorem m_1064 : Cond.code yX8_of cX8_of 3 (some .int) ∈ lwc := nv_3 (nthP_mem (i := 239) rfl) rfl
theorem m_1065 : Cond.methodLink RL 91 yX9_of ∈ lwc := nv_6 (nthP_mem (i := 134) rfl) rfl
theorem m_1066 : Cond.instanceMethod yX9_of ∈ lwc := nv_6 (nthP_mem (i := 135) rfl) rfl
theorem m_1067 : Cond.selects RX9 yX9_of yX9_of ∈ lwc := nv_6 (nthP_mem (i := 136) rfl) rfl
theorem m_1068 : Cond.code yX9_of cX9_of 3 (some .int) ∈ lwc := nv_6 (nthP_mem (i := 137) rfl) rfl
theorem m_1069 : Cond.methodLink RL 92 yX8_ink ∈ lwc := nv_4 (nthP_mem (i := 5) rfl) rfl
theorem m_1070 : Cond.instanceMethod yX8_ink ∈ lwc := nv_4 (nthP_mem (i := 6) rfl) rfl
theorem m_1071 : Cond.selects RX8 yX8_ink yX8_ink ∈ lwc := nv_4 (nthP_mem (i := 7) rfl) rfl
theorem m_1072 : Cond.code yX8_ink cX8_ink 4 (some .int) ∈ lwc := nv_4 (nthP_mem (i := 8) rfl) rfl
theorem m_1073 : Cond.methodLink RL 95 yX9_ink ∈ lwc := nv_6 (nthP_mem (i := 94) rfl) rfl
theorem m_1074 : Cond.instanceMethod yX9_ink ∈ lwc := nv_6 (nthP_mem (i := 95) rfl) rfl
theorem m_1075 : Cond.selects RX9 yX9_ink yX9_ink ∈ lwc := nv_6 (nthP_mem (i := 96) rfl) rfl
theorem m_1076 : Cond.code yX9_ink cX9_ink 4 (some .int) ∈ lwc := nv_6 (nthP_mem (i := 97) rfl) rfl
theorem m_1077 : Cond.methodLink RL 96 yX8_known ∈ lwc := nv_4 (nthP_mem (i := 9) rfl) rfl
theorem m_1078 : Cond.instanceMethod yX8_known ∈ lwc := nv_4 (nthP_mem (i := 10) rfl) rfl
theorem m_1079 : Cond.selects RX8 yX8_known yX8_known ∈ lwc := nv_4 (nthP_mem (i := 11) rfl) rfl
theorem m_1080 : Cond.code yX8_known cX8_known 5 (some .int) ∈ lwc := nv_4 (nthP_mem (i := 12) rfl) rfl
theorem m_1081 : Cond.methodLink RL 99 yX9_known ∈ lwc := nv_6 (nthP_mem (i := 146) rfl) rfl
theorem m_1082 : Cond.instanceMethod yX9_known ∈ lwc := nv_6 (nthP_mem (i := 147) rfl) rfl
theorem m_1083 : Cond.selects RX9 yX9_known yX9_known ∈ lwc := nv_6 (nthP_mem (i := 148) rfl) rfl
theorem m_1084 : Cond.code yX9_known cX9_known 3 (some .int) ∈ lwc := nv_6 (nthP_mem (i := 149) rfl) rfl
theorem m_1085 : Cond.methodLink RL 100 yX8_led ∈ lwc := nv_4 (nthP_mem (i := 24) rfl) rfl
theorem m_1086 : Cond.methodLink RL 104 yX9_led ∈ lwc := nv_6 (nthP_mem (i := 164) rfl) rfl
theorem m_1087 : Cond.methodLink RL 105 yX8_answer ∈ lwc := nv_4 (nthP_mem (i := 28) rfl) rfl
theorem m_1088 : Cond.instanceMethod yX8_answer ∈ lwc := nv_4 (nthP_mem (i := 29) rfl) rfl
theorem m_1089 : Cond.selects RX8 yX8_answer yX8_answer ∈ lwc := nv_4 (nthP_mem (i := 30) rfl) rfl
theorem m_1090 : Cond.code yX8_answer cX8_answer 3 (some .int) ∈ lwc := nv_4 (nthP_mem (i := 31) rfl) rfl
theorem m_1091 : Cond.methodLink RL 108 yX9_answer ∈ lwc := nv_6 (nthP_mem (i := 168) rfl) rfl
theorem m_1092 : Cond.instanceMethod yX9_answer ∈ lwc := nv_6 (nthP_mem (i := 169) rfl) rfl
theorem m_1093 : Cond.selects RX9 yX9_answer yX9_answer ∈ lwc := nv_6 (nthP_mem (i := 170) rfl) rfl
theorem m_1094 : Cond.code yX9_answer cX9_answer 3 (some .int) ∈ lwc := nv_6 (nthP_mem (i := 171) rfl) rfl
theorem m_1095 : Cond.methodLink RL 109 yX8_plucks ∈ lwc := nv_4 (nthP_mem (i := 33) rfl) rfl
theorem m_1096 : Cond.instanceMethod yX8_plucks ∈ lwc := nv_4 (nthP_mem (i := 34) rfl) rfl
theorem m_1097 : Cond.selects RX8 yX8_plucks yX8_plucks ∈ lwc := nv_4 (nthP_mem (i := 35) rfl) rfl
theorem m_1098 : Cond.code yX8_plucks cX8_plucks 4 (some .int) ∈ lwc := nv_4 (nthP_mem (i := 36) rfl) rfl
theorem m_1099 : Cond.methodLink RL 112 yX9_plucks ∈ lwc := nv_6 (nthP_mem (i := 173) rfl) rfl
theorem m_1100 : Cond.instanceMethod yX9_plucks ∈ lwc := nv_6 (nthP_mem (i := 174) rfl) rfl
theorem m_1101 : Cond.selects RX9 yX9_plucks yX9_plucks ∈ lwc := nv_6 (nthP_mem (i := 175) rfl) rfl
theorem m_1102 : Cond.code yX9_plucks cX9_plucks 3 (some .int) ∈ lwc := nv_6 (nthP_mem (i := 176) rfl) rfl
theorem m_1103 : Cond.methodLink RL 113 yX8_odds ∈ lwc := nv_4 (nthP_mem (i := 41) rfl) rfl
theorem m_1104 : Cond.instanceMethod yX8_odds ∈ lwc := nv_4 (nthP_mem (i := 42) rfl) rfl
theorem m_1105 : Cond.selects RX8 yX8_odds yX8_odds ∈ lwc := nv_4 (nthP_mem (i := 43) rfl) rfl
theorem m_1106 : Cond.code yX8_odds cX8_odds 8 (some .long) ∈ lwc := nv_4 (nthP_mem (i := 44) rfl) rfl
theorem m_1107 : Cond.methodLink RL 117 yX9_odds ∈ lwc := nv_6 (nthP_mem (i := 177) rfl) rfl
theorem m_1108 : Cond.instanceMethod yX9_odds ∈ lwc := nv_6 (nthP_mem (i := 178) rfl) rfl
theorem m_1109 : Cond.selects RX9 yX9_odds yX9_odds ∈ lwc := nv_6 (nthP_mem (i := 179) rfl) rfl
theorem m_1110 : Cond.code yX9_odds cX9_odds 15 (some .long) ∈ lwc := nv_6 (nthP_mem (i := 180) rfl) rfl
theorem m_1111 : Cond.methodLink RL 118 yX8_plan ∈ lwc := nv_4 (nthP_mem (i := 68) rfl) rfl
theorem m_1112 : Cond.instanceMethod yX8_plan ∈ lwc := nv_4 (nthP_mem (i := 69) rfl) rfl
theorem m_1113 : Cond.selects RX8 yX8_plan yX8_plan ∈ lwc := nv_4 (nthP_mem (i := 70) rfl) rfl
theorem m_1114 : Cond.code yX8_plan cX8_plan 5 (some .int) ∈ lwc := nv_4 (nthP_mem (i := 71) rfl) rfl
theorem m_1115 : Cond.methodLink RL 121 yX9_plan ∈ lwc := nv_6 (nthP_mem (i := 196) rfl) rfl
theorem m_1116 : Cond.instanceMethod yX9_plan ∈ lwc := nv_6 (nthP_mem (i := 197) rfl) rfl
theorem m_1117 : Cond.selects RX9 yX9_plan yX9_plan ∈ lwc := nv_6 (nthP_mem (i := 198) rfl) rfl
theorem m_1118 : Cond.code yX9_plan cX9_plan 7 (some .int) ∈ lwc := nv_6 (nthP_mem (i := 199) rfl) rfl
theorem m_1119 : Cond.methodLink RL 122 yX8_holds ∈ lwc := nv_4 (nthP_mem (i := 132) rfl) rfl
theorem m_1120 : Cond.instanceMethod yX8_holds ∈ lwc := nv_4 (nthP_mem (i := 133) rfl) rfl
theorem m_1121 : Cond.selects RX8 yX8_holds yX8_holds ∈ lwc := nv_4 (nthP_mem (i := 134) rfl) rfl
theorem m_1122 : Cond.code yX8_holds cX8_holds 2 (some .int) ∈ lwc := nv_4 (nthP_mem (i := 135) rfl) rfl
theorem m_1123 : Cond.methodLink RL 125 yX9_holds ∈ lwc := nv_6 (nthP_mem (i := 216) rfl) rfl
theorem m_1124 : Cond.instanceMethod yX9_holds ∈ lwc := nv_6 (nthP_mem (i := 217) rfl) rfl
theorem m_1125 : Cond.selects RX9 yX9_holds yX9_holds ∈ lwc := nv_6 (nthP_mem (i := 218) rfl) rfl
theorem m_1126 : Cond.code yX9_holds cX9_holds 3 (some .int) ∈ lwc := nv_6 (nthP_mem (i := 219) rfl) rfl
theorem m_1127 : Cond.methodLink RL 126 yX8_image ∈ lwc := nv_4 (nthP_mem (i := 138) rfl) rfl
theorem m_1128 : Cond.instanceMethod yX8_image ∈ lwc := nv_4 (nthP_mem (i := 139) rfl) rfl
theorem m_1129 : Cond.selects RX8 yX8_image yX8_image ∈ lwc := nv_4 (nthP_mem (i := 140) rfl) rfl
theorem m_1130 : Cond.code yX8_image cX8_image 1 (some .int) ∈ lwc := nv_4 (nthP_mem (i := 141) rfl) rfl
theorem m_1131 : Cond.methodLink RL 129 yX9_image ∈ lwc := nv_6 (nthP_mem (i := 220) rfl) rfl
theorem m_1132 : Cond.instanceMethod yX9_image ∈ lwc := nv_6 (nthP_mem (i := 221) rfl) rfl
theorem m_1133 : Cond.selects RX9 yX9_image yX9_image ∈ lwc := nv_6 (nthP_mem (i := 222) rfl) rfl
theorem m_1134 : Cond.code yX9_image cX9_image 1 (some .int) ∈ lwc := nv_6 (nthP_mem (i := 223) rfl) rfl
theorem m_1135 : Cond.methodLink RL 130 yX8_back ∈ lwc := nv_4 (nthP_mem (i := 146) rfl) rfl
theorem m_1136 : Cond.instanceMethod yX8_back ∈ lwc := nv_4 (nthP_mem (i := 147) rfl) rfl
theorem m_1137 : Cond.selects RX8 yX8_back yX8_back ∈ lwc := nv_4 (nthP_mem (i := 148) rfl) rfl
theorem m_1138 : Cond.code yX8_back cX8_back 1 (some .int) ∈ lwc := nv_4 (nthP_mem (i := 149) rfl) rfl
theorem m_1139 : Cond.methodLink RL 133 yX9_back ∈ lwc := nv_6 (nthP_mem (i := 224) rfl) rfl
theorem m_1140 : Cond.instanceMethod yX9_back ∈ lwc := nv_6 (nthP_mem (i := 225) rfl) rfl
theorem m_1141 : Cond.selects RX9 yX9_back yX9_back ∈ lwc := nv_6 (nthP_mem (i := 226) rfl) rfl
theorem m_1142 : Cond.code yX9_back cX9_back 1 (some .int) ∈ lwc := nv_6 (nthP_mem (i := 227) rfl) rfl
theorem m_1143 : Cond.methodLink RL 134 yX8_about ∈ lwc := nv_4 (nthP_mem (i := 150) rfl) rfl
theorem m_1144 : Cond.instanceMethod yX8_about ∈ lwc := nv_4 (nthP_mem (i := 151) rfl) rfl
theorem m_1145 : Cond.selects RX8 yX8_about yX8_about ∈ lwc := nv_4 (nthP_mem (i := 152) rfl) rfl
theorem m_1146 : Cond.code yX8_about cX8_about 2 (some .int) ∈ lwc := nv_4 (nthP_mem (i := 153) rfl) rfl
theorem m_1147 : Cond.methodLink RL 137 yX9_about ∈ lwc := nv_6 (nthP_mem (i := 228) rfl) rfl
theorem m_1148 : Cond.instanceMethod yX9_about ∈ lwc := nv_6 (nthP_mem (i := 229) rfl) rfl
theorem m_1149 : Cond.selects RX9 yX9_about yX9_about ∈ lwc := nv_6 (nthP_mem (i := 230) rfl) rfl
theorem m_1150 : Cond.code yX9_about cX9_about 3 (some .int) ∈ lwc := nv_6 (nthP_mem (i := 231) rfl) rfl
/-! two worlds side by side: a call over the first leaves the second as it was -/
section G2
variable {p : Program} {l : Launch} {e : Env} {R : Room} {s : State} {m : MethodId} {args : Array Value} {below : List Frame} {meth : Method} {c : Code} {H : Heap} {locs : List Loc} {cells slots : Nat} {Q : State → Prop} {pc : Nat} {ls : Array Slot} {rest st0 : List Value} {G : va_G} {wa wb : va_W} {A : Nat → Prop} {H0 : Heap}
abbrev gApart (wa wb : va_W) : Prop := ∀ (i j : Nat) (p q : Nat × va_E), wa[i]? = some p → wb[j]? = some q → p.1 ≠ q.1
theorem gApart.swap {wa wb : va_W} (h : gApart wa wb) : gApart wb wa := fun i j p q hi hj e => h j i q p hj hi e.symm
theorem gx2_calli {S : Type} {post : Int32 → S → Prop} {w1 : S → va_W} {a : Array Value} (run : va_Run p l e R s m args below meth c H locs cells slots 0 0 (F0 m pc ls st0) rest (va_Qi post (gB G w1 (va_A wa H.size)) (va_A wa H.size) a) (va_A wa H.size)) (hPa : va_P G vwCl wa H) (hDa : va_D A wa) (hPb : va_P G vwCl wb H) (hab : gApart wa wb) (hS : va_S A H0 H locs) (hA : ∀ q, H0.size ≤ q → A q)
    (kk : ∀ (r : Int32) (u : S) (H1 : Heap) (locs1 : List Loc), post r u → va_P G vwCl (w1 u) H1 → va_D A (w1 u) → va_P G vwCl wb H1 → gApart (w1 u) wb → va_S A H0 H1 locs1 → W p l e R s m args below meth c H1 locs1 cells slots Q (F0 m (pc + 3) ls (.int r :: rest))) : W p l e R s m args below meth c H locs cells slots Q (F0 m pc ls st0) := by
  have hF := gx_free hDa hS hA
  refine va_calli run hS (fun q _ h => hF q h) hF (fun r u t H1 locs1 ht hvm hw hB hz hk hS1 => ?_)
  obtain ⟨hP1, hD1⟩ := hB
  rw [ht] at hP1
  have hne : ∀ (k : Nat) (x : Nat × va_E), wb[k]? = some x → ¬ va_A wa H.size x.1 := fun k x hx h => h.elim (fun ⟨i, e, hi⟩ => hab i k _ _ hi hx rfl) (fun h => absurd ((hPb k x hx).lt) (Nat.not_lt.mpr h))
  exact kk r u H1 locs1 hw hP1 (hD1.weaken (fun _ _ _ h => hF _ h)) (hPb.kept (fun k x hx => hk x.1 ((hPb k x hx).lt) (hne k x hx))) (fun i j p q hi hj e => hne j q hj (e ▸ hD1.2 i p hi)) hS1
theorem gx2_calll {S : Type} {post : Int64 → S → Prop} {w1 : S → va_W} {a : Array Value} (run : va_Run p l e R s m args below meth c H locs cells slots 0 0 (F0 m pc ls st0) rest (va_Ql post (gB G w1 (va_A wa H.size)) (va_A wa H.size) a) (va_A wa H.size)) (hPa : va_P G vwCl wa H) (hDa : va_D A wa) (hPb : va_P G vwCl wb H) (hab : gApart wa wb) (hS : va_S A H0 H locs) (hA : ∀ q, H0.size ≤ q → A q)
    (kk : ∀ (r : Int64) (u : S) (H1 : Heap) (locs1 : List Loc), post r u → va_P G vwCl (w1 u) H1 → va_D A (w1 u) → va_P G vwCl wb H1 → gApart (w1 u) wb → va_S A H0 H1 locs1 → W p l e R s m args below meth c H1 locs1 cells slots Q (F0 m (pc + 3) ls (.long r :: rest))) : W p l e R s m args below meth c H locs cells slots Q (F0 m pc ls st0) := by
  have hF := gx_free hDa hS hA
  refine va_calll run hS (fun q _ h => hF q h) hF (fun r u t H1 locs1 ht hvm hw hB hz hk hS1 => ?_)
  obtain ⟨hP1, hD1⟩ := hB
  rw [ht] at hP1
  have hne : ∀ (k : Nat) (x : Nat × va_E), wb[k]? = some x → ¬ va_A wa H.size x.1 := fun k x hx h => h.elim (fun ⟨i, e, hi⟩ => hab i k _ _ hi hx rfl) (fun h => absurd ((hPb k x hx).lt) (Nat.not_lt.mpr h))
  exact kk r u H1 locs1 hw hP1 (hD1.weaken (fun _ _ _ h => hF _ h)) (hPb.kept (fun k x hx => hk x.1 ((hPb k x hx).lt) (hne k x hx))) (fun i j p q hi hj e => hne j q hj (e ▸ hD1.2 i p hi)) hS1
theorem gx2_callv {S : Type} {post : S → Prop} {w1 : S → va_W} {a : Array Value} (run : va_Run p l e R s m args below meth c H locs cells slots 0 0 (F0 m pc ls st0) rest (va_Qv post (gB G w1 (va_A wa H.size)) (va_A wa H.size) a) (va_A wa H.size)) (hPa : va_P G vwCl wa H) (hDa : va_D A wa) (hPb : va_P G vwCl wb H) (hab : gApart wa wb) (hS : va_S A H0 H locs) (hA : ∀ q, H0.size ≤ q → A q)
    (kk : ∀ (u : S) (H1 : Heap) (locs1 : List Loc), post u → va_P G vwCl (w1 u) H1 → va_D A (w1 u) → va_P G vwCl wb H1 → gApart (w1 u) wb → va_S A H0 H1 locs1 → W p l e R s m args below meth c H1 locs1 cells slots Q (F0 m (pc + 3) ls (rest))) : W p l e R s m args below meth c H locs cells slots Q (F0 m pc ls st0) := by
  have hF := gx_free hDa hS hA
  refine va_callv run hS (fun q _ h => hF q h) hF (fun u t H1 locs1 ht hvm hw hB hz hk hS1 => ?_)
  obtain ⟨hP1, hD1⟩ := hB
  rw [ht] at hP1
  have hne : ∀ (k : Nat) (x : Nat × va_E), wb[k]? = some x → ¬ va_A wa H.size x.1 := fun k x hx h => h.elim (fun ⟨i, e, hi⟩ => hab i k _ _ hi hx rfl) (fun h => absurd ((hPb k x hx).lt) (Nat.not_lt.mpr h))
  exact kk u H1 locs1 hw hP1 (hD1.weaken (fun _ _ _ h => hF _ h)) (hPb.kept (fun k x hx => hk x.1 ((hPb k x hx).lt) (hne k x hx))) (fun i j p q hi hj e => hne j q hj (e ▸ hD1.2 i p hi)) hS1
end G2
