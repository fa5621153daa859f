theorem e_J3_checkIndex_8e157 : yJ3_checkIndex_8e157.cls ≠ "java/lang/invoke/MethodHandle" ∧ yJ3_checkIndex_8e157.cls ≠ "java/lang/invoke/VarHandle" ∧ (parseMethodDescriptor yJ3_checkIndex_8e157.desc).map (fun d => d.parameters.length) = some 3 := by decide +kernel
theorem e_J0_checkIndex_df160 : yJ0_checkIndex_df160.cls ≠ "java/lang/invoke/MethodHandle" ∧ yJ0_checkIndex_df160.cls ≠ "java/lang/invoke/VarHandle" ∧ (parseMethodDescriptor yJ0_checkIndex_df160.desc).map (fun d => d.parameters.length) = some 2 := by decide +kernel
theorem e_J1_charAt_3b067 : yJ1_charAt_3b067.cls ≠ "java/lang/invoke/MethodHandle" ∧ yJ1_charAt_3b067.cls ≠ "java/lang/invoke/VarHandle" ∧ (parseMethodDescriptor yJ1_charAt_3b067.desc).map (fun d => d.parameters.length) = some 2 := by decide +kernel
theorem e_J0_coder_7d493 : yJ0_coder_7d493.cls = RJ0 ∧ yJ0_coder_7d493.cls ≠ "java/lang/invoke/MethodHandle" ∧ yJ0_coder_7d493.cls ≠ "java/lang/invoke/VarHandle" ∧ (parseMethodDescriptor yJ0_coder_7d493.desc).map (fun d => d.parameters.length) = some 0 := by decide +kernel
theorem e_J0_isLatin1_aae02 : yJ0_isLatin1_aae02.cls = RJ0 ∧ yJ0_isLatin1_aae02.cls ≠ "java/lang/invoke/MethodHandle" ∧ yJ0_isLatin1_aae02.cls ≠ "java/lang/invoke/VarHandle" ∧ (parseMethodDescriptor yJ0_isLatin1_aae02.desc).map (fun d => d.parameters.length) = some 0 := by decide +kernel
theorem e_J0_length_8abf5 : yJ0_length_8abf5.cls = RJ0 ∧ yJ0_length_8abf5.cls ≠ "java/lang/invoke/MethodHandle" ∧ yJ0_length_8abf5.cls ≠ "java/lang/invoke/VarHandle" ∧ (parseMethodDescriptor yJ0_length_8abf5.desc).map (fun d => d.parameters.length) = some 0 := by decide +kernel
theorem e_J0_charAt_5068e : yJ0_charAt_5068e.cls = RJ0 ∧ yJ0_charAt_5068e.cls ≠ "java/lang/invoke/MethodHandle" ∧ yJ0_charAt_5068e.cls ≠ "java/lang/invoke/VarHandle" ∧ (parseMethodDescriptor yJ0_charAt_5068e.desc).map (fun d => d.parameters.length) = some 1 := by decide +kernel
set_option maxHeartbeats 4000000 in
set_option maxRecDepth 100000 in
theorem c_J3_checkIndex_8e157 (l : Launch) (G : va_G) (cI cJ cZ cB cT : ClassId) (p1 p2 : Int32) (w : Option Nat) (h0 : ¬ p1 < 0) (h1 : p1 < p2) : gMi l yJ3_checkIndex_8e157 (gws yJ3_checkIndex_8e157 cJ3_checkIndex_8e157 3 (some .int)) 1 G (gT cI cJ cZ cB cT) [.int p1, .int p2, va_rf w] ([] : va_W) (fun x (_ : Unit) => x = p1) (fun (_ : Unit) => ([] : va_W)) := by
  cases w with
  | none =>
    intro sz
    refine gM_start (y := yJ3_checkIndex_8e157) (av := [.int p1, .int p2, .null]) (ws := ([] : va_W)) (Qf := fun A => va_Qi (fun x (_ : Unit) => x = p1) (gB G (fun (_ : Unit) => ([] : va_W)) A) A) (cc := cJ3_checkIndex_8e157) (maxL := 3) (ret := (some .int)) (by decide) (Nat.le_of_ble_eq_true rfl) ?_
    intro p e s m args below meth c A ls H hx hb hr hts hown hin hlocks hml hP hK hD hA hS hl hE
    have hl : lv_has ls 3 [(0, .int p1), (1, .int p2), (2, .null)] := hl
    refine lv_iload_n hx hb dJ3_checkIndex_8e157_0 rfl (lv_at hl 0 rfl) ?_
    refine lv_if_lt (tgt := 9) hx hb dJ3_checkIndex_8e157_1 (by decide) (fun c => absurd c h0) (fun _ => ?_)
    refine lv_iload_n hx hb dJ3_checkIndex_8e157_4 rfl (lv_at hl 0 rfl) ?_
    refine lv_iload_n hx hb dJ3_checkIndex_8e157_5 rfl (lv_at hl 1 rfl) ?_
    refine lv_icmp_lt (tgt := 16) hx hb dJ3_checkIndex_8e157_6 (by decide) (fun _ => ?_) (fun c => absurd h1 c)
    refine lv_iload_n hx hb dJ3_checkIndex_8e157_16 rfl (lv_at hl 0 rfl) ?_
    exact gw_iret () hx hb hr hlocks hP hD hS rfl dJ3_checkIndex_8e157_17
  | some t =>
    intro sz
    refine gM_start (y := yJ3_checkIndex_8e157) (av := [.int p1, .int p2, .ref t]) (ws := ([] : va_W)) (Qf := fun A => va_Qi (fun x (_ : Unit) => x = p1) (gB G (fun (_ : Unit) => ([] : va_W)) A) A) (cc := cJ3_checkIndex_8e157) (maxL := 3) (ret := (some .int)) (by decide) (Nat.le_of_ble_eq_true rfl) ?_
    intro p e s m args below meth c A ls H hx hb hr hts hown hin hlocks hml hP hK hD hA hS hl hE
    have hl : lv_has ls 3 [(0, .int p1), (1, .int p2), (2, .ref t)] := hl
    refine lv_iload_n hx hb dJ3_checkIndex_8e157_0 rfl (lv_at hl 0 rfl) ?_
    refine lv_if_lt (tgt := 9) hx hb dJ3_checkIndex_8e157_1 (by decide) (fun c => absurd c h0) (fun _ => ?_)
    refine lv_iload_n hx hb dJ3_checkIndex_8e157_4 rfl (lv_at hl 0 rfl) ?_
    refine lv_iload_n hx hb dJ3_checkIndex_8e157_5 rfl (lv_at hl 1 rfl) ?_
    refine lv_icmp_lt (tgt := 16) hx hb dJ3_checkIndex_8e157_6 (by decide) (fun _ => ?_) (fun c => absurd h1 c)
    refine lv_iload_n hx hb dJ3_checkIndex_8e157_16 rfl (lv_at hl 0 rfl) ?_
    exact gw_iret () hx hb hr hlocks hP hD hS rfl dJ3_checkIndex_8e157_17
set_option maxHeartbeats 4000000 in
set_option maxRecDepth 100000 in
theorem c_J0_checkIndex_df160 (l : Launch) (G : va_G) (cI cJ cZ cB cT : ClassId) (p1 p2 : Int32) (h0 : ¬ p1 < 0) (h1 : p1 < p2) : gMv l yJ0_checkIndex_df160 (gws yJ0_checkIndex_df160 cJ0_checkIndex_df160 2 none) 2 G (gT cI cJ cZ cB cT) [.int p1, .int p2] ([] : va_W) (fun (_ : Unit) => True) (fun (_ : Unit) => ([] : va_W)) := by
  intro sz
  refine gM_start (y := yJ0_checkIndex_df160) (av := [.int p1, .int p2]) (ws := ([] : va_W)) (Qf := fun A => va_Qv (fun (_ : Unit) => True) (gB G (fun (_ : Unit) => ([] : va_W)) A) A) (cc := cJ0_checkIndex_df160) (maxL := 2) (ret := none) (by decide) (Nat.le_of_ble_eq_true rfl) ?_
  intro p e s m args below meth c A ls H hx hb hr hts hown hin hlocks hml hP hK hD hA hS hl hE
  have hl : lv_has ls 2 [(0, .int p1), (1, .int p2)] := hl
  refine lv_iload_n hx hb dJ0_checkIndex_df160_0 rfl (lv_at hl 0 rfl) ?_
  refine lv_iload_n hx hb dJ0_checkIndex_df160_1 rfl (lv_at hl 1 rfl) ?_
  rcases hE.2.2.2.2.2 with hZ | ⟨t, hZ⟩
  · refine va_gets hx hb hZ hS hown (hts _ m_500) (fun _ h9 => h9) dJ0_checkIndex_df160_2 ?_
    refine gx_calli0 (gx_runSx0 (As := [.int p1, .int p2, va_rf none]) (rest := []) ⟨hx, hb, hml, hown, hts⟩ (c_J3_checkIndex_8e157 l G cI cJ cZ cB cT p1 p2 none h0 h1 H.size) (gG_3 m_501 m_502 m_503 (gG_I m_504)) rfl e_J3_checkIndex_8e157 ⟨Nat.le_of_ble_eq_true rfl, Nat.le_of_ble_eq_true rfl⟩ hK hE hS hA rfl hl.1 rfl (Nat.le_of_ble_eq_true rfl) dJ0_checkIndex_df160_5 ⟨Nat.le_of_ble_eq_true rfl, Nat.le_of_ble_eq_true rfl⟩) hP hD hS hA (fun x_1 u_1 H locs hw_1 hP hD hS => ?_)
    refine lv_pop hx hb dJ0_checkIndex_df160_8 rfl ?_
    exact gw_vret () hx hb hr hlocks hP hD hS trivial dJ0_checkIndex_df160_9
  · refine va_gets hx hb hZ hS hown (hts _ m_500) (fun _ h9 => h9) dJ0_checkIndex_df160_2 ?_
    refine gx_calli0 (gx_runSx0 (As := [.int p1, .int p2, va_rf (some t)]) (rest := []) ⟨hx, hb, hml, hown, hts⟩ (c_J3_checkIndex_8e157 l G cI cJ cZ cB cT p1 p2 (some t) h0 h1 H.size) (gG_3 m_501 m_502 m_503 (gG_I m_504)) rfl e_J3_checkIndex_8e157 ⟨Nat.le_of_ble_eq_true rfl, Nat.le_of_ble_eq_true rfl⟩ hK hE hS hA rfl hl.1 rfl (Nat.le_of_ble_eq_true rfl) dJ0_checkIndex_df160_5 ⟨Nat.le_of_ble_eq_true rfl, Nat.le_of_ble_eq_true rfl⟩) hP hD hS hA (fun x_1 u_1 H locs hw_1 hP hD hS => ?_)
    refine lv_pop hx hb dJ0_checkIndex_df160_8 rfl ?_
    exact gw_vret () hx hb hr hlocks hP hD hS trivial dJ0_checkIndex_df160_9
set_option maxHeartbeats 4000000 in
set_option maxRecDepth 100000 in
theorem c_J0_coder_7d493 (l : Launch) (G : va_G) (cI cJ cZ cB cT : ClassId) : gMi l yJ0_coder_7d493 (gws yJ0_coder_7d493 cJ0_coder_7d493 1 (some .byte)) 1 G (gT cI cJ cZ cB cT) [.ref (G.2 99 2)] ([] : va_W) (fun x (_ : Unit) => x = 0) (fun (_ : Unit) => ([] : va_W)) := by
  intro sz
  refine gM_start (y := yJ0_coder_7d493) (av := [.ref (G.2 99 2)]) (ws := ([] : va_W)) (Qf := fun A => va_Qi (fun x (_ : Unit) => x = 0) (gB G (fun (_ : Unit) => ([] : va_W)) A) A) (cc := cJ0_coder_7d493) (maxL := 1) (ret := (some .byte)) (by decide) (Nat.le_of_ble_eq_true rfl) ?_
  intro p e s m args below meth c A ls H hx hb hr hts hown hin hlocks hml hP hK hD hA hS hl hE
  have hl : lv_has ls 1 [(0, .ref (G.2 99 2))] := hl
  refine va_gets hx hb hE.2.2.2.2.1 hS hown (hts _ m_505) (fun _ h9 => h9) dJ0_coder_7d493_0 ?_
  refine lv_if_eq (tgt := 13) hx hb dJ0_coder_7d493_3 (by decide) (fun c => absurd c (by decide)) (fun _ => ?_)
  refine lv_aload_n hx hb dJ0_coder_7d493_6 rfl (lv_at hl 0 rfl) ?_
  refine vk_getf hx hb (hE.2.2.2.1.2.1 0 (by decide)).2.1 hS hown (hts _ m_506) (fun _ h9 => h9) dJ0_coder_7d493_7 ?_
  refine lv_goto (tgt := 14) hx hb dJ0_coder_7d493_10 (by decide) ?_
  exact gw_tret () hx hb hr hlocks rfl hP hD hS rfl dJ0_coder_7d493_14
set_option maxHeartbeats 4000000 in
set_option maxRecDepth 100000 in
theorem c_J0_isLatin1_aae02 (l : Launch) (G : va_G) (cI cJ cZ cB cT : ClassId) : gMi l yJ0_isLatin1_aae02 (gws yJ0_isLatin1_aae02 cJ0_isLatin1_aae02 1 (some .boolean)) 1 G (gT cI cJ cZ cB cT) [.ref (G.2 99 2)] ([] : va_W) (fun x (_ : Unit) => x = 1) (fun (_ : Unit) => ([] : va_W)) := by
  intro sz
  refine gM_start (y := yJ0_isLatin1_aae02) (av := [.ref (G.2 99 2)]) (ws := ([] : va_W)) (Qf := fun A => va_Qi (fun x (_ : Unit) => x = 1) (gB G (fun (_ : Unit) => ([] : va_W)) A) A) (cc := cJ0_isLatin1_aae02) (maxL := 1) (ret := (some .boolean)) (by decide) (Nat.le_of_ble_eq_true rfl) ?_
  intro p e s m args below meth c A ls H hx hb hr hts hown hin hlocks hml hP hK hD hA hS hl hE
  have hl : lv_has ls 1 [(0, .ref (G.2 99 2))] := hl
  refine va_gets hx hb hE.2.2.2.2.1 hS hown (hts _ m_505) (fun _ h9 => h9) dJ0_isLatin1_aae02_0 ?_
  refine lv_if_eq (tgt := 17) hx hb dJ0_isLatin1_aae02_3 (by decide) (fun c => absurd c (by decide)) (fun _ => ?_)
  refine lv_aload_n hx hb dJ0_isLatin1_aae02_6 rfl (lv_at hl 0 rfl) ?_
  refine vk_getf hx hb (hE.2.2.2.1.2.1 0 (by decide)).2.1 hS hown (hts _ m_506) (fun _ h9 => h9) dJ0_isLatin1_aae02_7 ?_
  refine lv_if_ne (tgt := 17) hx hb dJ0_isLatin1_aae02_10 (by decide) (fun c => absurd rfl c) (fun _ => ?_)
  refine lv_iconst (v := 1) hx hb dJ0_isLatin1_aae02_13 (by decide) ?_
  refine lv_goto (tgt := 18) hx hb dJ0_isLatin1_aae02_14 (by decide) ?_
  exact gw_tret () hx hb hr hlocks rfl hP hD hS rfl dJ0_isLatin1_aae02_18
def f_J0_length : Option Int32 := some 121
set_option maxHeartbeats 4000000 in
set_option maxRecDepth 100000 in
theorem c_J0_length_8abf5 (l : Launch) (G : va_G) (cI cJ cZ cB cT : ClassId) (rr : Int32) (hF : f_J0_length = some rr) : gMi l yJ0_length_8abf5 (gws yJ0_length_8abf5 cJ0_length_8abf5 1 (some .int)) 2 G (gT cI cJ cZ cB cT) [.ref (G.2 99 2)] ([] : va_W) (fun x (_ : Unit) => x = rr) (fun (_ : Unit) => ([] : va_W)) := by
  obtain rfl := ob_one hF
  intro sz
  refine gM_start (y := yJ0_length_8abf5) (av := [.ref (G.2 99 2)]) (ws := ([] : va_W)) (Qf := fun A => va_Qi (fun x (_ : Unit) => x = 121) (gB G (fun (_ : Unit) => ([] : va_W)) A) A) (cc := cJ0_length_8abf5) (maxL := 1) (ret := (some .int)) (by decide) (Nat.le_of_ble_eq_true rfl) ?_
  intro p e s m args below meth c A ls H hx hb hr hts hown hin hlocks hml hP hK hD hA hS hl hE
  have hl : lv_has ls 1 [(0, .ref (G.2 99 2))] := hl
  refine lv_aload_n hx hb dJ0_length_8abf5_0 rfl (lv_at hl 0 rfl) ?_
  refine vk_getf hx hb (hE.2.2.2.1.2.1 0 (by decide)).2.2.1 hS hown (hts _ m_507) (fun _ h9 => h9) dJ0_length_8abf5_1 ?_
  refine va_tlen hx hb (hE.2.2.2.1.2.1 0 (by decide)).2.2.2 hS (v := 121) rfl dJ0_length_8abf5_4 ?_
  refine lv_aload_n hx hb dJ0_length_8abf5_5 rfl (lv_at hl 0 rfl) ?_
  refine gx_calli0 (gx_runV0 (As := []) (rest := [.int 121]) ⟨hx, hb, hml, hown, hts⟩ (c_J0_coder_7d493 l G cI cJ cZ cB cT H.size) (gG_V m_508 m_509 m_510 m_511 m_512) rfl e_J0_coder_7d493 ⟨Nat.le_of_ble_eq_true rfl, Nat.le_of_ble_eq_true rfl⟩ hK hE hS hA (vk_recv hE.2.2.2.1.2 (i := 0) (by decide) hS) rfl hl.1 rfl (Nat.le_of_ble_eq_true rfl) dJ0_length_8abf5_6 ⟨Nat.le_of_ble_eq_true rfl, Nat.le_of_ble_eq_true rfl⟩) hP hD hS hA (fun x_1 u_1 H locs hw_1 hP hD hS => ?_)
  subst x_1
  refine lv_ishr hx hb dJ0_length_8abf5_9 ?_
  refine gw_topi (y := 121) (by decide) ?_
  exact gw_iret () hx hb hr hlocks hP hD hS rfl dJ0_length_8abf5_10
theorem gch (b : Int32) : narrow .char (.int (b &&& 255)) = .int (b &&& 255) := sc_nar b
set_option maxHeartbeats 4000000 in
set_option maxRecDepth 100000 in
theorem c_J1_charAt_3b067 (l : Launch) (G : va_G) (cI cJ cZ cB cT : ClassId) (p1 : Int32) (h0 : 0 ≤ p1.toInt ∧ p1.toInt < 121) : gMi l yJ1_charAt_3b067 (gws yJ1_charAt_3b067 cJ1_charAt_3b067 2 (some .char)) 3 G (gT cI cJ cZ cB cT) [.ref (G.2 99 3), .int p1] ([] : va_W) (fun x (_ : Unit) => x = ((gWb.getD (p1.toNatClampNeg) 0) &&& 255)) (fun (_ : Unit) => ([] : va_W)) := by
  intro sz
  refine gM_start (y := yJ1_charAt_3b067) (av := [.ref (G.2 99 3), .int p1]) (ws := ([] : va_W)) (Qf := fun A => va_Qi (fun x (_ : Unit) => x = ((gWb.getD (p1.toNatClampNeg) 0) &&& 255)) (gB G (fun (_ : Unit) => ([] : va_W)) A) A) (cc := cJ1_charAt_3b067) (maxL := 2) (ret := (some .char)) (by decide) (Nat.le_of_ble_eq_true rfl) ?_
  intro p e s m args below meth c A ls H hx hb hr hts hown hin hlocks hml hP hK hD hA hS hl hE
  have hl : lv_has ls 2 [(0, .ref (G.2 99 3)), (1, .int p1)] := hl
  have hn0 : ¬ p1 < 0 := gi_nlt (by have : (0 : Int32).toInt = 0 := (by decide); omega)
  have hn1 : p1 < 121 := gi_lt (by have : (121 : Int32).toInt = 121 := (by decide); omega)
  refine lv_iload_n hx hb dJ1_charAt_3b067_0 rfl (lv_at hl 1 rfl) ?_
  refine lv_aload_n hx hb dJ1_charAt_3b067_1 rfl (lv_at hl 0 rfl) ?_
  refine va_tlen hx hb (hE.2.2.2.1.2.1 0 (by decide)).2.2.2 hS (v := 121) rfl dJ1_charAt_3b067_2 ?_
  refine gx_callv0 (gx_runSx0 (As := [.int p1, .int 121]) (rest := []) ⟨hx, hb, hml, hown, hts⟩ (c_J0_checkIndex_df160 l G cI cJ cZ cB cT p1 121 hn0 hn1 H.size) (gG_3 m_513 m_514 m_511 (gG_I m_515)) rfl e_J0_checkIndex_df160 ⟨Nat.le_of_ble_eq_true rfl, Nat.le_of_ble_eq_true rfl⟩ hK hE hS hA rfl hl.1 rfl (Nat.le_of_ble_eq_true rfl) dJ1_charAt_3b067_3 ⟨Nat.le_of_ble_eq_true rfl, Nat.le_of_ble_eq_true rfl⟩) hP hD hS hA (fun u_1 H locs hw_1 hP hD hS => ?_)
  refine lv_aload_n hx hb dJ1_charAt_3b067_6 rfl (lv_at hl 0 rfl) ?_
  refine lv_iload_n hx hb dJ1_charAt_3b067_7 rfl (lv_at hl 1 rfl) ?_
  refine va_tb hx hb (hE.2.2.2.1.2.1 0 (by decide)).2.2.2 hS (vp_in_iff.mpr h0) (v := .int (gWb.getD (p1.toNatClampNeg) 0)) rfl dJ1_charAt_3b067_8 ?_
  refine lv_sipush (v := 255) hx hb dJ1_charAt_3b067_9 (by decide) ?_
  refine lv_iand hx hb dJ1_charAt_3b067_12 ?_
  refine lv_i2c (v := ((gWb.getD (p1.toNatClampNeg) 0) &&& 255)) hx hb dJ1_charAt_3b067_13 (sc_c2 _) ?_
  exact gw_tret () hx hb hr hlocks (gch _) hP hD hS rfl dJ1_charAt_3b067_14
def f_J0_charAt (p1 : Int32) : Option Int32 := if 0 ≤ p1.toInt ∧ p1.toInt < 121 then some ((gWb.getD (p1.toNatClampNeg) 0) &&& 255) else none
set_option maxHeartbeats 4000000 in
set_option maxRecDepth 100000 in
theorem c_J0_charAt_5068e (l : Launch) (G : va_G) (cI cJ cZ cB cT : ClassId) (p1 rr : Int32) (hF : f_J0_charAt p1 = some rr) : gMi l yJ0_charAt_5068e (gws yJ0_charAt_5068e cJ0_charAt_5068e 2 (some .char)) 4 G (gT cI cJ cZ cB cT) [.ref (G.2 99 2), .int p1] ([] : va_W) (fun x (_ : Unit) => x = rr) (fun (_ : Unit) => ([] : va_W)) := by
  unfold f_J0_charAt at hF
  obtain ⟨h0, hF⟩ := ob_if hF
  obtain rfl := ob_one hF
  intro sz
  refine gM_start (y := yJ0_charAt_5068e) (av := [.ref (G.2 99 2), .int p1]) (ws := ([] : va_W)) (Qf := fun A => va_Qi (fun x (_ : Unit) => x = ((gWb.getD (p1.toNatClampNeg) 0) &&& 255)) (gB G (fun (_ : Unit) => ([] : va_W)) A) A) (cc := cJ0_charAt_5068e) (maxL := 2) (ret := (some .char)) (by decide) (Nat.le_of_ble_eq_true rfl) ?_
  intro p e s m args below meth c A ls H hx hb hr hts hown hin hlocks hml hP hK hD hA hS hl hE
  have hl : lv_has ls 2 [(0, .ref (G.2 99 2)), (1, .int p1)] := hl
  refine lv_aload_n hx hb dJ0_charAt_5068e_0 rfl (lv_at hl 0 rfl) ?_
  refine gx_calli0 (gx_runV0 (As := []) (rest := []) ⟨hx, hb, hml, hown, hts⟩ (c_J0_isLatin1_aae02 l G cI cJ cZ cB cT H.size) (gG_V m_516 m_517 m_518 m_511 m_519) rfl e_J0_isLatin1_aae02 ⟨Nat.le_of_ble_eq_true rfl, Nat.le_of_ble_eq_true rfl⟩ hK hE hS hA (vk_recv hE.2.2.2.1.2 (i := 0) (by decide) hS) rfl hl.1 rfl (Nat.le_of_ble_eq_true rfl) dJ0_charAt_5068e_1 ⟨Nat.le_of_ble_eq_true rfl, Nat.le_of_ble_eq_true rfl⟩) hP hD hS hA (fun x_1 u_1 H locs hw_1 hP hD hS => ?_)
  subst x_1
  refine lv_if_eq (tgt := 16) hx hb dJ0_charAt_5068e_4 (by decide) (fun c => absurd c (by decide)) (fun _ => ?_)
  refine lv_aload_n hx hb dJ0_charAt_5068e_7 rfl (lv_at hl 0 rfl) ?_
  refine vk_getf hx hb (hE.2.2.2.1.2.1 0 (by decide)).2.2.1 hS hown (hts _ m_507) (fun _ h9 => h9) dJ0_charAt_5068e_8 ?_
  refine lv_iload_n hx hb dJ0_charAt_5068e_11 rfl (lv_at hl 1 rfl) ?_
  refine gx_calli0 (gx_runSx0 (As := [.ref (G.2 99 3), .int p1]) (rest := []) ⟨hx, hb, hml, hown, hts⟩ (c_J1_charAt_3b067 l G cI cJ cZ cB cT p1 h0 H.size) (gG_3 m_520 m_521 m_522 (gG_I m_523)) rfl e_J1_charAt_3b067 ⟨Nat.le_of_ble_eq_true rfl, Nat.le_of_ble_eq_true rfl⟩ hK hE hS hA rfl hl.1 rfl (Nat.le_of_ble_eq_true rfl) dJ0_charAt_5068e_12 ⟨Nat.le_of_ble_eq_true rfl, Nat.le_of_ble_eq_true rfl⟩) hP hD hS hA (fun x_2 u_2 H locs hw_2 hP hD hS => ?_)
  subst x_2
  exact gw_tret () hx hb hr hlocks (gch _) hP hD hS rfl dJ0_charAt_5068e_15
