def f_X9_clauseIsOver (h : HS) : Option HS := (ob1 (f_X9_works h 1) (fun h_1 => (ob1 (f_X9_emits (sI h_1 0 22 0) 408 0) (fun h_2 => (ob1 (f_X9_next (sI h_2 0 29 ((eI h_2 0 29) + 1))) (fun h_3 => (some (sI h_3 0 28 4))))))))
set_option maxHeartbeats 4000000 in
set_option maxRecDepth 100000 in
theorem c_X9_clauseIsOver (l : Launch) (G : va_G) (cI cJ cZ cB cT : ClassId) (m0 : Nat) (r : Nat → Nat) (h : HS)  (hh : HS) (hF : f_X9_clauseIsOver h = some hh) : gMv l yX9_clauseIsOver (gws yX9_clauseIsOver cX9_clauseIsOver 1 none) 4 G (gT cI cJ cZ cB cT) [.ref m0] (wM m0 r cI cJ cZ cB cT h) (fun (_ : Unit) => True) (fun (_ : Unit) => (wM m0 r cI cJ cZ cB cT hh)) := by
  intro sz
  refine gM_start (y := yX9_clauseIsOver) (av := [.ref m0]) (ws := (wM m0 r cI cJ cZ cB cT h)) (Qf := fun A => va_Qv (fun (_ : Unit) => True) (gB G (fun (_ : Unit) => (wM m0 r cI cJ cZ cB cT hh)) A) A) (cc := cX9_clauseIsOver) (maxL := 1) (ret := none) (by decide) (Nat.le_of_ble_eq_true rfl) ?_
  intro p e s m args below meth c A ls H hx hb hr hts hown hin hlocks hml hP hK hD hA hS hl hE
  have hl : lv_has ls 1 [(0, .ref m0)] := hl
  unfold f_X9_clauseIsOver at hF
  refine lv_aload_n hx hb dX9_clauseIsOver_0 rfl (lv_at hl 0 rfl) ?_
  refine lv_iconst (v := 1) hx hb dX9_clauseIsOver_1 (by decide) ?_
  obtain ⟨h_1, e_1, hF⟩ := ob1_some hF
  refine gx_callv (gx_runV (As := [.int 1]) (rest := []) ⟨hx, hb, hml, hown, hts⟩ (c_X9_works l G cI cJ cZ cB cT m0 r h 1 h_1 e_1 H.size) (gG_V m_168 m_169 m_170 m_64 m_167) rfl e_X9_works ⟨Nat.le_of_ble_eq_true rfl, Nat.le_of_ble_eq_true rfl⟩ hK hP hD hE hS hA 0 wM_at0 rfl rfl hl.1 rfl (Nat.le_of_ble_eq_true rfl) dX9_clauseIsOver_2 ⟨Nat.le_refl _, Nat.le_refl _⟩) hP hD hS hA (fun u_1 H locs hw_1 hP hD hS => ?_)
  refine lv_aload_n hx hb dX9_clauseIsOver_5 rfl (lv_at hl 0 rfl) ?_
  refine lv_iconst (v := 0) hx hb dX9_clauseIsOver_6 (by decide) ?_
  refine va_put (D := G) (ci := 9) (v := .int 0) (ty := .int) (C := RX9) (T := TX9) (N := 53) hx hb hts iX9 tyX9 tyX9_ok nmX9 hown hK hP hD hS 0 wM_at0 rfl 22 (by decide) (hts _ m_143) (fun _ h9 => h9) rfl (tyX9_ok 22 (by decide)) rfl rfl (Nat.le_of_ble_eq_true rfl) dX9_clauseIsOver_7 (fun H locs hP hD hS => ?_)
  rw [wM_sI0_22] at hP hD
  refine lv_aload_n hx hb dX9_clauseIsOver_10 rfl (lv_at hl 0 rfl) ?_
  refine lv_sipush (v := 408) hx hb dX9_clauseIsOver_11 (by decide) ?_
  refine lv_iconst (v := 0) hx hb dX9_clauseIsOver_14 (by decide) ?_
  obtain ⟨h_2, e_2, hF⟩ := ob1_some hF
  refine gx_callv (gx_runV (As := [.int 408, .int 0]) (rest := []) ⟨hx, hb, hml, hown, hts⟩ (c_X9_emits l G cI cJ cZ cB cT m0 r (sI h_1 0 22 0) 408 0 h_2 e_2 H.size) (gG_V m_164 m_165 m_166 m_64 m_163) rfl e_X9_emits ⟨Nat.le_of_ble_eq_true rfl, Nat.le_of_ble_eq_true rfl⟩ hK hP hD hE hS hA 0 wM_at0 rfl rfl hl.1 rfl (Nat.le_of_ble_eq_true rfl) dX9_clauseIsOver_15 ⟨Nat.le_refl _, Nat.le_refl _⟩) hP hD hS hA (fun u_2 H locs hw_2 hP hD hS => ?_)
  refine lv_aload_n hx hb dX9_clauseIsOver_18 rfl (lv_at hl 0 rfl) ?_
  refine lv_dup hx hb dX9_clauseIsOver_19 rfl ?_
  refine va_get (D := G) (ci := 9) (v := .int (eI h_2 0 29)) (C := RX9) (T := TX9) (N := 53) hx hb hts iX9 hown hK hP 0 wM_at0 rfl 29 (by decide) (hts _ m_193) (fun _ h9 => h9) rfl dX9_clauseIsOver_20 ?_
  refine lv_iconst (v := 1) hx hb dX9_clauseIsOver_23 (by decide) ?_
  refine lv_iadd hx hb dX9_clauseIsOver_24 ?_
  refine va_put (D := G) (ci := 9) (v := .int ((eI h_2 0 29) + 1)) (ty := .int) (C := RX9) (T := TX9) (N := 53) hx hb hts iX9 tyX9 tyX9_ok nmX9 hown hK hP hD hS 0 wM_at0 rfl 29 (by decide) (hts _ m_193) (fun _ h9 => h9) rfl (tyX9_ok 29 (by decide)) rfl rfl (Nat.le_of_ble_eq_true rfl) dX9_clauseIsOver_25 (fun H locs hP hD hS => ?_)
  rw [wM_sI0_29] at hP hD
  refine lv_aload_n hx hb dX9_clauseIsOver_28 rfl (lv_at hl 0 rfl) ?_
  obtain ⟨h_3, e_3, hF⟩ := ob1_some hF
  refine gx_callv (gx_runV (As := []) (rest := []) ⟨hx, hb, hml, hown, hts⟩ (c_X9_next l G cI cJ cZ cB cT m0 r (sI h_2 0 29 ((eI h_2 0 29) + 1))  h_3 e_3 H.size) (gG_V m_150 m_151 m_152 m_64 m_149) rfl e_X9_next ⟨Nat.le_of_ble_eq_true rfl, Nat.le_of_ble_eq_true rfl⟩ hK hP hD hE hS hA 0 wM_at0 rfl rfl hl.1 rfl (Nat.le_of_ble_eq_true rfl) dX9_clauseIsOver_29 ⟨Nat.le_refl _, Nat.le_refl _⟩) hP hD hS hA (fun u_3 H locs hw_3 hP hD hS => ?_)
  refine lv_aload_n hx hb dX9_clauseIsOver_32 rfl (lv_at hl 0 rfl) ?_
  refine lv_iconst (v := 4) hx hb dX9_clauseIsOver_33 (by decide) ?_
  refine va_put (D := G) (ci := 9) (v := .int 4) (ty := .int) (C := RX9) (T := TX9) (N := 53) hx hb hts iX9 tyX9 tyX9_ok nmX9 hown hK hP hD hS 0 wM_at0 rfl 28 (by decide) (hts _ m_175) (fun _ h9 => h9) rfl (tyX9_ok 28 (by decide)) rfl rfl (Nat.le_of_ble_eq_true rfl) dX9_clauseIsOver_34 (fun H locs hP hD hS => ?_)
  rw [wM_sI0_28] at hP hD
  obtain rfl := ob_one hF
  exact gw_vret () hx hb hr hlocks hP hD hS trivial dX9_clauseIsOver_37
def f_X9_goesOn_250 (h : HS) : Option HS := (some h)
def f_X9_goesOn_245 (h : HS) : Option HS := (ob1 (f_X9_errs h 1) (fun h_31 => (f_X9_goesOn_250 h_31)))
def f_X9_goesOn_181 (h : HS) (x1 : Int32) : Option HS := (if x1 = 5 then (ob1 (f_X9_works h 3) (fun h_27 => (if 0 ≤ ((eI h_27 0 22)).toInt ∧ ((eI h_27 0 22)).toInt < 41 then (ob1 (f_X9_emits (sI h_27 0 22 ((eI h_27 0 22) - 1)) ((eA h_27 0 24) (((eI h_27 0 22)).toNatClampNeg)) 0) (fun h_29 => (ob1 (f_X9_askIsOver h_29) (fun h_30 => (f_X9_goesOn_250 h_30))))) else none))) else (if x1 = 1 then (ob2 (f_X9_isSign h 59) (fun r_24 h_24 => (if r_24 = 0 then (f_X9_goesOn_245 h_24) else (ob1 (f_X9_clauseIsOver h_24) (fun h_26 => (f_X9_goesOn_250 h_26)))))) else (f_X9_goesOn_245 h)))
def f_X9_goesOn_116 (h : HS) (x1 : Int32) : Option HS := (if x1 = 4 then (if (eI h 0 17) = 3 then (ob1 (f_X9_isAsking (eI h 0 18)) (fun r_16 => (if r_16 = 0 then (f_X9_goesOn_181 h x1) else (ob1 (f_X9_works h 3) (fun h_18 => (if 0 ≤ ((eI h_18 0 22)).toInt ∧ ((eI h_18 0 22)).toInt < 41 then (if 0 ≤ (((eI h_18 0 22) - 1)).toInt ∧ (((eI h_18 0 22) - 1)).toInt < 40 then (ob1 (f_X9_next (sA (sA h_18 0 24 (upd (eA h_18 0 24) (((eI h_18 0 22)).toNatClampNeg) (eI h_18 0 18))) 0 23 (upd (eA h_18 0 23) ((((eI h_18 0 22) - 1)).toNatClampNeg) 5))) (fun h_21 => (f_X9_goesOn_250 (sI h_21 0 28 1)))) else none) else none)))))) else (f_X9_goesOn_181 h x1)) else (f_X9_goesOn_181 h x1))
def f_X9_goesOn_65 (h : HS) (x1 : Int32) : Option HS := (if x1 = 6 then (ob2 (f_X9_isSign h 41) (fun r_8 h_8 => (if r_8 = 0 then (f_X9_goesOn_116 h_8 x1) else (ob1 (f_X9_works h_8 3) (fun h_10 => (ob1 (f_X9_next (sI (sI h_10 0 22 ((eI h_10 0 22) - 1)) 0 21 ((eI h_10 0 21) - 1))) (fun h_11 => (ob1 (f_X9_oneIsOver h_11) (fun h_12 => (f_X9_goesOn_250 h_12)))))))))) else (f_X9_goesOn_116 h x1))
def f_X9_goesOn_49 (h : HS) : Option HS := (ob1 (f_X9_waitsFor h (eI h 0 18)) (fun h_13 => (f_X9_goesOn_250 (sI h_13 0 28 1))))
def f_X9_goesOn (h : HS) : Option HS := (ob2 (f_X9_top h) (fun r_1 h_1 => (if (eI h_1 0 17) = 3 then (if (eI h_1 0 18) = 43 then (f_X9_goesOn_49 h_1) else (if (eI h_1 0 18) = 45 then (f_X9_goesOn_49 h_1) else (if (eI h_1 0 18) = 42 then (f_X9_goesOn_49 h_1) else (if (eI h_1 0 18) = 47 then (f_X9_goesOn_49 h_1) else (f_X9_goesOn_65 h_1 r_1))))) else (f_X9_goesOn_65 h_1 r_1))))
theorem e_X9_askIsOver : yX9_askIsOver.cls = RX9 ∧ yX9_askIsOver.cls ≠ "java/lang/invoke/MethodHandle" ∧ yX9_askIsOver.cls ≠ "java/lang/invoke/VarHandle" ∧ (parseMethodDescriptor yX9_askIsOver.desc).map (fun d => d.parameters.length) = some 0 := by decide +kernel
theorem e_X9_clauseIsOver : yX9_clauseIsOver.cls = RX9 ∧ yX9_clauseIsOver.cls ≠ "java/lang/invoke/MethodHandle" ∧ yX9_clauseIsOver.cls ≠ "java/lang/invoke/VarHandle" ∧ (parseMethodDescriptor yX9_clauseIsOver.desc).map (fun d => d.parameters.length) = some 0 := by decide +kernel
theorem e_X9_isAsking : yX9_isAsking.cls = RX9 ∧ yX9_isAsking.cls ≠ "java/lang/invoke/MethodHandle" ∧ yX9_isAsking.cls ≠ "java/lang/invoke/VarHandle" ∧ (parseMethodDescriptor yX9_isAsking.desc).map (fun d => d.parameters.length) = some 1 := by decide +kernel
theorem e_X9_waitsFor : yX9_waitsFor.cls = RX9 ∧ yX9_waitsFor.cls ≠ "java/lang/invoke/MethodHandle" ∧ yX9_waitsFor.cls ≠ "java/lang/invoke/VarHandle" ∧ (parseMethodDescriptor yX9_waitsFor.desc).map (fun d => d.parameters.length) = some 1 := by decide +kernel
set_option maxHeartbeats 4000000 in
set_option maxRecDepth 100000 in
theorem c_X9_goesOn (l : Launch) (G : va_G) (cI cJ cZ cB cT : ClassId) (m0 : Nat) (r : Nat → Nat) (h : HS)  (hh : HS) (hF : f_X9_goesOn h = some hh) : gMv l yX9_goesOn (gws yX9_goesOn cX9_goesOn 3 none) 5 G (gT cI cJ cZ cB cT) [.ref m0] (wM m0 r cI cJ cZ cB cT h) (fun (_ : Unit) => True) (fun (_ : Unit) => (wM m0 r cI cJ cZ cB cT hh)) := by
  intro sz
  refine gM_start (y := yX9_goesOn) (av := [.ref m0]) (ws := (wM m0 r cI cJ cZ cB cT h)) (Qf := fun A => va_Qv (fun (_ : Unit) => True) (gB G (fun (_ : Unit) => (wM m0 r cI cJ cZ cB cT hh)) A) A) (cc := cX9_goesOn) (maxL := 3) (ret := none) (by decide) (Nat.le_of_ble_eq_true rfl) ?_
  intro p e s m args below meth c A ls H hx hb hr hts hown hin hlocks hml hP hK hD hA hS hl hE
  have hl : lv_has ls 3 [(0, .ref m0)] := hl
  have hJ_250 : ∀ (h : HS), f_X9_goesOn_250 h = some hh → ∀ (H : Heap) (locs : List Loc) (ls : Array Slot), va_P G vwCl (wM m0 r cI cJ cZ cB cT h) H → va_D A (wM m0 r cI cJ cZ cB cT h) → va_S A s.heap H locs → lv_has ls 3 [] → W p l e (gRm 5) s m args below meth c H locs 0 0 (MQ below (va_Qv (fun (_ : Unit) => True) (gB G (fun (_ : Unit) => (wM m0 r cI cJ cZ cB cT hh)) A) A) args s 0 0 A) (F0 m 250 ls []) := by
    intro h hF H locs ls hP hD hS hl
    unfold f_X9_goesOn_250 at hF
    obtain rfl := ob_one hF
    exact gw_vret () hx hb hr hlocks hP hD hS trivial dX9_goesOn_250
  have hJ_245 : ∀ (h : HS), f_X9_goesOn_245 h = some hh → ∀ (H : Heap) (locs : List Loc) (ls : Array Slot), va_P G vwCl (wM m0 r cI cJ cZ cB cT h) H → va_D A (wM m0 r cI cJ cZ cB cT h) → va_S A s.heap H locs → lv_has ls 3 [(0, .ref m0)] → W p l e (gRm 5) s m args below meth c H locs 0 0 (MQ below (va_Qv (fun (_ : Unit) => True) (gB G (fun (_ : Unit) => (wM m0 r cI cJ cZ cB cT hh)) A) A) args s 0 0 A) (F0 m 245 ls []) := by
    intro h hF H locs ls hP hD hS hl
    unfold f_X9_goesOn_245 at hF
    refine lv_aload_n hx hb dX9_goesOn_245 rfl (lv_at hl 0 rfl) ?_
    refine lv_iconst (v := 1) hx hb dX9_goesOn_246 (by decide) ?_
    obtain ⟨h_31, e_31, hF⟩ := ob1_some hF
    refine gx_callv (gx_runV (As := [.int 1]) (rest := []) ⟨hx, hb, hml, hown, hts⟩ (c_X9_errs l G cI cJ cZ cB cT m0 r h 1 h_31 e_31 H.size) (gG_V m_154 m_155 m_156 m_64 m_153) rfl e_X9_errs ⟨Nat.le_of_ble_eq_true rfl, Nat.le_of_ble_eq_true rfl⟩ hK hP hD hE hS hA 0 wM_at0 rfl rfl hl.1 rfl (Nat.le_of_ble_eq_true rfl) dX9_goesOn_247 ⟨Nat.le_refl _, Nat.le_refl _⟩) hP hD hS hA (fun u_31 H locs hw_31 hP hD hS => ?_)
    exact hJ_250 h_31 hF H _ ls hP hD hS (lv_sub hl [] rfl)
  have hJ_181 : ∀ (h : HS) (x1 : Int32), f_X9_goesOn_181 h x1 = some hh → ∀ (H : Heap) (locs : List Loc) (ls : Array Slot), va_P G vwCl (wM m0 r cI cJ cZ cB cT h) H → va_D A (wM m0 r cI cJ cZ cB cT h) → va_S A s.heap H locs → lv_has ls 3 [(0, .ref m0), (1, .int x1)] → W p l e (gRm 5) s m args below meth c H locs 0 0 (MQ below (va_Qv (fun (_ : Unit) => True) (gB G (fun (_ : Unit) => (wM m0 r cI cJ cZ cB cT hh)) A) A) args s 0 0 A) (F0 m 181 ls []) := by
    intro h x1 hF H locs ls hP hD hS hl
    unfold f_X9_goesOn_181 at hF
    refine lv_iload_n hx hb dX9_goesOn_181 rfl (lv_at hl 1 rfl) ?_
    refine lv_iconst (v := 5) hx hb dX9_goesOn_182 (by decide) ?_
    refine lv_icmp_ne (tgt := 224) hx hb dX9_goesOn_183 (by decide) (fun c_22 => ?_) (fun c_22 => ?_)
    · have hF := ob_neg c_22 hF
      refine lv_iload_n hx hb dX9_goesOn_224 rfl (lv_at hl 1 rfl) ?_
      refine lv_iconst (v := 1) hx hb dX9_goesOn_225 (by decide) ?_
      refine lv_icmp_ne (tgt := 245) hx hb dX9_goesOn_226 (by decide) (fun c_23 => ?_) (fun c_23 => ?_)
      · have hF := ob_neg c_23 hF
        exact hJ_245 h hF H _ ls hP hD hS (lv_sub hl [0] rfl)
      · have hF := ob_pos c_23 hF
        refine lv_aload_n hx hb dX9_goesOn_229 rfl (lv_at hl 0 rfl) ?_
        refine lv_bipush (v := 59) hx hb dX9_goesOn_230 (by decide) ?_
        obtain ⟨r_24, h_24, e_24, hF⟩ := ob2_some hF
        refine gx_calli (gx_runV (As := [.int 59]) (rest := []) ⟨hx, hb, hml, hown, hts⟩ (c_X9_isSign l G cI cJ cZ cB cT m0 r h 59 r_24 h_24 e_24 H.size) (gG_V m_190 m_191 m_192 m_64 m_189) rfl e_X9_isSign ⟨Nat.le_of_ble_eq_true rfl, Nat.le_of_ble_eq_true rfl⟩ hK hP hD hE hS hA 0 wM_at0 rfl rfl hl.1 rfl (Nat.le_of_ble_eq_true rfl) dX9_goesOn_232 ⟨Nat.le_refl _, Nat.le_refl _⟩) hP hD hS hA (fun x_24 u_24 H locs hw_24 hP hD hS => ?_)
        subst x_24
        refine lv_if_eq (tgt := 245) hx hb dX9_goesOn_235 (by decide) (fun c_25 => ?_) (fun c_25 => ?_)
        · have hF := ob_pos c_25 hF
          exact hJ_245 h_24 hF H _ ls hP hD hS (lv_sub hl [0] rfl)
        · have hF := ob_neg c_25 hF
          refine lv_aload_n hx hb dX9_goesOn_238 rfl (lv_at hl 0 rfl) ?_
          obtain ⟨h_26, e_26, hF⟩ := ob1_some hF
          refine gx_callv (gx_runV (As := []) (rest := []) ⟨hx, hb, hml, hown, hts⟩ (c_X9_clauseIsOver l G cI cJ cZ cB cT m0 r h_24  h_26 e_26 H.size) (gG_V m_203 m_204 m_205 m_64 m_202) rfl e_X9_clauseIsOver ⟨Nat.le_of_ble_eq_true rfl, Nat.le_of_ble_eq_true rfl⟩ hK hP hD hE hS hA 0 wM_at0 rfl rfl hl.1 rfl (Nat.le_of_ble_eq_true rfl) dX9_goesOn_239 ⟨Nat.le_refl _, Nat.le_refl _⟩) hP hD hS hA (fun u_26 H locs hw_26 hP hD hS => ?_)
          refine lv_goto (tgt := 250) hx hb dX9_goesOn_242 (by decide) ?_
          exact hJ_250 h_26 hF H _ ls hP hD hS (lv_sub hl [] rfl)
    · have hF := ob_pos c_22 hF
      refine lv_aload_n hx hb dX9_goesOn_186 rfl (lv_at hl 0 rfl) ?_
      refine lv_iconst (v := 3) hx hb dX9_goesOn_187 (by decide) ?_
      obtain ⟨h_27, e_27, hF⟩ := ob1_some hF
      refine gx_callv (gx_runV (As := [.int 3]) (rest := []) ⟨hx, hb, hml, hown, hts⟩ (c_X9_works l G cI cJ cZ cB cT m0 r h 3 h_27 e_27 H.size) (gG_V m_168 m_169 m_170 m_64 m_167) rfl e_X9_works ⟨Nat.le_of_ble_eq_true rfl, Nat.le_of_ble_eq_true rfl⟩ hK hP hD hE hS hA 0 wM_at0 rfl rfl hl.1 rfl (Nat.le_of_ble_eq_true rfl) dX9_goesOn_188 ⟨Nat.le_refl _, Nat.le_refl _⟩) hP hD hS hA (fun u_27 H locs hw_27 hP hD hS => ?_)
      refine lv_aload_n hx hb dX9_goesOn_191 rfl (lv_at hl 0 rfl) ?_
      refine va_get (D := G) (ci := 9) (v := .ref (r 24)) (C := RX9) (T := TX9) (N := 53) hx hb hts iX9 hown hK hP 0 wM_at0 rfl 24 (by decide) (hts _ m_201) (fun _ h9 => h9) rfl dX9_goesOn_192 ?_
      refine lv_aload_n hx hb dX9_goesOn_195 rfl (lv_at hl 0 rfl) ?_
      refine va_get (D := G) (ci := 9) (v := .int (eI h_27 0 22)) (C := RX9) (T := TX9) (N := 53) hx hb hts iX9 hown hK hP 0 wM_at0 rfl 22 (by decide) (hts _ m_143) (fun _ h9 => h9) rfl dX9_goesOn_196 ?_
      obtain ⟨hi_28, hF⟩ := ob_if hF
      refine va_iald (D := G) hx hb hK hP 13 0 wM_at13 rfl (vp_in_iff.mpr hi_28) dX9_goesOn_199 ?_
      refine gw_topi (y := ((eA h_27 0 24) (((eI h_27 0 22)).toNatClampNeg))) rfl ?_
      refine lv_istore_n (lv' := [(2, .int ((eA h_27 0 24) (((eI h_27 0 22)).toNatClampNeg))), (0, .ref m0), (1, .int x1)]) hx hb dX9_goesOn_200 rfl hl (by decide) rfl (fun ls hl => ?_)
      refine lv_aload_n hx hb dX9_goesOn_201 rfl (lv_at hl 1 rfl) ?_
      refine lv_dup hx hb dX9_goesOn_202 rfl ?_
      refine va_get (D := G) (ci := 9) (v := .int (eI h_27 0 22)) (C := RX9) (T := TX9) (N := 53) hx hb hts iX9 hown hK hP 0 wM_at0 rfl 22 (by decide) (hts _ m_143) (fun _ h9 => h9) rfl dX9_goesOn_203 ?_
      refine lv_iconst (v := 1) hx hb dX9_goesOn_206 (by decide) ?_
      refine lv_isub hx hb dX9_goesOn_207 ?_
      refine va_put (D := G) (ci := 9) (v := .int ((eI h_27 0 22) - 1)) (ty := .int) (C := RX9) (T := TX9) (N := 53) hx hb hts iX9 tyX9 tyX9_ok nmX9 hown hK hP hD hS 0 wM_at0 rfl 22 (by decide) (hts _ m_143) (fun _ h9 => h9) rfl (tyX9_ok 22 (by decide)) rfl rfl (Nat.le_of_ble_eq_true rfl) dX9_goesOn_208 (fun H locs hP hD hS => ?_)
      rw [wM_sI0_22] at hP hD
      refine lv_aload_n hx hb dX9_goesOn_211 rfl (lv_at hl 1 rfl) ?_
      refine lv_iload_n hx hb dX9_goesOn_212 rfl (lv_at hl 0 rfl) ?_
      refine lv_iconst (v := 0) hx hb dX9_goesOn_213 (by decide) ?_
      obtain ⟨h_29, e_29, hF⟩ := ob1_some hF
      refine gx_callv (gx_runV (As := [.int ((eA h_27 0 24) (((eI h_27 0 22)).toNatClampNeg)), .int 0]) (rest := []) ⟨hx, hb, hml, hown, hts⟩ (c_X9_emits l G cI cJ cZ cB cT m0 r (sI h_27 0 22 ((eI h_27 0 22) - 1)) ((eA h_27 0 24) (((eI h_27 0 22)).toNatClampNeg)) 0 h_29 e_29 H.size) (gG_V m_164 m_165 m_166 m_64 m_163) rfl e_X9_emits ⟨Nat.le_of_ble_eq_true rfl, Nat.le_of_ble_eq_true rfl⟩ hK hP hD hE hS hA 0 wM_at0 rfl rfl hl.1 rfl (Nat.le_of_ble_eq_true rfl) dX9_goesOn_214 ⟨Nat.le_refl _, Nat.le_refl _⟩) hP hD hS hA (fun u_29 H locs hw_29 hP hD hS => ?_)
      refine lv_aload_n hx hb dX9_goesOn_217 rfl (lv_at hl 1 rfl) ?_
      obtain ⟨h_30, e_30, hF⟩ := ob1_some hF
      refine gx_callv (gx_runV (As := []) (rest := []) ⟨hx, hb, hml, hown, hts⟩ (c_X9_askIsOver l G cI cJ cZ cB cT m0 r h_29  h_30 e_30 H.size) (gG_V m_207 m_208 m_209 m_64 m_206) rfl e_X9_askIsOver ⟨Nat.le_of_ble_eq_true rfl, Nat.le_of_ble_eq_true rfl⟩ hK hP hD hE hS hA 0 wM_at0 rfl rfl hl.1 rfl (Nat.le_of_ble_eq_true rfl) dX9_goesOn_218 ⟨Nat.le_refl _, Nat.le_refl _⟩) hP hD hS hA (fun u_30 H locs hw_30 hP hD hS => ?_)
      refine lv_goto (tgt := 250) hx hb dX9_goesOn_221 (by decide) ?_
      exact hJ_250 h_30 hF H _ ls hP hD hS (lv_sub hl [] rfl)
  have hJ_116 : ∀ (h : HS) (x1 : Int32), f_X9_goesOn_116 h x1 = some hh → ∀ (H : Heap) (locs : List Loc) (ls : Array Slot), va_P G vwCl (wM m0 r cI cJ cZ cB cT h) H → va_D A (wM m0 r cI cJ cZ cB cT h) → va_S A s.heap H locs → lv_has ls 3 [(0, .ref m0), (1, .int x1)] → W p l e (gRm 5) s m args below meth c H locs 0 0 (MQ below (va_Qv (fun (_ : Unit) => True) (gB G (fun (_ : Unit) => (wM m0 r cI cJ cZ cB cT hh)) A) A) args s 0 0 A) (F0 m 116 ls []) := by
    intro h x1 hF H locs ls hP hD hS hl
    unfold f_X9_goesOn_116 at hF
    refine lv_iload_n hx hb dX9_goesOn_116 rfl (lv_at hl 1 rfl) ?_
    refine lv_iconst (v := 4) hx hb dX9_goesOn_117 (by decide) ?_
    refine lv_icmp_ne (tgt := 181) hx hb dX9_goesOn_118 (by decide) (fun c_14 => ?_) (fun c_14 => ?_)
    · have hF := ob_neg c_14 hF
      exact hJ_181 h x1 hF H _ ls hP hD hS (lv_sub hl [0, 1] rfl)
    · have hF := ob_pos c_14 hF
      refine lv_aload_n hx hb dX9_goesOn_121 rfl (lv_at hl 0 rfl) ?_
      refine va_get (D := G) (ci := 9) (v := .int (eI h 0 17)) (C := RX9) (T := TX9) (N := 53) hx hb hts iX9 hown hK hP 0 wM_at0 rfl 17 (by decide) (hts _ m_131) (fun _ h9 => h9) rfl dX9_goesOn_122 ?_
      refine lv_iconst (v := 3) hx hb dX9_goesOn_125 (by decide) ?_
      refine lv_icmp_ne (tgt := 181) hx hb dX9_goesOn_126 (by decide) (fun c_15 => ?_) (fun c_15 => ?_)
      · have hF := ob_neg c_15 hF
        exact hJ_181 h x1 hF H _ ls hP hD hS (lv_sub hl [0, 1] rfl)
      · have hF := ob_pos c_15 hF
        refine lv_aload_n hx hb dX9_goesOn_129 rfl (lv_at hl 0 rfl) ?_
        refine va_get (D := G) (ci := 9) (v := .int (eI h 0 18)) (C := RX9) (T := TX9) (N := 53) hx hb hts iX9 hown hK hP 0 wM_at0 rfl 18 (by decide) (hts _ m_130) (fun _ h9 => h9) rfl dX9_goesOn_130 ?_
        obtain ⟨r_16, e_16, hF⟩ := ob1_some hF
        refine gx_calli0 (gx_runS0 (As := [.int (eI h 0 18)]) (rest := []) ⟨hx, hb, hml, hown, hts⟩ (c_X9_isAsking l G cI cJ cZ cB cT   (eI h 0 18) r_16 e_16 H.size) (gG_S m_199 m_200 m_64 m_198) rfl e_X9_isAsking ⟨Nat.le_of_ble_eq_true rfl, Nat.le_of_ble_eq_true rfl⟩ hK hE hS hA rfl hl.1 rfl (Nat.le_of_ble_eq_true rfl) dX9_goesOn_133 ⟨Nat.le_refl _, Nat.le_refl _⟩) hP hD hS hA (fun x_16 u_16 H locs hw_16 hP hD hS => ?_)
        subst x_16
        refine lv_if_eq (tgt := 181) hx hb dX9_goesOn_136 (by decide) (fun c_17 => ?_) (fun c_17 => ?_)
        · have hF := ob_pos c_17 hF
          exact hJ_181 h x1 hF H _ ls hP hD hS (lv_sub hl [0, 1] rfl)
        · have hF := ob_neg c_17 hF
          refine lv_aload_n hx hb dX9_goesOn_139 rfl (lv_at hl 0 rfl) ?_
          refine lv_iconst (v := 3) hx hb dX9_goesOn_140 (by decide) ?_
          obtain ⟨h_18, e_18, hF⟩ := ob1_some hF
          refine gx_callv (gx_runV (As := [.int 3]) (rest := []) ⟨hx, hb, hml, hown, hts⟩ (c_X9_works l G cI cJ cZ cB cT m0 r h 3 h_18 e_18 H.size) (gG_V m_168 m_169 m_170 m_64 m_167) rfl e_X9_works ⟨Nat.le_of_ble_eq_true rfl, Nat.le_of_ble_eq_true rfl⟩ hK hP hD hE hS hA 0 wM_at0 rfl rfl hl.1 rfl (Nat.le_of_ble_eq_true rfl) dX9_goesOn_141 ⟨Nat.le_refl _, Nat.le_refl _⟩) hP hD hS hA (fun u_18 H locs hw_18 hP hD hS => ?_)
          refine lv_aload_n hx hb dX9_goesOn_144 rfl (lv_at hl 0 rfl) ?_
          refine va_get (D := G) (ci := 9) (v := .ref (r 24)) (C := RX9) (T := TX9) (N := 53) hx hb hts iX9 hown hK hP 0 wM_at0 rfl 24 (by decide) (hts _ m_201) (fun _ h9 => h9) rfl dX9_goesOn_145 ?_
          refine lv_aload_n hx hb dX9_goesOn_148 rfl (lv_at hl 0 rfl) ?_
          refine va_get (D := G) (ci := 9) (v := .int (eI h_18 0 22)) (C := RX9) (T := TX9) (N := 53) hx hb hts iX9 hown hK hP 0 wM_at0 rfl 22 (by decide) (hts _ m_143) (fun _ h9 => h9) rfl dX9_goesOn_149 ?_
          refine lv_aload_n hx hb dX9_goesOn_152 rfl (lv_at hl 0 rfl) ?_
          refine va_get (D := G) (ci := 9) (v := .int (eI h_18 0 18)) (C := RX9) (T := TX9) (N := 53) hx hb hts iX9 hown hK hP 0 wM_at0 rfl 18 (by decide) (hts _ m_130) (fun _ h9 => h9) rfl dX9_goesOn_153 ?_
          obtain ⟨hi_19, hF⟩ := ob_if hF
          refine va_iast (D := G) hx hb hK hP hD hS 13 0 wM_at13 rfl (vp_in_iff.mpr hi_19) dX9_goesOn_156 (fun H locs hP hD hS => ?_)
          rw [wM_sA13] at hP hD
          have hP : va_P G vwCl (wM m0 r cI cJ cZ cB cT (sA h_18 0 24 (upd (eA h_18 0 24) (((eI h_18 0 22)).toNatClampNeg) (eI h_18 0 18)))) H := hP
          have hD : va_D A (wM m0 r cI cJ cZ cB cT (sA h_18 0 24 (upd (eA h_18 0 24) (((eI h_18 0 22)).toNatClampNeg) (eI h_18 0 18)))) := hD
          refine lv_aload_n hx hb dX9_goesOn_157 rfl (lv_at hl 0 rfl) ?_
          refine va_get (D := G) (ci := 9) (v := .ref (r 23)) (C := RX9) (T := TX9) (N := 53) hx hb hts iX9 hown hK hP 0 wM_at0 rfl 23 (by decide) (hts _ m_142) (fun _ h9 => h9) rfl dX9_goesOn_158 ?_
          refine lv_aload_n hx hb dX9_goesOn_161 rfl (lv_at hl 0 rfl) ?_
          refine va_get (D := G) (ci := 9) (v := .int (eI h_18 0 22)) (C := RX9) (T := TX9) (N := 53) hx hb hts iX9 hown hK hP 0 wM_at0 rfl 22 (by decide) (hts _ m_143) (fun _ h9 => h9) rfl dX9_goesOn_162 ?_
          refine lv_iconst (v := 1) hx hb dX9_goesOn_165 (by decide) ?_
          refine lv_isub hx hb dX9_goesOn_166 ?_
          refine lv_iconst (v := 5) hx hb dX9_goesOn_167 (by decide) ?_
          obtain ⟨hi_20, hF⟩ := ob_if hF
          refine va_iast (D := G) hx hb hK hP hD hS 12 0 wM_at12 rfl (vp_in_iff.mpr hi_20) dX9_goesOn_168 (fun H locs hP hD hS => ?_)
          rw [wM_sA12] at hP hD
          have hP : va_P G vwCl (wM m0 r cI cJ cZ cB cT (sA (sA h_18 0 24 (upd (eA h_18 0 24) (((eI h_18 0 22)).toNatClampNeg) (eI h_18 0 18))) 0 23 (upd (eA h_18 0 23) ((((eI h_18 0 22) - 1)).toNatClampNeg) 5))) H := hP
          have hD : va_D A (wM m0 r cI cJ cZ cB cT (sA (sA h_18 0 24 (upd (eA h_18 0 24) (((eI h_18 0 22)).toNatClampNeg) (eI h_18 0 18))) 0 23 (upd (eA h_18 0 23) ((((eI h_18 0 22) - 1)).toNatClampNeg) 5))) := hD
          refine lv_aload_n hx hb dX9_goesOn_169 rfl (lv_at hl 0 rfl) ?_
          obtain ⟨h_21, e_21, hF⟩ := ob1_some hF
          refine gx_callv (gx_runV (As := []) (rest := []) ⟨hx, hb, hml, hown, hts⟩ (c_X9_next l G cI cJ cZ cB cT m0 r (sA (sA h_18 0 24 (upd (eA h_18 0 24) (((eI h_18 0 22)).toNatClampNeg) (eI h_18 0 18))) 0 23 (upd (eA h_18 0 23) ((((eI h_18 0 22) - 1)).toNatClampNeg) 5))  h_21 e_21 H.size) (gG_V m_150 m_151 m_152 m_64 m_149) rfl e_X9_next ⟨Nat.le_of_ble_eq_true rfl, Nat.le_of_ble_eq_true rfl⟩ hK hP hD hE hS hA 0 wM_at0 rfl rfl hl.1 rfl (Nat.le_of_ble_eq_true rfl) dX9_goesOn_170 ⟨Nat.le_refl _, Nat.le_refl _⟩) hP hD hS hA (fun u_21 H locs hw_21 hP hD hS => ?_)
          refine lv_aload_n hx hb dX9_goesOn_173 rfl (lv_at hl 0 rfl) ?_
          refine lv_iconst (v := 1) hx hb dX9_goesOn_174 (by decide) ?_
          refine va_put (D := G) (ci := 9) (v := .int 1) (ty := .int) (C := RX9) (T := TX9) (N := 53) hx hb hts iX9 tyX9 tyX9_ok nmX9 hown hK hP hD hS 0 wM_at0 rfl 28 (by decide) (hts _ m_175) (fun _ h9 => h9) rfl (tyX9_ok 28 (by decide)) rfl rfl (Nat.le_of_ble_eq_true rfl) dX9_goesOn_175 (fun H locs hP hD hS => ?_)
          rw [wM_sI0_28] at hP hD
          refine lv_goto (tgt := 250) hx hb dX9_goesOn_178 (by decide) ?_
          exact hJ_250 (sI h_21 0 28 1) hF H _ ls hP hD hS (lv_sub hl [] rfl)
  have hJ_65 : ∀ (h : HS) (x1 : Int32), f_X9_goesOn_65 h x1 = some hh → ∀ (H : Heap) (locs : List Loc) (ls : Array Slot), va_P G vwCl (wM m0 r cI cJ cZ cB cT h) H → va_D A (wM m0 r cI cJ cZ cB cT h) → va_S A s.heap H locs → lv_has ls 3 [(0, .ref m0), (1, .int x1)] → W p l e (gRm 5) s m args below meth c H locs 0 0 (MQ below (va_Qv (fun (_ : Unit) => True) (gB G (fun (_ : Unit) => (wM m0 r cI cJ cZ cB cT hh)) A) A) args s 0 0 A) (F0 m 65 ls []) := by
    intro h x1 hF H locs ls hP hD hS hl
    unfold f_X9_goesOn_65 at hF
    refine lv_iload_n hx hb dX9_goesOn_65 rfl (lv_at hl 1 rfl) ?_
    refine lv_bipush (v := 6) hx hb dX9_goesOn_66 (by decide) ?_
    refine lv_icmp_ne (tgt := 116) hx hb dX9_goesOn_68 (by decide) (fun c_7 => ?_) (fun c_7 => ?_)
    · have hF := ob_neg c_7 hF
      exact hJ_116 h x1 hF H _ ls hP hD hS (lv_sub hl [0, 1] rfl)
    · have hF := ob_pos c_7 hF
      refine lv_aload_n hx hb dX9_goesOn_71 rfl (lv_at hl 0 rfl) ?_
      refine lv_bipush (v := 41) hx hb dX9_goesOn_72 (by decide) ?_
      obtain ⟨r_8, h_8, e_8, hF⟩ := ob2_some hF
      refine gx_calli (gx_runV (As := [.int 41]) (rest := []) ⟨hx, hb, hml, hown, hts⟩ (c_X9_isSign l G cI cJ cZ cB cT m0 r h 41 r_8 h_8 e_8 H.size) (gG_V m_190 m_191 m_192 m_64 m_189) rfl e_X9_isSign ⟨Nat.le_of_ble_eq_true rfl, Nat.le_of_ble_eq_true rfl⟩ hK hP hD hE hS hA 0 wM_at0 rfl rfl hl.1 rfl (Nat.le_of_ble_eq_true rfl) dX9_goesOn_74 ⟨Nat.le_refl _, Nat.le_refl _⟩) hP hD hS hA (fun x_8 u_8 H locs hw_8 hP hD hS => ?_)
      subst x_8
      refine lv_if_eq (tgt := 116) hx hb dX9_goesOn_77 (by decide) (fun c_9 => ?_) (fun c_9 => ?_)
      · have hF := ob_pos c_9 hF
        exact hJ_116 h_8 x1 hF H _ ls hP hD hS (lv_sub hl [0, 1] rfl)
      · have hF := ob_neg c_9 hF
        refine lv_aload_n hx hb dX9_goesOn_80 rfl (lv_at hl 0 rfl) ?_
        refine lv_iconst (v := 3) hx hb dX9_goesOn_81 (by decide) ?_
        obtain ⟨h_10, e_10, hF⟩ := ob1_some hF
        refine gx_callv (gx_runV (As := [.int 3]) (rest := []) ⟨hx, hb, hml, hown, hts⟩ (c_X9_works l G cI cJ cZ cB cT m0 r h_8 3 h_10 e_10 H.size) (gG_V m_168 m_169 m_170 m_64 m_167) rfl e_X9_works ⟨Nat.le_of_ble_eq_true rfl, Nat.le_of_ble_eq_true rfl⟩ hK hP hD hE hS hA 0 wM_at0 rfl rfl hl.1 rfl (Nat.le_of_ble_eq_true rfl) dX9_goesOn_82 ⟨Nat.le_refl _, Nat.le_refl _⟩) hP hD hS hA (fun u_10 H locs hw_10 hP hD hS => ?_)
        refine lv_aload_n hx hb dX9_goesOn_85 rfl (lv_at hl 0 rfl) ?_
        refine lv_dup hx hb dX9_goesOn_86 rfl ?_
        refine va_get (D := G) (ci := 9) (v := .int (eI h_10 0 22)) (C := RX9) (T := TX9) (N := 53) hx hb hts iX9 hown hK hP 0 wM_at0 rfl 22 (by decide) (hts _ m_143) (fun _ h9 => h9) rfl dX9_goesOn_87 ?_
        refine lv_iconst (v := 1) hx hb dX9_goesOn_90 (by decide) ?_
        refine lv_isub hx hb dX9_goesOn_91 ?_
        refine va_put (D := G) (ci := 9) (v := .int ((eI h_10 0 22) - 1)) (ty := .int) (C := RX9) (T := TX9) (N := 53) hx hb hts iX9 tyX9 tyX9_ok nmX9 hown hK hP hD hS 0 wM_at0 rfl 22 (by decide) (hts _ m_143) (fun _ h9 => h9) rfl (tyX9_ok 22 (by decide)) rfl rfl (Nat.le_of_ble_eq_true rfl) dX9_goesOn_92 (fun H locs hP hD hS => ?_)
        rw [wM_sI0_22] at hP hD
        refine lv_aload_n hx hb dX9_goesOn_95 rfl (lv_at hl 0 rfl) ?_
        refine lv_dup hx hb dX9_goesOn_96 rfl ?_
        refine va_get (D := G) (ci := 9) (v := .int (eI h_10 0 21)) (C := RX9) (T := TX9) (N := 53) hx hb hts iX9 hown hK hP 0 wM_at0 rfl 21 (by decide) (hts _ m_144) (fun _ h9 => h9) rfl dX9_goesOn_97 ?_
        refine lv_iconst (v := 1) hx hb dX9_goesOn_100 (by decide) ?_
        refine lv_isub hx hb dX9_goesOn_101 ?_
        refine va_put (D := G) (ci := 9) (v := .int ((eI h_10 0 21) - 1)) (ty := .int) (C := RX9) (T := TX9) (N := 53) hx hb hts iX9 tyX9 tyX9_ok nmX9 hown hK hP hD hS 0 wM_at0 rfl 21 (by decide) (hts _ m_144) (fun _ h9 => h9) rfl (tyX9_ok 21 (by decide)) rfl rfl (Nat.le_of_ble_eq_true rfl) dX9_goesOn_102 (fun H locs hP hD hS => ?_)
        rw [wM_sI0_21] at hP hD
        refine lv_aload_n hx hb dX9_goesOn_105 rfl (lv_at hl 0 rfl) ?_
        obtain ⟨h_11, e_11, hF⟩ := ob1_some hF
        refine gx_callv (gx_runV (As := []) (rest := []) ⟨hx, hb, hml, hown, hts⟩ (c_X9_next l G cI cJ cZ cB cT m0 r (sI (sI h_10 0 22 ((eI h_10 0 22) - 1)) 0 21 ((eI h_10 0 21) - 1))  h_11 e_11 H.size) (gG_V m_150 m_151 m_152 m_64 m_149) rfl e_X9_next ⟨Nat.le_of_ble_eq_true rfl, Nat.le_of_ble_eq_true rfl⟩ hK hP hD hE hS hA 0 wM_at0 rfl rfl hl.1 rfl (Nat.le_of_ble_eq_true rfl) dX9_goesOn_106 ⟨Nat.le_refl _, Nat.le_refl _⟩) hP hD hS hA (fun u_11 H locs hw_11 hP hD hS => ?_)
        refine lv_aload_n hx hb dX9_goesOn_109 rfl (lv_at hl 0 rfl) ?_
        obtain ⟨h_12, e_12, hF⟩ := ob1_some hF
        refine gx_callv (gx_runV (As := []) (rest := []) ⟨hx, hb, hml, hown, hts⟩ (c_X9_oneIsOver l G cI cJ cZ cB cT m0 r h_11  h_12 e_12 H.size) (gG_V m_186 m_187 m_188 m_64 m_185) rfl e_X9_oneIsOver ⟨Nat.le_of_ble_eq_true rfl, Nat.le_of_ble_eq_true rfl⟩ hK hP hD hE hS hA 0 wM_at0 rfl rfl hl.1 rfl (Nat.le_of_ble_eq_true rfl) dX9_goesOn_110 ⟨Nat.le_refl _, Nat.le_refl _⟩) hP hD hS hA (fun u_12 H locs hw_12 hP hD hS => ?_)
        refine lv_goto (tgt := 250) hx hb dX9_goesOn_113 (by decide) ?_
        exact hJ_250 h_12 hF H _ ls hP hD hS (lv_sub hl [] rfl)
  have hJ_49 : ∀ (h : HS), f_X9_goesOn_49 h = some hh → ∀ (H : Heap) (locs : List Loc) (ls : Array Slot), va_P G vwCl (wM m0 r cI cJ cZ cB cT h) H → va_D A (wM m0 r cI cJ cZ cB cT h) → va_S A s.heap H locs → lv_has ls 3 [(0, .ref m0)] → W p l e (gRm 5) s m args below meth c H locs 0 0 (MQ below (va_Qv (fun (_ : Unit) => True) (gB G (fun (_ : Unit) => (wM m0 r cI cJ cZ cB cT hh)) A) A) args s 0 0 A) (F0 m 49 ls []) := by
    intro h hF H locs ls hP hD hS hl
    unfold f_X9_goesOn_49 at hF
    refine lv_aload_n hx hb dX9_goesOn_49 rfl (lv_at hl 0 rfl) ?_
    refine lv_aload_n hx hb dX9_goesOn_50 rfl (lv_at hl 0 rfl) ?_
    refine va_get (D := G) (ci := 9) (v := .int (eI h 0 18)) (C := RX9) (T := TX9) (N := 53) hx hb hts iX9 hown hK hP 0 wM_at0 rfl 18 (by decide) (hts _ m_130) (fun _ h9 => h9) rfl dX9_goesOn_51 ?_
    obtain ⟨h_13, e_13, hF⟩ := ob1_some hF
    refine gx_callv (gx_runV (As := [.int (eI h 0 18)]) (rest := []) ⟨hx, hb, hml, hown, hts⟩ (c_X9_waitsFor l G cI cJ cZ cB cT m0 r h (eI h 0 18) h_13 e_13 H.size) (gG_V m_195 m_196 m_197 m_64 m_194) rfl e_X9_waitsFor ⟨Nat.le_of_ble_eq_true rfl, Nat.le_of_ble_eq_true rfl⟩ hK hP hD hE hS hA 0 wM_at0 rfl rfl hl.1 rfl (Nat.le_of_ble_eq_true rfl) dX9_goesOn_54 ⟨Nat.le_refl _, Nat.le_refl _⟩) hP hD hS hA (fun u_13 H locs hw_13 hP hD hS => ?_)
    refine lv_aload_n hx hb dX9_goesOn_57 rfl (lv_at hl 0 rfl) ?_
    refine lv_iconst (v := 1) hx hb dX9_goesOn_58 (by decide) ?_
    refine va_put (D := G) (ci := 9) (v := .int 1) (ty := .int) (C := RX9) (T := TX9) (N := 53) hx hb hts iX9 tyX9 tyX9_ok nmX9 hown hK hP hD hS 0 wM_at0 rfl 28 (by decide) (hts _ m_175) (fun _ h9 => h9) rfl (tyX9_ok 28 (by decide)) rfl rfl (Nat.le_of_ble_eq_true rfl) dX9_goesOn_59 (fun H locs hP hD hS => ?_)
    rw [wM_sI0_28] at hP hD
    refine lv_goto (tgt := 250) hx hb dX9_goesOn_62 (by decide) ?_
    exact hJ_250 (sI h_13 0 28 1) hF H _ ls hP hD hS (lv_sub hl [] rfl)
  unfold f_X9_goesOn at hF
  refine lv_aload_n hx hb dX9_goesOn_0 rfl (lv_at hl 0 rfl) ?_
  obtain ⟨r_1, h_1, e_1, hF⟩ := ob2_some hF
  refine gx_calli (gx_runV (As := []) (rest := []) ⟨hx, hb, hml, hown, hts⟩ (c_X9_top l G cI cJ cZ cB cT m0 r h  r_1 h_1 e_1 H.size) (gG_V m_181 m_182 m_183 m_64 m_180) rfl e_X9_top ⟨Nat.le_of_ble_eq_true rfl, Nat.le_of_ble_eq_true rfl⟩ hK hP hD hE hS hA 0 wM_at0 rfl rfl hl.1 rfl (Nat.le_of_ble_eq_true rfl) dX9_goesOn_1 ⟨Nat.le_refl _, Nat.le_refl _⟩) hP hD hS hA (fun x_1 u_1 H locs hw_1 hP hD hS => ?_)
  subst x_1
  refine lv_istore_n (lv' := [(1, .int r_1), (0, .ref m0)]) hx hb dX9_goesOn_4 rfl hl (by decide) rfl (fun ls hl => ?_)
  refine lv_aload_n hx hb dX9_goesOn_5 rfl (lv_at hl 1 rfl) ?_
  refine va_get (D := G) (ci := 9) (v := .int (eI h_1 0 17)) (C := RX9) (T := TX9) (N := 53) hx hb hts iX9 hown hK hP 0 wM_at0 rfl 17 (by decide) (hts _ m_131) (fun _ h9 => h9) rfl dX9_goesOn_6 ?_
  refine lv_iconst (v := 3) hx hb dX9_goesOn_9 (by decide) ?_
  refine lv_icmp_ne (tgt := 65) hx hb dX9_goesOn_10 (by decide) (fun c_2 => ?_) (fun c_2 => ?_)
  · have hF := ob_neg c_2 hF
    exact hJ_65 h_1 r_1 hF H _ ls hP hD hS (lv_sub hl [1, 0] rfl)
  · have hF := ob_pos c_2 hF
    refine lv_aload_n hx hb dX9_goesOn_13 rfl (lv_at hl 1 rfl) ?_
    refine va_get (D := G) (ci := 9) (v := .int (eI h_1 0 18)) (C := RX9) (T := TX9) (N := 53) hx hb hts iX9 hown hK hP 0 wM_at0 rfl 18 (by decide) (hts _ m_130) (fun _ h9 => h9) rfl dX9_goesOn_14 ?_
    refine lv_bipush (v := 43) hx hb dX9_goesOn_17 (by decide) ?_
    refine lv_icmp_eq (tgt := 49) hx hb dX9_goesOn_19 (by decide) (fun c_3 => ?_) (fun c_3 => ?_)
    · have hF := ob_pos c_3 hF
      exact hJ_49 h_1 hF H _ ls hP hD hS (lv_sub hl [1] rfl)
    · have hF := ob_neg c_3 hF
      refine lv_aload_n hx hb dX9_goesOn_22 rfl (lv_at hl 1 rfl) ?_
      refine va_get (D := G) (ci := 9) (v := .int (eI h_1 0 18)) (C := RX9) (T := TX9) (N := 53) hx hb hts iX9 hown hK hP 0 wM_at0 rfl 18 (by decide) (hts _ m_130) (fun _ h9 => h9) rfl dX9_goesOn_23 ?_
      refine lv_bipush (v := 45) hx hb dX9_goesOn_26 (by decide) ?_
      refine lv_icmp_eq (tgt := 49) hx hb dX9_goesOn_28 (by decide) (fun c_4 => ?_) (fun c_4 => ?_)
      · have hF := ob_pos c_4 hF
        exact hJ_49 h_1 hF H _ ls hP hD hS (lv_sub hl [1] rfl)
      · have hF := ob_neg c_4 hF
        refine lv_aload_n hx hb dX9_goesOn_31 rfl (lv_at hl 1 rfl) ?_
        refine va_get (D := G) (ci := 9) (v := .int (eI h_1 0 18)) (C := RX9) (T := TX9) (N := 53) hx hb hts iX9 hown hK hP 0 wM_at0 rfl 18 (by decide) (hts _ m_130) (fun _ h9 => h9) rfl dX9_goesOn_32 ?_
        refine lv_bipush (v := 42) hx hb dX9_goesOn_35 (by decide) ?_
        refine lv_icmp_eq (tgt := 49) hx hb dX9_goesOn_37 (by decide) (fun c_5 => ?_) (fun c_5 => ?_)
        · have hF := ob_pos c_5 hF
          exact hJ_49 h_1 hF H _ ls hP hD hS (lv_sub hl [1] rfl)
        · have hF := ob_neg c_5 hF
          refine lv_aload_n hx hb dX9_goesOn_40 rfl (lv_at hl 1 rfl) ?_
          refine va_get (D := G) (ci := 9) (v := .int (eI h_1 0 18)) (C := RX9) (T := TX9) (N := 53) hx hb hts iX9 hown hK hP 0 wM_at0 rfl 18 (by decide) (hts _ m_130) (fun _ h9 => h9) rfl dX9_goesOn_41 ?_
          refine lv_bipush (v := 47) hx hb dX9_goesOn_44 (by decide) ?_
          refine lv_icmp_ne (tgt := 65) hx hb dX9_goesOn_46 (by decide) (fun c_6 => ?_) (fun c_6 => ?_)
          · have hF := ob_neg c_6 hF
            exact hJ_65 h_1 r_1 hF H _ ls hP hD hS (lv_sub hl [1, 0] rfl)
          · have hF := ob_pos c_6 hF
            exact hJ_49 h_1 hF H _ ls hP hD hS (lv_sub hl [1] rfl)
def f_X9_asksOn_77 (h : HS) : Option HS := (some h)
def f_X9_asksOn_37 (h : HS) (y0 : Int32) : Option HS := (ob1 (f_X9_waitsFor h y0) (fun h_13 => (f_X9_asksOn_77 (sI h_13 0 28 0))))
def f_X9_asksOn_18 (h : HS) : Option HS := (ob2 (f_X9_isWord h 10) (fun r_10 h_10 => (if r_10 = 0 then (f_X9_asksOn_37 h_10 406) else (f_X9_asksOn_37 h_10 407))))
def f_X9_asksOn_72 (h : HS) : Option HS := (ob1 (f_X9_errs h 1) (fun h_12 => (f_X9_asksOn_77 h_12)))
def f_X9_asksOn (h : HS) : Option HS := (ob2 (f_X9_isWord h 10) (fun r_1 h_1 => (if r_1 = 0 then (ob2 (f_X9_isWord h_1 11) (fun r_3 h_3 => (if r_3 = 0 then (ob2 (f_X9_top h_3) (fun r_5 h_5 => (if r_5 = 2 then (ob2 (f_X9_isSign h_5 59) (fun r_7 h_7 => (if r_7 = 0 then (f_X9_asksOn_72 h_7) else (ob1 (f_X9_clauseIsOver h_7) (fun h_9 => (f_X9_asksOn_77 h_9)))))) else (f_X9_asksOn_72 h_5)))) else (f_X9_asksOn_18 h_3)))) else (f_X9_asksOn_18 h_1))))
set_option maxHeartbeats 4000000 in
set_option maxRecDepth 100000 in
theorem c_X9_asksOn (l : Launch) (G : va_G) (cI cJ cZ cB cT : ClassId) (m0 : Nat) (r : Nat → Nat) (h : HS)  (hh : HS) (hF : f_X9_asksOn h = some hh) : gMv l yX9_asksOn (gws yX9_asksOn cX9_asksOn 1 none) 5 G (gT cI cJ cZ cB cT) [.ref m0] (wM m0 r cI cJ cZ cB cT h) (fun (_ : Unit) => True) (fun (_ : Unit) => (wM m0 r cI cJ cZ cB cT hh)) := by
  intro sz
  refine gM_start (y := yX9_asksOn) (av := [.ref m0]) (ws := (wM m0 r cI cJ cZ cB cT h)) (Qf := fun A => va_Qv (fun (_ : Unit) => True) (gB G (fun (_ : Unit) => (wM m0 r cI cJ cZ cB cT hh)) A) A) (cc := cX9_asksOn) (maxL := 1) (ret := none) (by decide) (Nat.le_of_ble_eq_true rfl) ?_
  intro p e s m args below meth c A ls H hx hb hr hts hown hin hlocks hml hP hK hD hA hS hl hE
  have hl : lv_has ls 1 [(0, .ref m0)] := hl
  have hJ_77 : ∀ (h : HS), f_X9_asksOn_77 h = some hh → ∀ (H : Heap) (locs : List Loc) (ls : Array Slot), va_P G vwCl (wM m0 r cI cJ cZ cB cT h) H → va_D A (wM m0 r cI cJ cZ cB cT h) → va_S A s.heap H locs → lv_has ls 1 [] → W p l e (gRm 5) s m args below meth c H locs 0 0 (MQ below (va_Qv (fun (_ : Unit) => True) (gB G (fun (_ : Unit) => (wM m0 r cI cJ cZ cB cT hh)) A) A) args s 0 0 A) (F0 m 77 ls []) := by
    intro h hF H locs ls hP hD hS hl
    unfold f_X9_asksOn_77 at hF
    obtain rfl := ob_one hF
    exact gw_vret () hx hb hr hlocks hP hD hS trivial dX9_asksOn_77
  have hJ_37 : ∀ (h : HS) (y0 : Int32), f_X9_asksOn_37 h y0 = some hh → ∀ (H : Heap) (locs : List Loc) (ls : Array Slot), va_P G vwCl (wM m0 r cI cJ cZ cB cT h) H → va_D A (wM m0 r cI cJ cZ cB cT h) → va_S A s.heap H locs → lv_has ls 1 [(0, .ref m0)] → W p l e (gRm 5) s m args below meth c H locs 0 0 (MQ below (va_Qv (fun (_ : Unit) => True) (gB G (fun (_ : Unit) => (wM m0 r cI cJ cZ cB cT hh)) A) A) args s 0 0 A) (F0 m 37 ls [.int y0, .ref m0]) := by
    intro h y0 hF H locs ls hP hD hS hl
    unfold f_X9_asksOn_37 at hF
    obtain ⟨h_13, e_13, hF⟩ := ob1_some hF
    refine gx_callv (gx_runV (As := [.int y0]) (rest := []) ⟨hx, hb, hml, hown, hts⟩ (c_X9_waitsFor l G cI cJ cZ cB cT m0 r h y0 h_13 e_13 H.size) (gG_V m_195 m_196 m_197 m_64 m_194) rfl e_X9_waitsFor ⟨Nat.le_of_ble_eq_true rfl, Nat.le_of_ble_eq_true rfl⟩ hK hP hD hE hS hA 0 wM_at0 rfl rfl hl.1 rfl (Nat.le_of_ble_eq_true rfl) dX9_asksOn_37 ⟨Nat.le_refl _, Nat.le_refl _⟩) hP hD hS hA (fun u_13 H locs hw_13 hP hD hS => ?_)
    refine lv_aload_n hx hb dX9_asksOn_40 rfl (lv_at hl 0 rfl) ?_
    refine lv_iconst (v := 0) hx hb dX9_asksOn_41 (by decide) ?_
    refine va_put (D := G) (ci := 9) (v := .int 0) (ty := .int) (C := RX9) (T := TX9) (N := 53) hx hb hts iX9 tyX9 tyX9_ok nmX9 hown hK hP hD hS 0 wM_at0 rfl 28 (by decide) (hts _ m_175) (fun _ h9 => h9) rfl (tyX9_ok 28 (by decide)) rfl rfl (Nat.le_of_ble_eq_true rfl) dX9_asksOn_42 (fun H locs hP hD hS => ?_)
    rw [wM_sI0_28] at hP hD
    refine lv_goto (tgt := 77) hx hb dX9_asksOn_45 (by decide) ?_
    exact hJ_77 (sI h_13 0 28 0) hF H _ ls hP hD hS (lv_sub hl [] rfl)
  have hJ_18 : ∀ (h : HS), f_X9_asksOn_18 h = some hh → ∀ (H : Heap) (locs : List Loc) (ls : Array Slot), va_P G vwCl (wM m0 r cI cJ cZ cB cT h) H → va_D A (wM m0 r cI cJ cZ cB cT h) → va_S A s.heap H locs → lv_has ls 1 [(0, .ref m0)] → W p l e (gRm 5) s m args below meth c H locs 0 0 (MQ below (va_Qv (fun (_ : Unit) => True) (gB G (fun (_ : Unit) => (wM m0 r cI cJ cZ cB cT hh)) A) A) args s 0 0 A) (F0 m 18 ls []) := by
    intro h hF H locs ls hP hD hS hl
    unfold f_X9_asksOn_18 at hF
    refine lv_aload_n hx hb dX9_asksOn_18 rfl (lv_at hl 0 rfl) ?_
    refine lv_aload_n hx hb dX9_asksOn_19 rfl (lv_at hl 0 rfl) ?_
    refine lv_bipush (v := 10) hx hb dX9_asksOn_20 (by decide) ?_
    obtain ⟨r_10, h_10, e_10, hF⟩ := ob2_some hF
    refine gx_calli (gx_runV (As := [.int 10]) (rest := [.ref m0]) ⟨hx, hb, hml, hown, hts⟩ (c_X9_isWord l G cI cJ cZ cB cT m0 r h 10 r_10 h_10 e_10 H.size) (gG_V m_172 m_173 m_174 m_64 m_171) rfl e_X9_isWord ⟨Nat.le_of_ble_eq_true rfl, Nat.le_of_ble_eq_true rfl⟩ hK hP hD hE hS hA 0 wM_at0 rfl rfl hl.1 rfl (Nat.le_of_ble_eq_true rfl) dX9_asksOn_22 ⟨Nat.le_refl _, Nat.le_refl _⟩) hP hD hS hA (fun x_10 u_10 H locs hw_10 hP hD hS => ?_)
    subst x_10
    refine lv_if_eq (tgt := 34) hx hb dX9_asksOn_25 (by decide) (fun c_11 => ?_) (fun c_11 => ?_)
    · have hF := ob_pos c_11 hF
      refine lv_sipush (v := 406) hx hb dX9_asksOn_34 (by decide) ?_
      exact hJ_37 h_10 406 hF H _ ls hP hD hS (lv_sub hl [0] rfl)
    · have hF := ob_neg c_11 hF
      refine lv_sipush (v := 407) hx hb dX9_asksOn_28 (by decide) ?_
      refine lv_goto (tgt := 37) hx hb dX9_asksOn_31 (by decide) ?_
      exact hJ_37 h_10 407 hF H _ ls hP hD hS (lv_sub hl [0] rfl)
  have hJ_72 : ∀ (h : HS), f_X9_asksOn_72 h = some hh → ∀ (H : Heap) (locs : List Loc) (ls : Array Slot), va_P G vwCl (wM m0 r cI cJ cZ cB cT h) H → va_D A (wM m0 r cI cJ cZ cB cT h) → va_S A s.heap H locs → lv_has ls 1 [(0, .ref m0)] → W p l e (gRm 5) s m args below meth c H locs 0 0 (MQ below (va_Qv (fun (_ : Unit) => True) (gB G (fun (_ : Unit) => (wM m0 r cI cJ cZ cB cT hh)) A) A) args s 0 0 A) (F0 m 72 ls []) := by
    intro h hF H locs ls hP hD hS hl
    unfold f_X9_asksOn_72 at hF
    refine lv_aload_n hx hb dX9_asksOn_72 rfl (lv_at hl 0 rfl) ?_
    refine lv_iconst (v := 1) hx hb dX9_asksOn_73 (by decide) ?_
    obtain ⟨h_12, e_12, hF⟩ := ob1_some hF
    refine gx_callv (gx_runV (As := [.int 1]) (rest := []) ⟨hx, hb, hml, hown, hts⟩ (c_X9_errs l G cI cJ cZ cB cT m0 r h 1 h_12 e_12 H.size) (gG_V m_154 m_155 m_156 m_64 m_153) rfl e_X9_errs ⟨Nat.le_of_ble_eq_true rfl, Nat.le_of_ble_eq_true rfl⟩ hK hP hD hE hS hA 0 wM_at0 rfl rfl hl.1 rfl (Nat.le_of_ble_eq_true rfl) dX9_asksOn_74 ⟨Nat.le_refl _, Nat.le_refl _⟩) hP hD hS hA (fun u_12 H locs hw_12 hP hD hS => ?_)
    exact hJ_77 h_12 hF H _ ls hP hD hS (lv_sub hl [] rfl)
  unfold f_X9_asksOn at hF
  refine lv_aload_n hx hb dX9_asksOn_0 rfl (lv_at hl 0 rfl) ?_
  refine lv_bipush (v := 10) hx hb dX9_asksOn_1 (by decide) ?_
  obtain ⟨r_1, h_1, e_1, hF⟩ := ob2_some hF
  refine gx_calli (gx_runV (As := [.int 10]) (rest := []) ⟨hx, hb, hml, hown, hts⟩ (c_X9_isWord l G cI cJ cZ cB cT m0 r h 10 r_1 h_1 e_1 H.size) (gG_V m_172 m_173 m_174 m_64 m_171) rfl e_X9_isWord ⟨Nat.le_of_ble_eq_true rfl, Nat.le_of_ble_eq_true rfl⟩ hK hP hD hE hS hA 0 wM_at0 rfl rfl hl.1 rfl (Nat.le_of_ble_eq_true rfl) dX9_asksOn_3 ⟨Nat.le_refl _, Nat.le_refl _⟩) hP hD hS hA (fun x_1 u_1 H locs hw_1 hP hD hS => ?_)
  subst x_1
  refine lv_if_ne (tgt := 18) hx hb dX9_asksOn_6 (by decide) (fun c_2 => ?_) (fun c_2 => ?_)
  · have hF := ob_neg c_2 hF
    exact hJ_18 h_1 hF H _ ls hP hD hS (lv_sub hl [0] rfl)
  · have hF := ob_pos c_2 hF
    refine lv_aload_n hx hb dX9_asksOn_9 rfl (lv_at hl 0 rfl) ?_
    refine lv_bipush (v := 11) hx hb dX9_asksOn_10 (by decide) ?_
    obtain ⟨r_3, h_3, e_3, hF⟩ := ob2_some hF
    refine gx_calli (gx_runV (As := [.int 11]) (rest := []) ⟨hx, hb, hml, hown, hts⟩ (c_X9_isWord l G cI cJ cZ cB cT m0 r h_1 11 r_3 h_3 e_3 H.size) (gG_V m_172 m_173 m_174 m_64 m_171) rfl e_X9_isWord ⟨Nat.le_of_ble_eq_true rfl, Nat.le_of_ble_eq_true rfl⟩ hK hP hD hE hS hA 0 wM_at0 rfl rfl hl.1 rfl (Nat.le_of_ble_eq_true rfl) dX9_asksOn_12 ⟨Nat.le_refl _, Nat.le_refl _⟩) hP hD hS hA (fun x_3 u_3 H locs hw_3 hP hD hS => ?_)
    subst x_3
    refine lv_if_eq (tgt := 48) hx hb dX9_asksOn_15 (by decide) (fun c_4 => ?_) (fun c_4 => ?_)
    · have hF := ob_pos c_4 hF
      refine lv_aload_n hx hb dX9_asksOn_48 rfl (lv_at hl 0 rfl) ?_
      obtain ⟨r_5, h_5, e_5, hF⟩ := ob2_some hF
      refine gx_calli (gx_runV (As := []) (rest := []) ⟨hx, hb, hml, hown, hts⟩ (c_X9_top l G cI cJ cZ cB cT m0 r h_3  r_5 h_5 e_5 H.size) (gG_V m_181 m_182 m_183 m_64 m_180) rfl e_X9_top ⟨Nat.le_of_ble_eq_true rfl, Nat.le_of_ble_eq_true rfl⟩ hK hP hD hE hS hA 0 wM_at0 rfl rfl hl.1 rfl (Nat.le_of_ble_eq_true rfl) dX9_asksOn_49 ⟨Nat.le_refl _, Nat.le_refl _⟩) hP hD hS hA (fun x_5 u_5 H locs hw_5 hP hD hS => ?_)
      subst x_5
      refine lv_iconst (v := 2) hx hb dX9_asksOn_52 (by decide) ?_
      refine lv_icmp_ne (tgt := 72) hx hb dX9_asksOn_53 (by decide) (fun c_6 => ?_) (fun c_6 => ?_)
      · have hF := ob_neg c_6 hF
        exact hJ_72 h_5 hF H _ ls hP hD hS (lv_sub hl [0] rfl)
      · have hF := ob_pos c_6 hF
        refine lv_aload_n hx hb dX9_asksOn_56 rfl (lv_at hl 0 rfl) ?_
        refine lv_bipush (v := 59) hx hb dX9_asksOn_57 (by decide) ?_
        obtain ⟨r_7, h_7, e_7, hF⟩ := ob2_some hF
        refine gx_calli (gx_runV (As := [.int 59]) (rest := []) ⟨hx, hb, hml, hown, hts⟩ (c_X9_isSign l G cI cJ cZ cB cT m0 r h_5 59 r_7 h_7 e_7 H.size) (gG_V m_190 m_191 m_192 m_64 m_189) rfl e_X9_isSign ⟨Nat.le_of_ble_eq_true rfl, Nat.le_of_ble_eq_true rfl⟩ hK hP hD hE hS hA 0 wM_at0 rfl rfl hl.1 rfl (Nat.le_of_ble_eq_true rfl) dX9_asksOn_59 ⟨Nat.le_refl _, Nat.le_refl _⟩) hP hD hS hA (fun x_7 u_7 H locs hw_7 hP hD hS => ?_)
        subst x_7
        refine lv_if_eq (tgt := 72) hx hb dX9_asksOn_62 (by decide) (fun c_8 => ?_) (fun c_8 => ?_)
        · have hF := ob_pos c_8 hF
          exact hJ_72 h_7 hF H _ ls hP hD hS (lv_sub hl [0] rfl)
        · have hF := ob_neg c_8 hF
          refine lv_aload_n hx hb dX9_asksOn_65 rfl (lv_at hl 0 rfl) ?_
          obtain ⟨h_9, e_9, hF⟩ := ob1_some hF
          refine gx_callv (gx_runV (As := []) (rest := []) ⟨hx, hb, hml, hown, hts⟩ (c_X9_clauseIsOver l G cI cJ cZ cB cT m0 r h_7  h_9 e_9 H.size) (gG_V m_203 m_204 m_205 m_64 m_202) rfl e_X9_clauseIsOver ⟨Nat.le_of_ble_eq_true rfl, Nat.le_of_ble_eq_true rfl⟩ hK hP hD hE hS hA 0 wM_at0 rfl rfl hl.1 rfl (Nat.le_of_ble_eq_true rfl) dX9_asksOn_66 ⟨Nat.le_refl _, Nat.le_refl _⟩) hP hD hS hA (fun u_9 H locs hw_9 hP hD hS => ?_)
          refine lv_goto (tgt := 77) hx hb dX9_asksOn_69 (by decide) ?_
          exact hJ_77 h_9 hF H _ ls hP hD hS (lv_sub hl [] rfl)
    · have hF := ob_neg c_4 hF
      exact hJ_18 h_3 hF H _ ls hP hD hS (lv_sub hl [0] rfl)
def f_X9_number_15 (h : HS) (x1 : Int32) : Option (Int32 × HS) := (ob1 (f_X9_errs h 1) (fun h_7 => (some (x1, h_7))))
def f_X9_number (h : HS) (p1 : Int32) (p2 : Int32) : Option (Int32 × HS) := (if 0 < (eI h 0 19) then (f_X9_number_15 h p1) else (if (eI h 0 17) = 2 then (ob1 (f_X9_in (eI h 0 18) p1 p2) (fun r_3 => (if r_3 = 0 then (ob1 (f_X9_errs h 2) (fun h_6 => (some (p1, h_6)))) else (ob1 (f_X9_next h) (fun h_5 => (some ((eI h 0 18), h_5))))))) else (f_X9_number_15 h p1)))
set_option maxHeartbeats 4000000 in
set_option maxRecDepth 100000 in
theorem c_X9_number (l : Launch) (G : va_G) (cI cJ cZ cB cT : ClassId) (m0 : Nat) (r : Nat → Nat) (h : HS) (p1 : Int32) (p2 : Int32) (rr : Int32) (hh : HS) (hF : f_X9_number h p1 p2 = some (rr, hh)) : gMi l yX9_number (gws yX9_number cX9_number 4 (some .int)) 4 G (gT cI cJ cZ cB cT) [.ref m0, .int p1, .int p2] (wM m0 r cI cJ cZ cB cT h) (fun x (_ : Unit) => x = rr) (fun (_ : Unit) => (wM m0 r cI cJ cZ cB cT hh)) := by
  intro sz
  refine gM_start (y := yX9_number) (av := [.ref m0, .int p1, .int p2]) (ws := (wM m0 r cI cJ cZ cB cT h)) (Qf := fun A => va_Qi (fun x (_ : Unit) => x = rr) (gB G (fun (_ : Unit) => (wM m0 r cI cJ cZ cB cT hh)) A) A) (cc := cX9_number) (maxL := 4) (ret := (some .int)) (by decide) (Nat.le_of_ble_eq_true rfl) ?_
  intro p e s m args below meth c A ls H hx hb hr hts hown hin hlocks hml hP hK hD hA hS hl hE
  have hl : lv_has ls 4 [(0, .ref m0), (1, .int p1), (2, .int p2)] := hl
  have hJ_15 : ∀ (h : HS) (x1 : Int32), f_X9_number_15 h x1 = some (rr, hh) → ∀ (H : Heap) (locs : List Loc) (ls : Array Slot), va_P G vwCl (wM m0 r cI cJ cZ cB cT h) H → va_D A (wM m0 r cI cJ cZ cB cT h) → va_S A s.heap H locs → lv_has ls 4 [(0, .ref m0), (1, .int x1)] → W p l e (gRm 4) s m args below meth c H locs 0 0 (MQ below (va_Qi (fun x (_ : Unit) => x = rr) (gB G (fun (_ : Unit) => (wM m0 r cI cJ cZ cB cT hh)) A) A) args s 0 0 A) (F0 m 15 ls []) := by
    intro h x1 hF H locs ls hP hD hS hl
    unfold f_X9_number_15 at hF
    refine lv_aload_n hx hb dX9_number_15 rfl (lv_at hl 0 rfl) ?_
    refine lv_iconst (v := 1) hx hb dX9_number_16 (by decide) ?_
    obtain ⟨h_7, e_7, hF⟩ := ob1_some hF
    refine gx_callv (gx_runV (As := [.int 1]) (rest := []) ⟨hx, hb, hml, hown, hts⟩ (c_X9_errs l G cI cJ cZ cB cT m0 r h 1 h_7 e_7 H.size) (gG_V m_154 m_155 m_156 m_64 m_153) rfl e_X9_errs ⟨Nat.le_of_ble_eq_true rfl, Nat.le_of_ble_eq_true rfl⟩ hK hP hD hE hS hA 0 wM_at0 rfl rfl hl.1 rfl (Nat.le_of_ble_eq_true rfl) dX9_number_17 ⟨Nat.le_refl _, Nat.le_refl _⟩) hP hD hS hA (fun u_7 H locs hw_7 hP hD hS => ?_)
    refine lv_iload_n hx hb dX9_number_20 rfl (lv_at hl 1 rfl) ?_
    obtain ⟨rfl, rfl⟩ := ob_pair hF
    exact gw_iret () hx hb hr hlocks hP hD hS rfl dX9_number_21
  unfold f_X9_number at hF
  refine lv_aload_n hx hb dX9_number_0 rfl (lv_at hl 0 rfl) ?_
  refine va_get (D := G) (ci := 9) (v := .int (eI h 0 19)) (C := RX9) (T := TX9) (N := 53) hx hb hts iX9 hown hK hP 0 wM_at0 rfl 19 (by decide) (hts _ m_137) (fun _ h9 => h9) rfl dX9_number_1 ?_
  refine lv_if_gt (tgt := 15) hx hb dX9_number_4 (by decide) (fun c_1 => ?_) (fun c_1 => ?_)
  · have hF := ob_pos c_1 hF
    exact hJ_15 h p1 hF H _ ls hP hD hS (lv_sub hl [0, 1] rfl)
  · have hF := ob_neg c_1 hF
    refine lv_aload_n hx hb dX9_number_7 rfl (lv_at hl 0 rfl) ?_
    refine va_get (D := G) (ci := 9) (v := .int (eI h 0 17)) (C := RX9) (T := TX9) (N := 53) hx hb hts iX9 hown hK hP 0 wM_at0 rfl 17 (by decide) (hts _ m_131) (fun _ h9 => h9) rfl dX9_number_8 ?_
    refine lv_iconst (v := 2) hx hb dX9_number_11 (by decide) ?_
    refine lv_icmp_eq (tgt := 22) hx hb dX9_number_12 (by decide) (fun c_2 => ?_) (fun c_2 => ?_)
    · have hF := ob_pos c_2 hF
      refine lv_aload_n hx hb dX9_number_22 rfl (lv_at hl 0 rfl) ?_
      refine va_get (D := G) (ci := 9) (v := .int (eI h 0 18)) (C := RX9) (T := TX9) (N := 53) hx hb hts iX9 hown hK hP 0 wM_at0 rfl 18 (by decide) (hts _ m_130) (fun _ h9 => h9) rfl dX9_number_23 ?_
      refine lv_iload_n hx hb dX9_number_26 rfl (lv_at hl 1 rfl) ?_
      refine lv_iload_n hx hb dX9_number_27 rfl (lv_at hl 2 rfl) ?_
      obtain ⟨r_3, e_3, hF⟩ := ob1_some hF
      refine gx_calli0 (gx_runS0 (As := [.int (eI h 0 18), .int p1, .int p2]) (rest := []) ⟨hx, hb, hml, hown, hts⟩ (c_X9_in l G cI cJ cZ cB cT   (eI h 0 18) p1 p2 r_3 e_3 H.size) (gG_S m_62 m_63 m_64 m_61) rfl e_X9_in ⟨Nat.le_of_ble_eq_true rfl, Nat.le_of_ble_eq_true rfl⟩ hK hE hS hA rfl hl.1 rfl (Nat.le_of_ble_eq_true rfl) dX9_number_28 ⟨Nat.le_refl _, Nat.le_refl _⟩) hP hD hS hA (fun x_3 u_3 H locs hw_3 hP hD hS => ?_)
      subst x_3
      refine lv_if_ne (tgt := 41) hx hb dX9_number_31 (by decide) (fun c_4 => ?_) (fun c_4 => ?_)
      · have hF := ob_neg c_4 hF
        refine lv_aload_n hx hb dX9_number_41 rfl (lv_at hl 0 rfl) ?_
        refine va_get (D := G) (ci := 9) (v := .int (eI h 0 18)) (C := RX9) (T := TX9) (N := 53) hx hb hts iX9 hown hK hP 0 wM_at0 rfl 18 (by decide) (hts _ m_130) (fun _ h9 => h9) rfl dX9_number_42 ?_
        refine lv_istore_n (lv' := [(3, .int (eI h 0 18)), (0, .ref m0), (1, .int p1), (2, .int p2)]) hx hb dX9_number_45 rfl hl (by decide) rfl (fun ls hl => ?_)
        refine lv_aload_n hx hb dX9_number_46 rfl (lv_at hl 1 rfl) ?_
        obtain ⟨h_5, e_5, hF⟩ := ob1_some hF
        refine gx_callv (gx_runV (As := []) (rest := []) ⟨hx, hb, hml, hown, hts⟩ (c_X9_next l G cI cJ cZ cB cT m0 r h  h_5 e_5 H.size) (gG_V m_150 m_151 m_152 m_64 m_149) rfl e_X9_next ⟨Nat.le_of_ble_eq_true rfl, Nat.le_of_ble_eq_true rfl⟩ hK hP hD hE hS hA 0 wM_at0 rfl rfl hl.1 rfl (Nat.le_of_ble_eq_true rfl) dX9_number_47 ⟨Nat.le_refl _, Nat.le_refl _⟩) hP hD hS hA (fun u_5 H locs hw_5 hP hD hS => ?_)
        refine lv_iload_n hx hb dX9_number_50 rfl (lv_at hl 0 rfl) ?_
        obtain ⟨rfl, rfl⟩ := ob_pair hF
        exact gw_iret () hx hb hr hlocks hP hD hS rfl dX9_number_51
      · have hF := ob_pos c_4 hF
        refine lv_aload_n hx hb dX9_number_34 rfl (lv_at hl 0 rfl) ?_
        refine lv_iconst (v := 2) hx hb dX9_number_35 (by decide) ?_
        obtain ⟨h_6, e_6, hF⟩ := ob1_some hF
        refine gx_callv (gx_runV (As := [.int 2]) (rest := []) ⟨hx, hb, hml, hown, hts⟩ (c_X9_errs l G cI cJ cZ cB cT m0 r h 2 h_6 e_6 H.size) (gG_V m_154 m_155 m_156 m_64 m_153) rfl e_X9_errs ⟨Nat.le_of_ble_eq_true rfl, Nat.le_of_ble_eq_true rfl⟩ hK hP hD hE hS hA 0 wM_at0 rfl rfl hl.1 rfl (Nat.le_of_ble_eq_true rfl) dX9_number_36 ⟨Nat.le_refl _, Nat.le_refl _⟩) hP hD hS hA (fun u_6 H locs hw_6 hP hD hS => ?_)
        refine lv_iload_n hx hb dX9_number_39 rfl (lv_at hl 1 rfl) ?_
        obtain ⟨rfl, rfl⟩ := ob_pair hF
        exact gw_iret () hx hb hr hlocks hP hD hS rfl dX9_number_40
    · have hF := ob_neg c_2 hF
      exact hJ_15 h p1 hF H _ ls hP hD hS (lv_sub hl [0, 1] rfl)
def f_X9_wasTold_31 (k4 : HS → Int32 → Int32 → Int32 → Option (Int32 × HS)) (h : HS) (x1 : Int32) (x3 : Int32) (y0 : Int32) : Option (Int32 × HS) := (k4 h x1 y0 (x3 + 1))
def f_X9_wasTold_26 (k4 : HS → Int32 → Int32 → Int32 → Option (Int32 × HS)) (h : HS) (x1 : Int32) (x3 : Int32) : Option (Int32 × HS) := (f_X9_wasTold_31 k4 h x1 x3 1)
def f_X9_wasTold_4 : Nat → HS → Int32 → Int32 → Int32 → Option (Int32 × HS)
  | 0, _, _, _, _ => none
  | n + 1, h, x1, x2, x3 => (if (eI h 0 29) ≤ x3 then (if x2 = 0 ∨ x2 = 1 then (some (x2, h)) else none) else (if x2 = 0 then (if 0 ≤ (x3).toInt ∧ (x3).toInt < 24 then (if ((eA h 0 31) ((x3).toNatClampNeg)) = x1 then (f_X9_wasTold_26 (f_X9_wasTold_4 n) h x1 x3) else (f_X9_wasTold_31 (f_X9_wasTold_4 n) h x1 x3 0)) else none) else (f_X9_wasTold_26 (f_X9_wasTold_4 n) h x1 x3)))
theorem f_X9_wasTold_4_s (n : Nat) (h : HS) (x1 : Int32) (x2 : Int32) (x3 : Int32) : f_X9_wasTold_4 (n + 1) h x1 x2 x3 = (if (eI h 0 29) ≤ x3 then (if x2 = 0 ∨ x2 = 1 then (some (x2, h)) else none) else (if x2 = 0 then (if 0 ≤ (x3).toInt ∧ (x3).toInt < 24 then (if ((eA h 0 31) ((x3).toNatClampNeg)) = x1 then (f_X9_wasTold_26 (f_X9_wasTold_4 n) h x1 x3) else (f_X9_wasTold_31 (f_X9_wasTold_4 n) h x1 x3 0)) else none) else (f_X9_wasTold_26 (f_X9_wasTold_4 n) h x1 x3))) := rfl
def f_X9_wasTold (h : HS) (p1 : Int32) : Option (Int32 × HS) := (f_X9_wasTold_4 8589934592 h p1 0 0)
set_option maxHeartbeats 4000000 in
set_option maxRecDepth 100000 in
theorem c_X9_wasTold (l : Launch) (G : va_G) (cI cJ cZ cB cT : ClassId) (m0 : Nat) (r : Nat → Nat) (h : HS) (p1 : Int32) (rr : Int32) (hh : HS) (hF : f_X9_wasTold h p1 = some (rr, hh)) : gMi l yX9_wasTold (gws yX9_wasTold cX9_wasTold 4 (some .boolean)) 1 G (gT cI cJ cZ cB cT) [.ref m0, .int p1] (wM m0 r cI cJ cZ cB cT h) (fun x (_ : Unit) => x = rr) (fun (_ : Unit) => (wM m0 r cI cJ cZ cB cT hh)) := by
  intro sz
  refine gM_start (y := yX9_wasTold) (av := [.ref m0, .int p1]) (ws := (wM m0 r cI cJ cZ cB cT h)) (Qf := fun A => va_Qi (fun x (_ : Unit) => x = rr) (gB G (fun (_ : Unit) => (wM m0 r cI cJ cZ cB cT hh)) A) A) (cc := cX9_wasTold) (maxL := 4) (ret := (some .boolean)) (by decide) (Nat.le_of_ble_eq_true rfl) ?_
  intro p e s m args below meth c A ls H hx hb hr hts hown hin hlocks hml hP hK hD hA hS hl hE
  have hl : lv_has ls 4 [(0, .ref m0), (1, .int p1)] := hl
  have hJ_4 : ∀ (n_4 : Nat) (h : HS) (x1 : Int32) (x2 : Int32) (x3 : Int32), f_X9_wasTold_4 n_4 h x1 x2 x3 = some (rr, hh) → ∀ (H : Heap) (locs : List Loc) (ls : Array Slot), va_P G vwCl (wM m0 r cI cJ cZ cB cT h) H → va_D A (wM m0 r cI cJ cZ cB cT h) → va_S A s.heap H locs → lv_has ls 4 [(0, .ref m0), (1, .int x1), (2, .int x2), (3, .int x3)] → W p l e (gRm 1) s m args below meth c H locs 0 0 (MQ below (va_Qi (fun x (_ : Unit) => x = rr) (gB G (fun (_ : Unit) => (wM m0 r cI cJ cZ cB cT hh)) A) A) args s 0 0 A) (F0 m 4 ls []) := by
    intro n_4
    induction n_4 with
    | zero =>
      intro h x1 x2 x3 hF
      exact absurd hF (by simp [f_X9_wasTold_4])
    | succ n_4 ih_4 =>
      have hJ_31 : ∀ (h : HS) (x1 : Int32) (x3 : Int32) (y0 : Int32), f_X9_wasTold_31 (f_X9_wasTold_4 n_4) h x1 x3 y0 = some (rr, hh) → ∀ (H : Heap) (locs : List Loc) (ls : Array Slot), va_P G vwCl (wM m0 r cI cJ cZ cB cT h) H → va_D A (wM m0 r cI cJ cZ cB cT h) → va_S A s.heap H locs → lv_has ls 4 [(0, .ref m0), (1, .int x1), (3, .int x3)] → W p l e (gRm 1) s m args below meth c H locs 0 0 (MQ below (va_Qi (fun x (_ : Unit) => x = rr) (gB G (fun (_ : Unit) => (wM m0 r cI cJ cZ cB cT hh)) A) A) args s 0 0 A) (F0 m 31 ls [.int y0]) := by
        intro h x1 x3 y0 hF H locs ls hP hD hS hl
        unfold f_X9_wasTold_31 at hF
        refine lv_istore_n (lv' := [(2, .int y0), (0, .ref m0), (1, .int x1), (3, .int x3)]) hx hb dX9_wasTold_31 rfl hl (by decide) rfl (fun ls hl => ?_)
        refine lv_iinc (v := (x3 + 1)) (lv' := [(3, .int (x3 + 1)), (2, .int y0), (0, .ref m0), (1, .int x1)]) hx hb dX9_wasTold_32 hl (k := 3) rfl rfl (by decide) rfl (fun ls hl => ?_)
        refine lv_goto (tgt := 4) hx hb dX9_wasTold_35 (by decide) ?_
        exact ih_4 h x1 y0 (x3 + 1) hF H _ ls hP hD hS (lv_sub hl [2, 3, 1, 0] rfl)
      have hJ_26 : ∀ (h : HS) (x1 : Int32) (x3 : Int32), f_X9_wasTold_26 (f_X9_wasTold_4 n_4) h x1 x3 = some (rr, hh) → ∀ (H : Heap) (locs : List Loc) (ls : Array Slot), va_P G vwCl (wM m0 r cI cJ cZ cB cT h) H → va_D A (wM m0 r cI cJ cZ cB cT h) → va_S A s.heap H locs → lv_has ls 4 [(0, .ref m0), (1, .int x1), (3, .int x3)] → W p l e (gRm 1) s m args below meth c H locs 0 0 (MQ below (va_Qi (fun x (_ : Unit) => x = rr) (gB G (fun (_ : Unit) => (wM m0 r cI cJ cZ cB cT hh)) A) A) args s 0 0 A) (F0 m 26 ls []) := by
        intro h x1 x3 hF H locs ls hP hD hS hl
        unfold f_X9_wasTold_26 at hF
        refine lv_iconst (v := 1) hx hb dX9_wasTold_26 (by decide) ?_
        refine lv_goto (tgt := 31) hx hb dX9_wasTold_27 (by decide) ?_
        exact hJ_31 h x1 x3 1 hF H _ ls hP hD hS (lv_sub hl [0, 1, 2] rfl)
      intro h x1 x2 x3 hF H locs ls hP hD hS hl
      rw [f_X9_wasTold_4_s] at hF
      refine lv_iload_n hx hb dX9_wasTold_4 rfl (lv_at hl 3 rfl) ?_
      refine lv_aload_n hx hb dX9_wasTold_5 rfl (lv_at hl 0 rfl) ?_
      refine va_get (D := G) (ci := 9) (v := .int (eI h 0 29)) (C := RX9) (T := TX9) (N := 53) hx hb hts iX9 hown hK hP 0 wM_at0 rfl 29 (by decide) (hts _ m_193) (fun _ h9 => h9) rfl dX9_wasTold_6 ?_
      refine lv_icmp_ge (tgt := 38) hx hb dX9_wasTold_9 (by decide) (fun c_1 => ?_) (fun c_1 => ?_)
      · have hF := ob_pos c_1 hF
        refine lv_iload_n hx hb dX9_wasTold_38 rfl (lv_at hl 2 rfl) ?_
        obtain ⟨hz_2, hF⟩ := ob_if hF
        obtain ⟨rfl, rfl⟩ := ob_pair hF
        exact gw_zret () hx hb hr hlocks (gz hz_2) hP hD hS rfl dX9_wasTold_39
      · have hF := ob_neg c_1 hF
        refine lv_iload_n hx hb dX9_wasTold_12 rfl (lv_at hl 2 rfl) ?_
        refine lv_if_ne (tgt := 26) hx hb dX9_wasTold_13 (by decide) (fun c_3 => ?_) (fun c_3 => ?_)
        · have hF := ob_neg c_3 hF
          exact hJ_26 h x1 x3 hF H _ ls hP hD hS (lv_sub hl [0, 1, 3] rfl)
        · have hF := ob_pos c_3 hF
          refine lv_aload_n hx hb dX9_wasTold_16 rfl (lv_at hl 0 rfl) ?_
          refine va_get (D := G) (ci := 9) (v := .ref (r 31)) (C := RX9) (T := TX9) (N := 53) hx hb hts iX9 hown hK hP 0 wM_at0 rfl 31 (by decide) (hts _ m_210) (fun _ h9 => h9) rfl dX9_wasTold_17 ?_
          refine lv_iload_n hx hb dX9_wasTold_20 rfl (lv_at hl 3 rfl) ?_
          obtain ⟨hi_4, hF⟩ := ob_if hF
          refine va_iald (D := G) hx hb hK hP 16 0 wM_at16 rfl (vp_in_iff.mpr hi_4) dX9_wasTold_21 ?_
          refine gw_topi (y := ((eA h 0 31) ((x3).toNatClampNeg))) rfl ?_
          refine lv_iload_n hx hb dX9_wasTold_22 rfl (lv_at hl 1 rfl) ?_
          refine lv_icmp_ne (tgt := 30) hx hb dX9_wasTold_23 (by decide) (fun c_5 => ?_) (fun c_5 => ?_)
          · have hF := ob_neg c_5 hF
            refine lv_iconst (v := 0) hx hb dX9_wasTold_30 (by decide) ?_
            exact hJ_31 h x1 x3 0 hF H _ ls hP hD hS (lv_sub hl [0, 1, 3] rfl)
          · have hF := ob_pos c_5 hF
            exact hJ_26 h x1 x3 hF H _ ls hP hD hS (lv_sub hl [0, 1, 3] rfl)
  unfold f_X9_wasTold at hF
  refine lv_iconst (v := 0) hx hb dX9_wasTold_0 (by decide) ?_
  refine lv_istore_n (lv' := [(2, .int 0), (0, .ref m0), (1, .int p1)]) hx hb dX9_wasTold_1 rfl hl (by decide) rfl (fun ls hl => ?_)
  refine lv_iconst (v := 0) hx hb dX9_wasTold_2 (by decide) ?_
  refine lv_istore_n (lv' := [(3, .int 0), (2, .int 0), (0, .ref m0), (1, .int p1)]) hx hb dX9_wasTold_3 rfl hl (by decide) rfl (fun ls hl => ?_)
  exact hJ_4 8589934592 h p1 0 0 hF H _ ls hP hD hS (lv_sub hl [2, 3, 1, 0] rfl)
def f_X9_wants_31 (h : HS) : Option HS := (some h)
def f_X9_wants_20 (h : HS) : Option HS := (if (eI h 0 19) = 0 then (ob1 (f_X9_next h) (fun h_6 => (f_X9_wants_31 h_6))) else (f_X9_wants_31 h))
def f_X9_wants (h : HS) (p1 : Int32) : Option HS := (if (eI h 0 19) = 0 then (ob2 (f_X9_isWord h p1) (fun r_2 h_2 => (if r_2 = 0 then (ob1 (f_X9_errs h_2 1) (fun h_4 => (f_X9_wants_20 h_4))) else (f_X9_wants_20 h_2)))) else (f_X9_wants_20 h))
set_option maxHeartbeats 4000000 in
set_option maxRecDepth 100000 in
theorem c_X9_wants (l : Launch) (G : va_G) (cI cJ cZ cB cT : ClassId) (m0 : Nat) (r : Nat → Nat) (h : HS) (p1 : Int32) (hh : HS) (hF : f_X9_wants h p1 = some hh) : gMv l yX9_wants (gws yX9_wants cX9_wants 2 none) 4 G (gT cI cJ cZ cB cT) [.ref m0, .int p1] (wM m0 r cI cJ cZ cB cT h) (fun (_ : Unit) => True) (fun (_ : Unit) => (wM m0 r cI cJ cZ cB cT hh)) := by
  intro sz
  refine gM_start (y := yX9_wants) (av := [.ref m0, .int p1]) (ws := (wM m0 r cI cJ cZ cB cT h)) (Qf := fun A => va_Qv (fun (_ : Unit) => True) (gB G (fun (_ : Unit) => (wM m0 r cI cJ cZ cB cT hh)) A) A) (cc := cX9_wants) (maxL := 2) (ret := none) (by decide) (Nat.le_of_ble_eq_true rfl) ?_
  intro p e s m args below meth c A ls H hx hb hr hts hown hin hlocks hml hP hK hD hA hS hl hE
  have hl : lv_has ls 2 [(0, .ref m0), (1, .int p1)] := hl
  have hJ_31 : ∀ (h : HS), f_X9_wants_31 h = some hh → ∀ (H : Heap) (locs : List Loc) (ls : Array Slot), va_P G vwCl (wM m0 r cI cJ cZ cB cT h) H → va_D A (wM m0 r cI cJ cZ cB cT h) → va_S A s.heap H locs → lv_has ls 2 [] → W p l e (gRm 4) s m args below meth c H locs 0 0 (MQ below (va_Qv (fun (_ : Unit) => True) (gB G (fun (_ : Unit) => (wM m0 r cI cJ cZ cB cT hh)) A) A) args s 0 0 A) (F0 m 31 ls []) := by
    intro h hF H locs ls hP hD hS hl
    unfold f_X9_wants_31 at hF
    obtain rfl := ob_one hF
    exact gw_vret () hx hb hr hlocks hP hD hS trivial dX9_wants_31
  have hJ_20 : ∀ (h : HS), f_X9_wants_20 h = some hh → ∀ (H : Heap) (locs : List Loc) (ls : Array Slot), va_P G vwCl (wM m0 r cI cJ cZ cB cT h) H → va_D A (wM m0 r cI cJ cZ cB cT h) → va_S A s.heap H locs → lv_has ls 2 [(0, .ref m0)] → W p l e (gRm 4) s m args below meth c H locs 0 0 (MQ below (va_Qv (fun (_ : Unit) => True) (gB G (fun (_ : Unit) => (wM m0 r cI cJ cZ cB cT hh)) A) A) args s 0 0 A) (F0 m 20 ls []) := by
    intro h hF H locs ls hP hD hS hl
    unfold f_X9_wants_20 at hF
    refine lv_aload_n hx hb dX9_wants_20 rfl (lv_at hl 0 rfl) ?_
    refine va_get (D := G) (ci := 9) (v := .int (eI h 0 19)) (C := RX9) (T := TX9) (N := 53) hx hb hts iX9 hown hK hP 0 wM_at0 rfl 19 (by decide) (hts _ m_137) (fun _ h9 => h9) rfl dX9_wants_21 ?_
    refine lv_if_ne (tgt := 31) hx hb dX9_wants_24 (by decide) (fun c_5 => ?_) (fun c_5 => ?_)
    · have hF := ob_neg c_5 hF
      exact hJ_31 h hF H _ ls hP hD hS (lv_sub hl [] rfl)
    · have hF := ob_pos c_5 hF
      refine lv_aload_n hx hb dX9_wants_27 rfl (lv_at hl 0 rfl) ?_
      obtain ⟨h_6, e_6, hF⟩ := ob1_some hF
      refine gx_callv (gx_runV (As := []) (rest := []) ⟨hx, hb, hml, hown, hts⟩ (c_X9_next l G cI cJ cZ cB cT m0 r h  h_6 e_6 H.size) (gG_V m_150 m_151 m_152 m_64 m_149) rfl e_X9_next ⟨Nat.le_of_ble_eq_true rfl, Nat.le_of_ble_eq_true rfl⟩ hK hP hD hE hS hA 0 wM_at0 rfl rfl hl.1 rfl (Nat.le_of_ble_eq_true rfl) dX9_wants_28 ⟨Nat.le_refl _, Nat.le_refl _⟩) hP hD hS hA (fun u_6 H locs hw_6 hP hD hS => ?_)
      exact hJ_31 h_6 hF H _ ls hP hD hS (lv_sub hl [] rfl)
  unfold f_X9_wants at hF
  refine lv_aload_n hx hb dX9_wants_0 rfl (lv_at hl 0 rfl) ?_
  refine va_get (D := G) (ci := 9) (v := .int (eI h 0 19)) (C := RX9) (T := TX9) (N := 53) hx hb hts iX9 hown hK hP 0 wM_at0 rfl 19 (by decide) (hts _ m_137) (fun _ h9 => h9) rfl dX9_wants_1 ?_
  refine lv_if_ne (tgt := 20) hx hb dX9_wants_4 (by decide) (fun c_1 => ?_) (fun c_1 => ?_)
  · have hF := ob_neg c_1 hF
    exact hJ_20 h hF H _ ls hP hD hS (lv_sub hl [0] rfl)
  · have hF := ob_pos c_1 hF
    refine lv_aload_n hx hb dX9_wants_7 rfl (lv_at hl 0 rfl) ?_
    refine lv_iload_n hx hb dX9_wants_8 rfl (lv_at hl 1 rfl) ?_
    obtain ⟨r_2, h_2, e_2, hF⟩ := ob2_some hF
    refine gx_calli (gx_runV (As := [.int p1]) (rest := []) ⟨hx, hb, hml, hown, hts⟩ (c_X9_isWord l G cI cJ cZ cB cT m0 r h p1 r_2 h_2 e_2 H.size) (gG_V m_172 m_173 m_174 m_64 m_171) rfl e_X9_isWord ⟨Nat.le_of_ble_eq_true rfl, Nat.le_of_ble_eq_true rfl⟩ hK hP hD hE hS hA 0 wM_at0 rfl rfl hl.1 rfl (Nat.le_of_ble_eq_true rfl) dX9_wants_9 ⟨Nat.le_refl _, Nat.le_refl _⟩) hP hD hS hA (fun x_2 u_2 H locs hw_2 hP hD hS => ?_)
    subst x_2
    refine lv_if_ne (tgt := 20) hx hb dX9_wants_12 (by decide) (fun c_3 => ?_) (fun c_3 => ?_)
    · have hF := ob_neg c_3 hF
      exact hJ_20 h_2 hF H _ ls hP hD hS (lv_sub hl [0] rfl)
    · have hF := ob_pos c_3 hF
      refine lv_aload_n hx hb dX9_wants_15 rfl (lv_at hl 0 rfl) ?_
      refine lv_iconst (v := 1) hx hb dX9_wants_16 (by decide) ?_
      obtain ⟨h_4, e_4, hF⟩ := ob1_some hF
      refine gx_callv (gx_runV (As := [.int 1]) (rest := []) ⟨hx, hb, hml, hown, hts⟩ (c_X9_errs l G cI cJ cZ cB cT m0 r h_2 1 h_4 e_4 H.size) (gG_V m_154 m_155 m_156 m_64 m_153) rfl e_X9_errs ⟨Nat.le_of_ble_eq_true rfl, Nat.le_of_ble_eq_true rfl⟩ hK hP hD hE hS hA 0 wM_at0 rfl rfl hl.1 rfl (Nat.le_of_ble_eq_true rfl) dX9_wants_17 ⟨Nat.le_refl _, Nat.le_refl _⟩) hP hD hS hA (fun u_4 H locs hw_4 hP hD hS => ?_)
      exact hJ_20 h_4 hF H _ ls hP hD hS (lv_sub hl [0] rfl)
def f_X9_clause_17 (h : HS) : Option HS := (ob1 (f_X9_errs h 1) (fun h_7 => (some h_7)))
def f_X9_clause_333 (h : HS) : Option HS := (some h)
def f_X9_clause_322 (h : HS) : Option HS := (if (eI h 0 19) = 0 then (ob1 (f_X9_clauseIsOver h) (fun h_41 => (f_X9_clause_333 h_41))) else (f_X9_clause_333 h))
def f_X9_clause_301 (h : HS) : Option HS := (if (eI h 0 19) = 0 then (ob2 (f_X9_isSign h 59) (fun r_37 h_37 => (if r_37 = 0 then (ob1 (f_X9_errs h_37 1) (fun h_39 => (f_X9_clause_322 h_39))) else (f_X9_clause_322 h_37)))) else (f_X9_clause_322 h))
def f_X9_clause_218 (h : HS) (y0 : Int32) (y1 : Int32) : Option HS := (if 0 ≤ (y1).toInt ∧ (y1).toInt < 24 then (if (eI h 0 30) = 4 then (ob1 (f_X9_wants (sA h 0 33 (upd (eA h 0 33) ((y1).toNatClampNeg) y0)) 8) (fun h_28 => (ob2 (f_X9_number h_28 0 5) (fun r_29 h_29 => (if 0 ≤ ((eI h_28 0 29)).toInt ∧ ((eI h_28 0 29)).toInt < 24 then (ob1 (f_X9_wants (sA h_29 0 34 (upd (eA h_29 0 34) (((eI h_28 0 29)).toNatClampNeg) r_29)) 17) (fun h_31 => (ob2 (f_X9_number h_31 0 2) (fun r_32 h_32 => (if 0 ≤ ((eI h_31 0 29)).toInt ∧ ((eI h_31 0 29)).toInt < 24 then (f_X9_clause_301 (sA h_32 0 35 (upd (eA h_32 0 35) (((eI h_31 0 29)).toNatClampNeg) r_32))) else none))))) else none))))) else (if (eI h 0 30) = 5 then (ob1 (f_X9_wants (sA h 0 33 (upd (eA h 0 33) ((y1).toNatClampNeg) y0)) 9) (fun h_25 => (ob2 (f_X9_number h_25 0 3) (fun r_26 h_26 => (if 0 ≤ ((eI h_25 0 29)).toInt ∧ ((eI h_25 0 29)).toInt < 24 then (f_X9_clause_301 (sA h_26 0 34 (upd (eA h_26 0 34) (((eI h_25 0 29)).toNatClampNeg) r_26))) else none))))) else (f_X9_clause_301 (sA h 0 33 (upd (eA h 0 33) ((y1).toNatClampNeg) y0))))) else none)
def f_X9_clause_180 (h : HS) (y0 : Int32) : Option HS := (some (sI h 0 28 y0))
def f_X9_clause_163 (h : HS) (y0 : Int32) : Option HS := (ob1 (f_X9_opensFrame h y0) (fun h_34 => (if (eI h_34 0 30) = 3 then (f_X9_clause_180 h_34 0) else (f_X9_clause_180 h_34 1))))
def f_X9_clause_73 (h : HS) : Option HS := (if (eI h 0 19) ≤ 0 then (if 0 ≤ ((eI h 0 29)).toInt ∧ ((eI h 0 29)).toInt < 24 then (if 0 ≤ ((eI h 0 29)).toInt ∧ ((eI h 0 29)).toInt < 24 then (if 0 ≤ ((eI h 0 29)).toInt ∧ ((eI h 0 29)).toInt < 24 then (if 0 ≤ ((eI h 0 29)).toInt ∧ ((eI h 0 29)).toInt < 24 then (if 0 ≤ ((eI h 0 29)).toInt ∧ ((eI h 0 29)).toInt < 24 then (ob1 (f_X9_next (sA (sA (sA (sA (sA h 0 31 (upd (eA h 0 31) (((eI h 0 29)).toNatClampNeg) (eI h 0 30))) 0 32 (upd (eA h 0 32) (((eI h 0 29)).toNatClampNeg) (eI h 0 36))) 0 33 (upd (eA h 0 33) (((eI h 0 29)).toNatClampNeg) (-1))) 0 34 (upd (eA h 0 34) (((eI h 0 29)).toNatClampNeg) (-1))) 0 35 (upd (eA h 0 35) (((eI h 0 29)).toNatClampNeg) (-1)))) (fun h_16 => (if 3 < (eI h_16 0 30) then (if (eI h_16 0 30) = 7 then (ob2 (f_X9_number h_16 1 99) (fun r_20 h_20 => (f_X9_clause_218 h_20 r_20 (eI h_16 0 29)))) else (ob2 (f_X9_number h_16 0 9) (fun r_19 h_19 => (f_X9_clause_218 h_19 r_19 (eI h_16 0 29))))) else (if (eI h_16 0 30) = 3 then (f_X9_clause_163 h_16 2) else (f_X9_clause_163 h_16 1))))) else none) else none) else none) else none) else none) else (some h))
def f_X9_clause_58 (h : HS) : Option HS := (if (eI h 0 29) = 24 then (ob1 (f_X9_errs h 6) (fun h_9 => (f_X9_clause_73 h_9))) else (f_X9_clause_73 h))
def f_X9_clause (h : HS) : Option HS := (if (eI h 0 17) = 1 then (if (eI h 0 18) ≤ 7 then (if 3 < (eI h 0 18) then (f_X9_clause_58 (sI h 0 30 (eI h 0 18))) else (ob2 (f_X9_wasTold (sI h 0 30 (eI h 0 18)) (eI h 0 18)) (fun r_4 h_4 => (if r_4 = 0 then (f_X9_clause_58 h_4) else (ob1 (f_X9_errs h_4 4) (fun h_6 => (f_X9_clause_73 h_6))))))) else (f_X9_clause_17 h)) else (f_X9_clause_17 h))
theorem e_X9_number : yX9_number.cls = RX9 ∧ yX9_number.cls ≠ "java/lang/invoke/MethodHandle" ∧ yX9_number.cls ≠ "java/lang/invoke/VarHandle" ∧ (parseMethodDescriptor yX9_number.desc).map (fun d => d.parameters.length) = some 2 := by decide +kernel
theorem e_X9_wants : yX9_wants.cls = RX9 ∧ yX9_wants.cls ≠ "java/lang/invoke/MethodHandle" ∧ yX9_wants.cls ≠ "java/lang/invoke/VarHandle" ∧ (parseMethodDescriptor yX9_wants.desc).map (fun d => d.parameters.length) = some 1 := by decide +kernel
theorem e_X9_wasTold : yX9_wasTold.cls = RX9 ∧ yX9_wasTold.cls ≠ "java/lang/invoke/MethodHandle" ∧ yX9_wasTold.cls ≠ "java/lang/invoke/VarHandle" ∧ (parseMethodDescriptor yX9_wasTold.desc).map (fun d => d.parameters.length) = some 1 := by decide +kernel
set_option maxHeartbeats 4000000 in
set_option maxRecDepth 100000 in
theorem c_X9_clause (l : Launch) (G : va_G) (cI cJ cZ cB cT : ClassId) (m0 : Nat) (r : Nat → Nat) (h : HS)  (hh : HS) (hF : f_X9_clause h = some hh) : gMv l yX9_clause (gws yX9_clause cX9_clause 1 none) 5 G (gT cI cJ cZ cB cT) [.ref m0] (wM m0 r cI cJ cZ cB cT h) (fun (_ : Unit) => True) (fun (_ : Unit) => (wM m0 r cI cJ cZ cB cT hh)) := by
  intro sz
  refine gM_start (y := yX9_clause) (av := [.ref m0]) (ws := (wM m0 r cI cJ cZ cB cT h)) (Qf := fun A => va_Qv (fun (_ : Unit) => True) (gB G (fun (_ : Unit) => (wM m0 r cI cJ cZ cB cT hh)) A) A) (cc := cX9_clause) (maxL := 1) (ret := none) (by decide) (Nat.le_of_ble_eq_true rfl) ?_
  intro p e s m args below meth c A ls H hx hb hr hts hown hin hlocks hml hP hK hD hA hS hl hE
  have hl : lv_has ls 1 [(0, .ref m0)] := hl
  have hJ_17 : ∀ (h : HS), f_X9_clause_17 h = some hh → ∀ (H : Heap) (locs : List Loc) (ls : Array Slot), va_P G vwCl (wM m0 r cI cJ cZ cB cT h) H → va_D A (wM m0 r cI cJ cZ cB cT h) → va_S A s.heap H locs → lv_has ls 1 [(0, .ref m0)] → W p l e (gRm 5) s m args below meth c H locs 0 0 (MQ below (va_Qv (fun (_ : Unit) => True) (gB G (fun (_ : Unit) => (wM m0 r cI cJ cZ cB cT hh)) A) A) args s 0 0 A) (F0 m 17 ls []) := by
    intro h hF H locs ls hP hD hS hl
    unfold f_X9_clause_17 at hF
    refine lv_aload_n hx hb dX9_clause_17 rfl (lv_at hl 0 rfl) ?_
    refine lv_iconst (v := 1) hx hb dX9_clause_18 (by decide) ?_
    obtain ⟨h_7, e_7, hF⟩ := ob1_some hF
    refine gx_callv (gx_runV (As := [.int 1]) (rest := []) ⟨hx, hb, hml, hown, hts⟩ (c_X9_errs l G cI cJ cZ cB cT m0 r h 1 h_7 e_7 H.size) (gG_V m_154 m_155 m_156 m_64 m_153) rfl e_X9_errs ⟨Nat.le_of_ble_eq_true rfl, Nat.le_of_ble_eq_true rfl⟩ hK hP hD hE hS hA 0 wM_at0 rfl rfl hl.1 rfl (Nat.le_of_ble_eq_true rfl) dX9_clause_19 ⟨Nat.le_refl _, Nat.le_refl _⟩) hP hD hS hA (fun u_7 H locs hw_7 hP hD hS => ?_)
    obtain rfl := ob_one hF
    exact gw_vret () hx hb hr hlocks hP hD hS trivial dX9_clause_22
  have hJ_333 : ∀ (h : HS), f_X9_clause_333 h = some hh → ∀ (H : Heap) (locs : List Loc) (ls : Array Slot), va_P G vwCl (wM m0 r cI cJ cZ cB cT h) H → va_D A (wM m0 r cI cJ cZ cB cT h) → va_S A s.heap H locs → lv_has ls 1 [] → W p l e (gRm 5) s m args below meth c H locs 0 0 (MQ below (va_Qv (fun (_ : Unit) => True) (gB G (fun (_ : Unit) => (wM m0 r cI cJ cZ cB cT hh)) A) A) args s 0 0 A) (F0 m 333 ls []) := by
    intro h hF H locs ls hP hD hS hl
    unfold f_X9_clause_333 at hF
    obtain rfl := ob_one hF
    exact gw_vret () hx hb hr hlocks hP hD hS trivial dX9_clause_333
  have hJ_322 : ∀ (h : HS), f_X9_clause_322 h = some hh → ∀ (H : Heap) (locs : List Loc) (ls : Array Slot), va_P G vwCl (wM m0 r cI cJ cZ cB cT h) H → va_D A (wM m0 r cI cJ cZ cB cT h) → va_S A s.heap H locs → lv_has ls 1 [(0, .ref m0)] → W p l e (gRm 5) s m args below meth c H locs 0 0 (MQ below (va_Qv (fun (_ : Unit) => True) (gB G (fun (_ : Unit) => (wM m0 r cI cJ cZ cB cT hh)) A) A) args s 0 0 A) (F0 m 322 ls []) := by
    intro h hF H locs ls hP hD hS hl
    unfold f_X9_clause_322 at hF
    refine lv_aload_n hx hb dX9_clause_322 rfl (lv_at hl 0 rfl) ?_
    refine va_get (D := G) (ci := 9) (v := .int (eI h 0 19)) (C := RX9) (T := TX9) (N := 53) hx hb hts iX9 hown hK hP 0 wM_at0 rfl 19 (by decide) (hts _ m_137) (fun _ h9 => h9) rfl dX9_clause_323 ?_
    refine lv_if_ne (tgt := 333) hx hb dX9_clause_326 (by decide) (fun c_40 => ?_) (fun c_40 => ?_)
    · have hF := ob_neg c_40 hF
      exact hJ_333 h hF H _ ls hP hD hS (lv_sub hl [] rfl)
    · have hF := ob_pos c_40 hF
      refine lv_aload_n hx hb dX9_clause_329 rfl (lv_at hl 0 rfl) ?_
      obtain ⟨h_41, e_41, hF⟩ := ob1_some hF
      refine gx_callv (gx_runV (As := []) (rest := []) ⟨hx, hb, hml, hown, hts⟩ (c_X9_clauseIsOver l G cI cJ cZ cB cT m0 r h  h_41 e_41 H.size) (gG_V m_203 m_204 m_205 m_64 m_202) rfl e_X9_clauseIsOver ⟨Nat.le_of_ble_eq_true rfl, Nat.le_of_ble_eq_true rfl⟩ hK hP hD hE hS hA 0 wM_at0 rfl rfl hl.1 rfl (Nat.le_of_ble_eq_true rfl) dX9_clause_330 ⟨Nat.le_refl _, Nat.le_refl _⟩) hP hD hS hA (fun u_41 H locs hw_41 hP hD hS => ?_)
      exact hJ_333 h_41 hF H _ ls hP hD hS (lv_sub hl [] rfl)
  have hJ_301 : ∀ (h : HS), f_X9_clause_301 h = some hh → ∀ (H : Heap) (locs : List Loc) (ls : Array Slot), va_P G vwCl (wM m0 r cI cJ cZ cB cT h) H → va_D A (wM m0 r cI cJ cZ cB cT h) → va_S A s.heap H locs → lv_has ls 1 [(0, .ref m0)] → W p l e (gRm 5) s m args below meth c H locs 0 0 (MQ below (va_Qv (fun (_ : Unit) => True) (gB G (fun (_ : Unit) => (wM m0 r cI cJ cZ cB cT hh)) A) A) args s 0 0 A) (F0 m 301 ls []) := by
    intro h hF H locs ls hP hD hS hl
    unfold f_X9_clause_301 at hF
    refine lv_aload_n hx hb dX9_clause_301 rfl (lv_at hl 0 rfl) ?_
    refine va_get (D := G) (ci := 9) (v := .int (eI h 0 19)) (C := RX9) (T := TX9) (N := 53) hx hb hts iX9 hown hK hP 0 wM_at0 rfl 19 (by decide) (hts _ m_137) (fun _ h9 => h9) rfl dX9_clause_302 ?_
    refine lv_if_ne (tgt := 322) hx hb dX9_clause_305 (by decide) (fun c_36 => ?_) (fun c_36 => ?_)
    · have hF := ob_neg c_36 hF
      exact hJ_322 h hF H _ ls hP hD hS (lv_sub hl [0] rfl)
    · have hF := ob_pos c_36 hF
      refine lv_aload_n hx hb dX9_clause_308 rfl (lv_at hl 0 rfl) ?_
      refine lv_bipush (v := 59) hx hb dX9_clause_309 (by decide) ?_
      obtain ⟨r_37, h_37, e_37, hF⟩ := ob2_some hF
      refine gx_calli (gx_runV (As := [.int 59]) (rest := []) ⟨hx, hb, hml, hown, hts⟩ (c_X9_isSign l G cI cJ cZ cB cT m0 r h 59 r_37 h_37 e_37 H.size) (gG_V m_190 m_191 m_192 m_64 m_189) rfl e_X9_isSign ⟨Nat.le_of_ble_eq_true rfl, Nat.le_of_ble_eq_true rfl⟩ hK hP hD hE hS hA 0 wM_at0 rfl rfl hl.1 rfl (Nat.le_of_ble_eq_true rfl) dX9_clause_311 ⟨Nat.le_refl _, Nat.le_refl _⟩) hP hD hS hA (fun x_37 u_37 H locs hw_37 hP hD hS => ?_)
      subst x_37
      refine lv_if_ne (tgt := 322) hx hb dX9_clause_314 (by decide) (fun c_38 => ?_) (fun c_38 => ?_)
      · have hF := ob_neg c_38 hF
        exact hJ_322 h_37 hF H _ ls hP hD hS (lv_sub hl [0] rfl)
      · have hF := ob_pos c_38 hF
        refine lv_aload_n hx hb dX9_clause_317 rfl (lv_at hl 0 rfl) ?_
        refine lv_iconst (v := 1) hx hb dX9_clause_318 (by decide) ?_
        obtain ⟨h_39, e_39, hF⟩ := ob1_some hF
        refine gx_callv (gx_runV (As := [.int 1]) (rest := []) ⟨hx, hb, hml, hown, hts⟩ (c_X9_errs l G cI cJ cZ cB cT m0 r h_37 1 h_39 e_39 H.size) (gG_V m_154 m_155 m_156 m_64 m_153) rfl e_X9_errs ⟨Nat.le_of_ble_eq_true rfl, Nat.le_of_ble_eq_true rfl⟩ hK hP hD hE hS hA 0 wM_at0 rfl rfl hl.1 rfl (Nat.le_of_ble_eq_true rfl) dX9_clause_319 ⟨Nat.le_refl _, Nat.le_refl _⟩) hP hD hS hA (fun u_39 H locs hw_39 hP hD hS => ?_)
        exact hJ_322 h_39 hF H _ ls hP hD hS (lv_sub hl [0] rfl)
  have hJ_218 : ∀ (h : HS) (y0 : Int32) (y1 : Int32), f_X9_clause_218 h y0 y1 = some hh → ∀ (H : Heap) (locs : List Loc) (ls : Array Slot), va_P G vwCl (wM m0 r cI cJ cZ cB cT h) H → va_D A (wM m0 r cI cJ cZ cB cT h) → va_S A s.heap H locs → lv_has ls 1 [(0, .ref m0)] → W p l e (gRm 5) s m args below meth c H locs 0 0 (MQ below (va_Qv (fun (_ : Unit) => True) (gB G (fun (_ : Unit) => (wM m0 r cI cJ cZ cB cT hh)) A) A) args s 0 0 A) (F0 m 218 ls [.int y0, .int y1, .ref (r 33)]) := by
    intro h y0 y1 hF H locs ls hP hD hS hl
    unfold f_X9_clause_218 at hF
    obtain ⟨hi_22, hF⟩ := ob_if hF
    refine va_iast (D := G) hx hb hK hP hD hS 18 0 wM_at18 rfl (vp_in_iff.mpr hi_22) dX9_clause_218 (fun H locs hP hD hS => ?_)
    rw [wM_sA18] at hP hD
    have hP : va_P G vwCl (wM m0 r cI cJ cZ cB cT (sA h 0 33 (upd (eA h 0 33) ((y1).toNatClampNeg) y0))) H := hP
    have hD : va_D A (wM m0 r cI cJ cZ cB cT (sA h 0 33 (upd (eA h 0 33) ((y1).toNatClampNeg) y0))) := hD
    refine lv_aload_n hx hb dX9_clause_219 rfl (lv_at hl 0 rfl) ?_
    refine va_get (D := G) (ci := 9) (v := .int (eI h 0 30)) (C := RX9) (T := TX9) (N := 53) hx hb hts iX9 hown hK hP 0 wM_at0 rfl 30 (by decide) (hts _ m_184) (fun _ h9 => h9) rfl dX9_clause_220 ?_
    refine lv_iconst (v := 4) hx hb dX9_clause_223 (by decide) ?_
    refine lv_icmp_ne (tgt := 272) hx hb dX9_clause_224 (by decide) (fun c_23 => ?_) (fun c_23 => ?_)
    · have hF := ob_neg c_23 hF
      refine lv_aload_n hx hb dX9_clause_272 rfl (lv_at hl 0 rfl) ?_
      refine va_get (D := G) (ci := 9) (v := .int (eI h 0 30)) (C := RX9) (T := TX9) (N := 53) hx hb hts iX9 hown hK hP 0 wM_at0 rfl 30 (by decide) (hts _ m_184) (fun _ h9 => h9) rfl dX9_clause_273 ?_
      refine lv_iconst (v := 5) hx hb dX9_clause_276 (by decide) ?_
      refine lv_icmp_ne (tgt := 301) hx hb dX9_clause_277 (by decide) (fun c_24 => ?_) (fun c_24 => ?_)
      · have hF := ob_neg c_24 hF
        exact hJ_301 (sA h 0 33 (upd (eA h 0 33) ((y1).toNatClampNeg) y0)) hF H _ ls hP hD hS (lv_sub hl [0] rfl)
      · have hF := ob_pos c_24 hF
        refine lv_aload_n hx hb dX9_clause_280 rfl (lv_at hl 0 rfl) ?_
        refine lv_bipush (v := 9) hx hb dX9_clause_281 (by decide) ?_
        obtain ⟨h_25, e_25, hF⟩ := ob1_some hF
        refine gx_callv (gx_runV (As := [.int 9]) (rest := []) ⟨hx, hb, hml, hown, hts⟩ (c_X9_wants l G cI cJ cZ cB cT m0 r (sA h 0 33 (upd (eA h 0 33) ((y1).toNatClampNeg) y0)) 9 h_25 e_25 H.size) (gG_V m_224 m_225 m_226 m_64 m_223) rfl e_X9_wants ⟨Nat.le_of_ble_eq_true rfl, Nat.le_of_ble_eq_true rfl⟩ hK hP hD hE hS hA 0 wM_at0 rfl rfl hl.1 rfl (Nat.le_of_ble_eq_true rfl) dX9_clause_283 ⟨Nat.le_refl _, Nat.le_refl _⟩) hP hD hS hA (fun u_25 H locs hw_25 hP hD hS => ?_)
        refine lv_aload_n hx hb dX9_clause_286 rfl (lv_at hl 0 rfl) ?_
        refine va_get (D := G) (ci := 9) (v := .ref (r 34)) (C := RX9) (T := TX9) (N := 53) hx hb hts iX9 hown hK hP 0 wM_at0 rfl 34 (by decide) (hts _ m_217) (fun _ h9 => h9) rfl dX9_clause_287 ?_
        refine lv_aload_n hx hb dX9_clause_290 rfl (lv_at hl 0 rfl) ?_
        refine va_get (D := G) (ci := 9) (v := .int (eI h_25 0 29)) (C := RX9) (T := TX9) (N := 53) hx hb hts iX9 hown hK hP 0 wM_at0 rfl 29 (by decide) (hts _ m_193) (fun _ h9 => h9) rfl dX9_clause_291 ?_
        refine lv_aload_n hx hb dX9_clause_294 rfl (lv_at hl 0 rfl) ?_
        refine lv_iconst (v := 0) hx hb dX9_clause_295 (by decide) ?_
        refine lv_iconst (v := 3) hx hb dX9_clause_296 (by decide) ?_
        obtain ⟨r_26, h_26, e_26, hF⟩ := ob2_some hF
        refine gx_calli (gx_runV (As := [.int 0, .int 3]) (rest := [.int (eI h_25 0 29), .ref (r 34)]) ⟨hx, hb, hml, hown, hts⟩ (c_X9_number l G cI cJ cZ cB cT m0 r h_25 0 3 r_26 h_26 e_26 H.size) (gG_V m_220 m_221 m_222 m_64 m_219) rfl e_X9_number ⟨Nat.le_of_ble_eq_true rfl, Nat.le_of_ble_eq_true rfl⟩ hK hP hD hE hS hA 0 wM_at0 rfl rfl hl.1 rfl (Nat.le_of_ble_eq_true rfl) dX9_clause_297 ⟨Nat.le_refl _, Nat.le_refl _⟩) hP hD hS hA (fun x_26 u_26 H locs hw_26 hP hD hS => ?_)
        subst x_26
        obtain ⟨hi_27, hF⟩ := ob_if hF
        refine va_iast (D := G) hx hb hK hP hD hS 19 0 wM_at19 rfl (vp_in_iff.mpr hi_27) dX9_clause_300 (fun H locs hP hD hS => ?_)
        rw [wM_sA19] at hP hD
        have hP : va_P G vwCl (wM m0 r cI cJ cZ cB cT (sA h_26 0 34 (upd (eA h_26 0 34) (((eI h_25 0 29)).toNatClampNeg) r_26))) H := hP
        have hD : va_D A (wM m0 r cI cJ cZ cB cT (sA h_26 0 34 (upd (eA h_26 0 34) (((eI h_25 0 29)).toNatClampNeg) r_26))) := hD
        exact hJ_301 (sA h_26 0 34 (upd (eA h_26 0 34) (((eI h_25 0 29)).toNatClampNeg) r_26)) hF H _ ls hP hD hS (lv_sub hl [0] rfl)
    · have hF := ob_pos c_23 hF
      refine lv_aload_n hx hb dX9_clause_227 rfl (lv_at hl 0 rfl) ?_
      refine lv_bipush (v := 8) hx hb dX9_clause_228 (by decide) ?_
      obtain ⟨h_28, e_28, hF⟩ := ob1_some hF
      refine gx_callv (gx_runV (As := [.int 8]) (rest := []) ⟨hx, hb, hml, hown, hts⟩ (c_X9_wants l G cI cJ cZ cB cT m0 r (sA h 0 33 (upd (eA h 0 33) ((y1).toNatClampNeg) y0)) 8 h_28 e_28 H.size) (gG_V m_224 m_225 m_226 m_64 m_223) rfl e_X9_wants ⟨Nat.le_of_ble_eq_true rfl, Nat.le_of_ble_eq_true rfl⟩ hK hP hD hE hS hA 0 wM_at0 rfl rfl hl.1 rfl (Nat.le_of_ble_eq_true rfl) dX9_clause_230 ⟨Nat.le_refl _, Nat.le_refl _⟩) hP hD hS hA (fun u_28 H locs hw_28 hP hD hS => ?_)
      refine lv_aload_n hx hb dX9_clause_233 rfl (lv_at hl 0 rfl) ?_
      refine va_get (D := G) (ci := 9) (v := .ref (r 34)) (C := RX9) (T := TX9) (N := 53) hx hb hts iX9 hown hK hP 0 wM_at0 rfl 34 (by decide) (hts _ m_217) (fun _ h9 => h9) rfl dX9_clause_234 ?_
      refine lv_aload_n hx hb dX9_clause_237 rfl (lv_at hl 0 rfl) ?_
      refine va_get (D := G) (ci := 9) (v := .int (eI h_28 0 29)) (C := RX9) (T := TX9) (N := 53) hx hb hts iX9 hown hK hP 0 wM_at0 rfl 29 (by decide) (hts _ m_193) (fun _ h9 => h9) rfl dX9_clause_238 ?_
      refine lv_aload_n hx hb dX9_clause_241 rfl (lv_at hl 0 rfl) ?_
      refine lv_iconst (v := 0) hx hb dX9_clause_242 (by decide) ?_
      refine lv_iconst (v := 5) hx hb dX9_clause_243 (by decide) ?_
      obtain ⟨r_29, h_29, e_29, hF⟩ := ob2_some hF
      refine gx_calli (gx_runV (As := [.int 0, .int 5]) (rest := [.int (eI h_28 0 29), .ref (r 34)]) ⟨hx, hb, hml, hown, hts⟩ (c_X9_number l G cI cJ cZ cB cT m0 r h_28 0 5 r_29 h_29 e_29 H.size) (gG_V m_220 m_221 m_222 m_64 m_219) rfl e_X9_number ⟨Nat.le_of_ble_eq_true rfl, Nat.le_of_ble_eq_true rfl⟩ hK hP hD hE hS hA 0 wM_at0 rfl rfl hl.1 rfl (Nat.le_of_ble_eq_true rfl) dX9_clause_244 ⟨Nat.le_refl _, Nat.le_refl _⟩) hP hD hS hA (fun x_29 u_29 H locs hw_29 hP hD hS => ?_)
      subst x_29
      obtain ⟨hi_30, hF⟩ := ob_if hF
      refine va_iast (D := G) hx hb hK hP hD hS 19 0 wM_at19 rfl (vp_in_iff.mpr hi_30) dX9_clause_247 (fun H locs hP hD hS => ?_)
      rw [wM_sA19] at hP hD
      have hP : va_P G vwCl (wM m0 r cI cJ cZ cB cT (sA h_29 0 34 (upd (eA h_29 0 34) (((eI h_28 0 29)).toNatClampNeg) r_29))) H := hP
      have hD : va_D A (wM m0 r cI cJ cZ cB cT (sA h_29 0 34 (upd (eA h_29 0 34) (((eI h_28 0 29)).toNatClampNeg) r_29))) := hD
      refine lv_aload_n hx hb dX9_clause_248 rfl (lv_at hl 0 rfl) ?_
      refine lv_bipush (v := 17) hx hb dX9_clause_249 (by decide) ?_
      obtain ⟨h_31, e_31, hF⟩ := ob1_some hF
      refine gx_callv (gx_runV (As := [.int 17]) (rest := []) ⟨hx, hb, hml, hown, hts⟩ (c_X9_wants l G cI cJ cZ cB cT m0 r (sA h_29 0 34 (upd (eA h_29 0 34) (((eI h_28 0 29)).toNatClampNeg) r_29)) 17 h_31 e_31 H.size) (gG_V m_224 m_225 m_226 m_64 m_223) rfl e_X9_wants ⟨Nat.le_of_ble_eq_true rfl, Nat.le_of_ble_eq_true rfl⟩ hK hP hD hE hS hA 0 wM_at0 rfl rfl hl.1 rfl (Nat.le_of_ble_eq_true rfl) dX9_clause_251 ⟨Nat.le_refl _, Nat.le_refl _⟩) hP hD hS hA (fun u_31 H locs hw_31 hP hD hS => ?_)
      refine lv_aload_n hx hb dX9_clause_254 rfl (lv_at hl 0 rfl) ?_
      refine va_get (D := G) (ci := 9) (v := .ref (r 35)) (C := RX9) (T := TX9) (N := 53) hx hb hts iX9 hown hK hP 0 wM_at0 rfl 35 (by decide) (hts _ m_218) (fun _ h9 => h9) rfl dX9_clause_255 ?_
      refine lv_aload_n hx hb dX9_clause_258 rfl (lv_at hl 0 rfl) ?_
      refine va_get (D := G) (ci := 9) (v := .int (eI h_31 0 29)) (C := RX9) (T := TX9) (N := 53) hx hb hts iX9 hown hK hP 0 wM_at0 rfl 29 (by decide) (hts _ m_193) (fun _ h9 => h9) rfl dX9_clause_259 ?_
      refine lv_aload_n hx hb dX9_clause_262 rfl (lv_at hl 0 rfl) ?_
      refine lv_iconst (v := 0) hx hb dX9_clause_263 (by decide) ?_
      refine lv_iconst (v := 2) hx hb dX9_clause_264 (by decide) ?_
      obtain ⟨r_32, h_32, e_32, hF⟩ := ob2_some hF
      refine gx_calli (gx_runV (As := [.int 0, .int 2]) (rest := [.int (eI h_31 0 29), .ref (r 35)]) ⟨hx, hb, hml, hown, hts⟩ (c_X9_number l G cI cJ cZ cB cT m0 r h_31 0 2 r_32 h_32 e_32 H.size) (gG_V m_220 m_221 m_222 m_64 m_219) rfl e_X9_number ⟨Nat.le_of_ble_eq_true rfl, Nat.le_of_ble_eq_true rfl⟩ hK hP hD hE hS hA 0 wM_at0 rfl rfl hl.1 rfl (Nat.le_of_ble_eq_true rfl) dX9_clause_265 ⟨Nat.le_refl _, Nat.le_refl _⟩) hP hD hS hA (fun x_32 u_32 H locs hw_32 hP hD hS => ?_)
      subst x_32
      obtain ⟨hi_33, hF⟩ := ob_if hF
      refine va_iast (D := G) hx hb hK hP hD hS 20 0 wM_at20 rfl (vp_in_iff.mpr hi_33) dX9_clause_268 (fun H locs hP hD hS => ?_)
      rw [wM_sA20] at hP hD
      have hP : va_P G vwCl (wM m0 r cI cJ cZ cB cT (sA h_32 0 35 (upd (eA h_32 0 35) (((eI h_31 0 29)).toNatClampNeg) r_32))) H := hP
      have hD : va_D A (wM m0 r cI cJ cZ cB cT (sA h_32 0 35 (upd (eA h_32 0 35) (((eI h_31 0 29)).toNatClampNeg) r_32))) := hD
      refine lv_goto (tgt := 301) hx hb dX9_clause_269 (by decide) ?_
      exact hJ_301 (sA h_32 0 35 (upd (eA h_32 0 35) (((eI h_31 0 29)).toNatClampNeg) r_32)) hF H _ ls hP hD hS (lv_sub hl [0] rfl)
  have hJ_180 : ∀ (h : HS) (y0 : Int32), f_X9_clause_180 h y0 = some hh → ∀ (H : Heap) (locs : List Loc) (ls : Array Slot), va_P G vwCl (wM m0 r cI cJ cZ cB cT h) H → va_D A (wM m0 r cI cJ cZ cB cT h) → va_S A s.heap H locs → lv_has ls 1 [] → W p l e (gRm 5) s m args below meth c H locs 0 0 (MQ below (va_Qv (fun (_ : Unit) => True) (gB G (fun (_ : Unit) => (wM m0 r cI cJ cZ cB cT hh)) A) A) args s 0 0 A) (F0 m 180 ls [.int y0, .ref m0]) := by
    intro h y0 hF H locs ls hP hD hS hl
    unfold f_X9_clause_180 at hF
    refine va_put (D := G) (ci := 9) (v := .int y0) (ty := .int) (C := RX9) (T := TX9) (N := 53) hx hb hts iX9 tyX9 tyX9_ok nmX9 hown hK hP hD hS 0 wM_at0 rfl 28 (by decide) (hts _ m_175) (fun _ h9 => h9) rfl (tyX9_ok 28 (by decide)) rfl rfl (Nat.le_of_ble_eq_true rfl) dX9_clause_180 (fun H locs hP hD hS => ?_)
    rw [wM_sI0_28] at hP hD
    obtain rfl := ob_one hF
    exact gw_vret () hx hb hr hlocks hP hD hS trivial dX9_clause_183
  have hJ_163 : ∀ (h : HS) (y0 : Int32), f_X9_clause_163 h y0 = some hh → ∀ (H : Heap) (locs : List Loc) (ls : Array Slot), va_P G vwCl (wM m0 r cI cJ cZ cB cT h) H → va_D A (wM m0 r cI cJ cZ cB cT h) → va_S A s.heap H locs → lv_has ls 1 [(0, .ref m0)] → W p l e (gRm 5) s m args below meth c H locs 0 0 (MQ below (va_Qv (fun (_ : Unit) => True) (gB G (fun (_ : Unit) => (wM m0 r cI cJ cZ cB cT hh)) A) A) args s 0 0 A) (F0 m 163 ls [.int y0, .ref m0]) := by
    intro h y0 hF H locs ls hP hD hS hl
    unfold f_X9_clause_163 at hF
    obtain ⟨h_34, e_34, hF⟩ := ob1_some hF
    refine gx_callv (gx_runV (As := [.int y0]) (rest := []) ⟨hx, hb, hml, hown, hts⟩ (c_X9_opensFrame l G cI cJ cZ cB cT m0 r h y0 h_34 e_34 H.size) (gG_V m_146 m_147 m_148 m_64 m_145) rfl e_X9_opensFrame ⟨Nat.le_of_ble_eq_true rfl, Nat.le_of_ble_eq_true rfl⟩ hK hP hD hE hS hA 0 wM_at0 rfl rfl hl.1 rfl (Nat.le_of_ble_eq_true rfl) dX9_clause_163 ⟨Nat.le_refl _, Nat.le_refl _⟩) hP hD hS hA (fun u_34 H locs hw_34 hP hD hS => ?_)
    refine lv_aload_n hx hb dX9_clause_166 rfl (lv_at hl 0 rfl) ?_
    refine lv_aload_n hx hb dX9_clause_167 rfl (lv_at hl 0 rfl) ?_
    refine va_get (D := G) (ci := 9) (v := .int (eI h_34 0 30)) (C := RX9) (T := TX9) (N := 53) hx hb hts iX9 hown hK hP 0 wM_at0 rfl 30 (by decide) (hts _ m_184) (fun _ h9 => h9) rfl dX9_clause_168 ?_
    refine lv_iconst (v := 3) hx hb dX9_clause_171 (by decide) ?_
    refine lv_icmp_ne (tgt := 179) hx hb dX9_clause_172 (by decide) (fun c_35 => ?_) (fun c_35 => ?_)
    · have hF := ob_neg c_35 hF
      refine lv_iconst (v := 1) hx hb dX9_clause_179 (by decide) ?_
      exact hJ_180 h_34 1 hF H _ ls hP hD hS (lv_sub hl [] rfl)
    · have hF := ob_pos c_35 hF
      refine lv_iconst (v := 0) hx hb dX9_clause_175 (by decide) ?_
      refine lv_goto (tgt := 180) hx hb dX9_clause_176 (by decide) ?_
      exact hJ_180 h_34 0 hF H _ ls hP hD hS (lv_sub hl [] rfl)
  have hJ_73 : ∀ (h : HS), f_X9_clause_73 h = some hh → ∀ (H : Heap) (locs : List Loc) (ls : Array Slot), va_P G vwCl (wM m0 r cI cJ cZ cB cT h) H → va_D A (wM m0 r cI cJ cZ cB cT h) → va_S A s.heap H locs → lv_has ls 1 [(0, .ref m0)] → W p l e (gRm 5) s m args below meth c H locs 0 0 (MQ below (va_Qv (fun (_ : Unit) => True) (gB G (fun (_ : Unit) => (wM m0 r cI cJ cZ cB cT hh)) A) A) args s 0 0 A) (F0 m 73 ls []) := by
    intro h hF H locs ls hP hD hS hl
    unfold f_X9_clause_73 at hF
    refine lv_aload_n hx hb dX9_clause_73 rfl (lv_at hl 0 rfl) ?_
    refine va_get (D := G) (ci := 9) (v := .int (eI h 0 19)) (C := RX9) (T := TX9) (N := 53) hx hb hts iX9 hown hK hP 0 wM_at0 rfl 19 (by decide) (hts _ m_137) (fun _ h9 => h9) rfl dX9_clause_74 ?_
    refine lv_if_le (tgt := 81) hx hb dX9_clause_77 (by decide) (fun c_10 => ?_) (fun c_10 => ?_)
    · have hF := ob_pos c_10 hF
      refine lv_aload_n hx hb dX9_clause_81 rfl (lv_at hl 0 rfl) ?_
      refine va_get (D := G) (ci := 9) (v := .ref (r 31)) (C := RX9) (T := TX9) (N := 53) hx hb hts iX9 hown hK hP 0 wM_at0 rfl 31 (by decide) (hts _ m_210) (fun _ h9 => h9) rfl dX9_clause_82 ?_
      refine lv_aload_n hx hb dX9_clause_85 rfl (lv_at hl 0 rfl) ?_
      refine va_get (D := G) (ci := 9) (v := .int (eI h 0 29)) (C := RX9) (T := TX9) (N := 53) hx hb hts iX9 hown hK hP 0 wM_at0 rfl 29 (by decide) (hts _ m_193) (fun _ h9 => h9) rfl dX9_clause_86 ?_
      refine lv_aload_n hx hb dX9_clause_89 rfl (lv_at hl 0 rfl) ?_
      refine va_get (D := G) (ci := 9) (v := .int (eI h 0 30)) (C := RX9) (T := TX9) (N := 53) hx hb hts iX9 hown hK hP 0 wM_at0 rfl 30 (by decide) (hts _ m_184) (fun _ h9 => h9) rfl dX9_clause_90 ?_
      obtain ⟨hi_11, hF⟩ := ob_if hF
      refine va_iast (D := G) hx hb hK hP hD hS 16 0 wM_at16 rfl (vp_in_iff.mpr hi_11) dX9_clause_93 (fun H locs hP hD hS => ?_)
      rw [wM_sA16] at hP hD
      have hP : va_P G vwCl (wM m0 r cI cJ cZ cB cT (sA h 0 31 (upd (eA h 0 31) (((eI h 0 29)).toNatClampNeg) (eI h 0 30)))) H := hP
      have hD : va_D A (wM m0 r cI cJ cZ cB cT (sA h 0 31 (upd (eA h 0 31) (((eI h 0 29)).toNatClampNeg) (eI h 0 30)))) := hD
      refine lv_aload_n hx hb dX9_clause_94 rfl (lv_at hl 0 rfl) ?_
      refine va_get (D := G) (ci := 9) (v := .ref (r 32)) (C := RX9) (T := TX9) (N := 53) hx hb hts iX9 hown hK hP 0 wM_at0 rfl 32 (by decide) (hts _ m_215) (fun _ h9 => h9) rfl dX9_clause_95 ?_
      refine lv_aload_n hx hb dX9_clause_98 rfl (lv_at hl 0 rfl) ?_
      refine va_get (D := G) (ci := 9) (v := .int (eI h 0 29)) (C := RX9) (T := TX9) (N := 53) hx hb hts iX9 hown hK hP 0 wM_at0 rfl 29 (by decide) (hts _ m_193) (fun _ h9 => h9) rfl dX9_clause_99 ?_
      refine lv_aload_n hx hb dX9_clause_102 rfl (lv_at hl 0 rfl) ?_
      refine va_get (D := G) (ci := 9) (v := .int (eI h 0 36)) (C := RX9) (T := TX9) (N := 53) hx hb hts iX9 hown hK hP 0 wM_at0 rfl 36 (by decide) (hts _ m_140) (fun _ h9 => h9) rfl dX9_clause_103 ?_
      obtain ⟨hi_12, hF⟩ := ob_if hF
      refine va_iast (D := G) hx hb hK hP hD hS 17 0 wM_at17 rfl (vp_in_iff.mpr hi_12) dX9_clause_106 (fun H locs hP hD hS => ?_)
      rw [wM_sA17] at hP hD
      have hP : va_P G vwCl (wM m0 r cI cJ cZ cB cT (sA (sA h 0 31 (upd (eA h 0 31) (((eI h 0 29)).toNatClampNeg) (eI h 0 30))) 0 32 (upd (eA h 0 32) (((eI h 0 29)).toNatClampNeg) (eI h 0 36)))) H := hP
      have hD : va_D A (wM m0 r cI cJ cZ cB cT (sA (sA h 0 31 (upd (eA h 0 31) (((eI h 0 29)).toNatClampNeg) (eI h 0 30))) 0 32 (upd (eA h 0 32) (((eI h 0 29)).toNatClampNeg) (eI h 0 36)))) := hD
      refine lv_aload_n hx hb dX9_clause_107 rfl (lv_at hl 0 rfl) ?_
      refine va_get (D := G) (ci := 9) (v := .ref (r 33)) (C := RX9) (T := TX9) (N := 53) hx hb hts iX9 hown hK hP 0 wM_at0 rfl 33 (by decide) (hts _ m_216) (fun _ h9 => h9) rfl dX9_clause_108 ?_
      refine lv_aload_n hx hb dX9_clause_111 rfl (lv_at hl 0 rfl) ?_
      refine va_get (D := G) (ci := 9) (v := .int (eI h 0 29)) (C := RX9) (T := TX9) (N := 53) hx hb hts iX9 hown hK hP 0 wM_at0 rfl 29 (by decide) (hts _ m_193) (fun _ h9 => h9) rfl dX9_clause_112 ?_
      refine lv_iconst (v := (-1)) hx hb dX9_clause_115 (by decide) ?_
      obtain ⟨hi_13, hF⟩ := ob_if hF
      refine va_iast (D := G) hx hb hK hP hD hS 18 0 wM_at18 rfl (vp_in_iff.mpr hi_13) dX9_clause_116 (fun H locs hP hD hS => ?_)
      rw [wM_sA18] at hP hD
      have hP : va_P G vwCl (wM m0 r cI cJ cZ cB cT (sA (sA (sA h 0 31 (upd (eA h 0 31) (((eI h 0 29)).toNatClampNeg) (eI h 0 30))) 0 32 (upd (eA h 0 32) (((eI h 0 29)).toNatClampNeg) (eI h 0 36))) 0 33 (upd (eA h 0 33) (((eI h 0 29)).toNatClampNeg) (-1)))) H := hP
      have hD : va_D A (wM m0 r cI cJ cZ cB cT (sA (sA (sA h 0 31 (upd (eA h 0 31) (((eI h 0 29)).toNatClampNeg) (eI h 0 30))) 0 32 (upd (eA h 0 32) (((eI h 0 29)).toNatClampNeg) (eI h 0 36))) 0 33 (upd (eA h 0 33) (((eI h 0 29)).toNatClampNeg) (-1)))) := hD
      refine lv_aload_n hx hb dX9_clause_117 rfl (lv_at hl 0 rfl) ?_
      refine va_get (D := G) (ci := 9) (v := .ref (r 34)) (C := RX9) (T := TX9) (N := 53) hx hb hts iX9 hown hK hP 0 wM_at0 rfl 34 (by decide) (hts _ m_217) (fun _ h9 => h9) rfl dX9_clause_118 ?_
      refine lv_aload_n hx hb dX9_clause_121 rfl (lv_at hl 0 rfl) ?_
      refine va_get (D := G) (ci := 9) (v := .int (eI h 0 29)) (C := RX9) (T := TX9) (N := 53) hx hb hts iX9 hown hK hP 0 wM_at0 rfl 29 (by decide) (hts _ m_193) (fun _ h9 => h9) rfl dX9_clause_122 ?_
      refine lv_iconst (v := (-1)) hx hb dX9_clause_125 (by decide) ?_
      obtain ⟨hi_14, hF⟩ := ob_if hF
      refine va_iast (D := G) hx hb hK hP hD hS 19 0 wM_at19 rfl (vp_in_iff.mpr hi_14) dX9_clause_126 (fun H locs hP hD hS => ?_)
      rw [wM_sA19] at hP hD
      have hP : va_P G vwCl (wM m0 r cI cJ cZ cB cT (sA (sA (sA (sA h 0 31 (upd (eA h 0 31) (((eI h 0 29)).toNatClampNeg) (eI h 0 30))) 0 32 (upd (eA h 0 32) (((eI h 0 29)).toNatClampNeg) (eI h 0 36))) 0 33 (upd (eA h 0 33) (((eI h 0 29)).toNatClampNeg) (-1))) 0 34 (upd (eA h 0 34) (((eI h 0 29)).toNatClampNeg) (-1)))) H := hP
      have hD : va_D A (wM m0 r cI cJ cZ cB cT (sA (sA (sA (sA h 0 31 (upd (eA h 0 31) (((eI h 0 29)).toNatClampNeg) (eI h 0 30))) 0 32 (upd (eA h 0 32) (((eI h 0 29)).toNatClampNeg) (eI h 0 36))) 0 33 (upd (eA h 0 33) (((eI h 0 29)).toNatClampNeg) (-1))) 0 34 (upd (eA h 0 34) (((eI h 0 29)).toNatClampNeg) (-1)))) := hD
      refine lv_aload_n hx hb dX9_clause_127 rfl (lv_at hl 0 rfl) ?_
      refine va_get (D := G) (ci := 9) (v := .ref (r 35)) (C := RX9) (T := TX9) (N := 53) hx hb hts iX9 hown hK hP 0 wM_at0 rfl 35 (by decide) (hts _ m_218) (fun _ h9 => h9) rfl dX9_clause_128 ?_
      refine lv_aload_n hx hb dX9_clause_131 rfl (lv_at hl 0 rfl) ?_
      refine va_get (D := G) (ci := 9) (v := .int (eI h 0 29)) (C := RX9) (T := TX9) (N := 53) hx hb hts iX9 hown hK hP 0 wM_at0 rfl 29 (by decide) (hts _ m_193) (fun _ h9 => h9) rfl dX9_clause_132 ?_
      refine lv_iconst (v := (-1)) hx hb dX9_clause_135 (by decide) ?_
      obtain ⟨hi_15, hF⟩ := ob_if hF
      refine va_iast (D := G) hx hb hK hP hD hS 20 0 wM_at20 rfl (vp_in_iff.mpr hi_15) dX9_clause_136 (fun H locs hP hD hS => ?_)
      rw [wM_sA20] at hP hD
      have hP : va_P G vwCl (wM m0 r cI cJ cZ cB cT (sA (sA (sA (sA (sA h 0 31 (upd (eA h 0 31) (((eI h 0 29)).toNatClampNeg) (eI h 0 30))) 0 32 (upd (eA h 0 32) (((eI h 0 29)).toNatClampNeg) (eI h 0 36))) 0 33 (upd (eA h 0 33) (((eI h 0 29)).toNatClampNeg) (-1))) 0 34 (upd (eA h 0 34) (((eI h 0 29)).toNatClampNeg) (-1))) 0 35 (upd (eA h 0 35) (((eI h 0 29)).toNatClampNeg) (-1)))) H := hP
      have hD : va_D A (wM m0 r cI cJ cZ cB cT (sA (sA (sA (sA (sA h 0 31 (upd (eA h 0 31) (((eI h 0 29)).toNatClampNeg) (eI h 0 30))) 0 32 (upd (eA h 0 32) (((eI h 0 29)).toNatClampNeg) (eI h 0 36))) 0 33 (upd (eA h 0 33) (((eI h 0 29)).toNatClampNeg) (-1))) 0 34 (upd (eA h 0 34) (((eI h 0 29)).toNatClampNeg) (-1))) 0 35 (upd (eA h 0 35) (((eI h 0 29)).toNatClampNeg) (-1)))) := hD
      refine lv_aload_n hx hb dX9_clause_137 rfl (lv_at hl 0 rfl) ?_
      obtain ⟨h_16, e_16, hF⟩ := ob1_some hF
      refine gx_callv (gx_runV (As := []) (rest := []) ⟨hx, hb, hml, hown, hts⟩ (c_X9_next l G cI cJ cZ cB cT m0 r (sA (sA (sA (sA (sA h 0 31 (upd (eA h 0 31) (((eI h 0 29)).toNatClampNeg) (eI h 0 30))) 0 32 (upd (eA h 0 32) (((eI h 0 29)).toNatClampNeg) (eI h 0 36))) 0 33 (upd (eA h 0 33) (((eI h 0 29)).toNatClampNeg) (-1))) 0 34 (upd (eA h 0 34) (((eI h 0 29)).toNatClampNeg) (-1))) 0 35 (upd (eA h 0 35) (((eI h 0 29)).toNatClampNeg) (-1)))  h_16 e_16 H.size) (gG_V m_150 m_151 m_152 m_64 m_149) rfl e_X9_next ⟨Nat.le_of_ble_eq_true rfl, Nat.le_of_ble_eq_true rfl⟩ hK hP hD hE hS hA 0 wM_at0 rfl rfl hl.1 rfl (Nat.le_of_ble_eq_true rfl) dX9_clause_138 ⟨Nat.le_refl _, Nat.le_refl _⟩) hP hD hS hA (fun u_16 H locs hw_16 hP hD hS => ?_)
      refine lv_aload_n hx hb dX9_clause_141 rfl (lv_at hl 0 rfl) ?_
      refine va_get (D := G) (ci := 9) (v := .int (eI h_16 0 30)) (C := RX9) (T := TX9) (N := 53) hx hb hts iX9 hown hK hP 0 wM_at0 rfl 30 (by decide) (hts _ m_184) (fun _ h9 => h9) rfl dX9_clause_142 ?_
      refine lv_iconst (v := 3) hx hb dX9_clause_145 (by decide) ?_
      refine lv_icmp_gt (tgt := 184) hx hb dX9_clause_146 (by decide) (fun c_17 => ?_) (fun c_17 => ?_)
      · have hF := ob_pos c_17 hF
        refine lv_aload_n hx hb dX9_clause_184 rfl (lv_at hl 0 rfl) ?_
        refine va_get (D := G) (ci := 9) (v := .ref (r 33)) (C := RX9) (T := TX9) (N := 53) hx hb hts iX9 hown hK hP 0 wM_at0 rfl 33 (by decide) (hts _ m_216) (fun _ h9 => h9) rfl dX9_clause_185 ?_
        refine lv_aload_n hx hb dX9_clause_188 rfl (lv_at hl 0 rfl) ?_
        refine va_get (D := G) (ci := 9) (v := .int (eI h_16 0 29)) (C := RX9) (T := TX9) (N := 53) hx hb hts iX9 hown hK hP 0 wM_at0 rfl 29 (by decide) (hts _ m_193) (fun _ h9 => h9) rfl dX9_clause_189 ?_
        refine lv_aload_n hx hb dX9_clause_192 rfl (lv_at hl 0 rfl) ?_
        refine va_get (D := G) (ci := 9) (v := .int (eI h_16 0 30)) (C := RX9) (T := TX9) (N := 53) hx hb hts iX9 hown hK hP 0 wM_at0 rfl 30 (by decide) (hts _ m_184) (fun _ h9 => h9) rfl dX9_clause_193 ?_
        refine lv_bipush (v := 7) hx hb dX9_clause_196 (by decide) ?_
        refine lv_icmp_ne (tgt := 211) hx hb dX9_clause_198 (by decide) (fun c_18 => ?_) (fun c_18 => ?_)
        · have hF := ob_neg c_18 hF
          refine lv_aload_n hx hb dX9_clause_211 rfl (lv_at hl 0 rfl) ?_
          refine lv_iconst (v := 0) hx hb dX9_clause_212 (by decide) ?_
          refine lv_bipush (v := 9) hx hb dX9_clause_213 (by decide) ?_
          obtain ⟨r_19, h_19, e_19, hF⟩ := ob2_some hF
          refine gx_calli (gx_runV (As := [.int 0, .int 9]) (rest := [.int (eI h_16 0 29), .ref (r 33)]) ⟨hx, hb, hml, hown, hts⟩ (c_X9_number l G cI cJ cZ cB cT m0 r h_16 0 9 r_19 h_19 e_19 H.size) (gG_V m_220 m_221 m_222 m_64 m_219) rfl e_X9_number ⟨Nat.le_of_ble_eq_true rfl, Nat.le_of_ble_eq_true rfl⟩ hK hP hD hE hS hA 0 wM_at0 rfl rfl hl.1 rfl (Nat.le_of_ble_eq_true rfl) dX9_clause_215 ⟨Nat.le_refl _, Nat.le_refl _⟩) hP hD hS hA (fun x_19 u_19 H locs hw_19 hP hD hS => ?_)
          subst x_19
          exact hJ_218 h_19 r_19 (eI h_16 0 29) hF H _ ls hP hD hS (lv_sub hl [0] rfl)
        · have hF := ob_pos c_18 hF
          refine lv_aload_n hx hb dX9_clause_201 rfl (lv_at hl 0 rfl) ?_
          refine lv_iconst (v := 1) hx hb dX9_clause_202 (by decide) ?_
          refine lv_bipush (v := 99) hx hb dX9_clause_203 (by decide) ?_
          obtain ⟨r_20, h_20, e_20, hF⟩ := ob2_some hF
          refine gx_calli (gx_runV (As := [.int 1, .int 99]) (rest := [.int (eI h_16 0 29), .ref (r 33)]) ⟨hx, hb, hml, hown, hts⟩ (c_X9_number l G cI cJ cZ cB cT m0 r h_16 1 99 r_20 h_20 e_20 H.size) (gG_V m_220 m_221 m_222 m_64 m_219) rfl e_X9_number ⟨Nat.le_of_ble_eq_true rfl, Nat.le_of_ble_eq_true rfl⟩ hK hP hD hE hS hA 0 wM_at0 rfl rfl hl.1 rfl (Nat.le_of_ble_eq_true rfl) dX9_clause_205 ⟨Nat.le_refl _, Nat.le_refl _⟩) hP hD hS hA (fun x_20 u_20 H locs hw_20 hP hD hS => ?_)
          subst x_20
          refine lv_goto (tgt := 218) hx hb dX9_clause_208 (by decide) ?_
          exact hJ_218 h_20 r_20 (eI h_16 0 29) hF H _ ls hP hD hS (lv_sub hl [0] rfl)
      · have hF := ob_neg c_17 hF
        refine lv_aload_n hx hb dX9_clause_149 rfl (lv_at hl 0 rfl) ?_
        refine lv_aload_n hx hb dX9_clause_150 rfl (lv_at hl 0 rfl) ?_
        refine va_get (D := G) (ci := 9) (v := .int (eI h_16 0 30)) (C := RX9) (T := TX9) (N := 53) hx hb hts iX9 hown hK hP 0 wM_at0 rfl 30 (by decide) (hts _ m_184) (fun _ h9 => h9) rfl dX9_clause_151 ?_
        refine lv_iconst (v := 3) hx hb dX9_clause_154 (by decide) ?_
        refine lv_icmp_ne (tgt := 162) hx hb dX9_clause_155 (by decide) (fun c_21 => ?_) (fun c_21 => ?_)
        · have hF := ob_neg c_21 hF
          refine lv_iconst (v := 1) hx hb dX9_clause_162 (by decide) ?_
          exact hJ_163 h_16 1 hF H _ ls hP hD hS (lv_sub hl [0] rfl)
        · have hF := ob_pos c_21 hF
          refine lv_iconst (v := 2) hx hb dX9_clause_158 (by decide) ?_
          refine lv_goto (tgt := 163) hx hb dX9_clause_159 (by decide) ?_
          exact hJ_163 h_16 2 hF H _ ls hP hD hS (lv_sub hl [0] rfl)
    · have hF := ob_neg c_10 hF
      obtain rfl := ob_one hF
      exact gw_vret () hx hb hr hlocks hP hD hS trivial dX9_clause_80
  have hJ_58 : ∀ (h : HS), f_X9_clause_58 h = some hh → ∀ (H : Heap) (locs : List Loc) (ls : Array Slot), va_P G vwCl (wM m0 r cI cJ cZ cB cT h) H → va_D A (wM m0 r cI cJ cZ cB cT h) → va_S A s.heap H locs → lv_has ls 1 [(0, .ref m0)] → W p l e (gRm 5) s m args below meth c H locs 0 0 (MQ below (va_Qv (fun (_ : Unit) => True) (gB G (fun (_ : Unit) => (wM m0 r cI cJ cZ cB cT hh)) A) A) args s 0 0 A) (F0 m 58 ls []) := by
    intro h hF H locs ls hP hD hS hl
    unfold f_X9_clause_58 at hF
    refine lv_aload_n hx hb dX9_clause_58 rfl (lv_at hl 0 rfl) ?_
    refine va_get (D := G) (ci := 9) (v := .int (eI h 0 29)) (C := RX9) (T := TX9) (N := 53) hx hb hts iX9 hown hK hP 0 wM_at0 rfl 29 (by decide) (hts _ m_193) (fun _ h9 => h9) rfl dX9_clause_59 ?_
    refine lv_bipush (v := 24) hx hb dX9_clause_62 (by decide) ?_
    refine lv_icmp_ne (tgt := 73) hx hb dX9_clause_64 (by decide) (fun c_8 => ?_) (fun c_8 => ?_)
    · have hF := ob_neg c_8 hF
      exact hJ_73 h hF H _ ls hP hD hS (lv_sub hl [0] rfl)
    · have hF := ob_pos c_8 hF
      refine lv_aload_n hx hb dX9_clause_67 rfl (lv_at hl 0 rfl) ?_
      refine lv_bipush (v := 6) hx hb dX9_clause_68 (by decide) ?_
      obtain ⟨h_9, e_9, hF⟩ := ob1_some hF
      refine gx_callv (gx_runV (As := [.int 6]) (rest := []) ⟨hx, hb, hml, hown, hts⟩ (c_X9_errs l G cI cJ cZ cB cT m0 r h 6 h_9 e_9 H.size) (gG_V m_154 m_155 m_156 m_64 m_153) rfl e_X9_errs ⟨Nat.le_of_ble_eq_true rfl, Nat.le_of_ble_eq_true rfl⟩ hK hP hD hE hS hA 0 wM_at0 rfl rfl hl.1 rfl (Nat.le_of_ble_eq_true rfl) dX9_clause_70 ⟨Nat.le_refl _, Nat.le_refl _⟩) hP hD hS hA (fun u_9 H locs hw_9 hP hD hS => ?_)
      exact hJ_73 h_9 hF H _ ls hP hD hS (lv_sub hl [0] rfl)
  unfold f_X9_clause at hF
  refine lv_aload_n hx hb dX9_clause_0 rfl (lv_at hl 0 rfl) ?_
  refine va_get (D := G) (ci := 9) (v := .int (eI h 0 17)) (C := RX9) (T := TX9) (N := 53) hx hb hts iX9 hown hK hP 0 wM_at0 rfl 17 (by decide) (hts _ m_131) (fun _ h9 => h9) rfl dX9_clause_1 ?_
  refine lv_iconst (v := 1) hx hb dX9_clause_4 (by decide) ?_
  refine lv_icmp_ne (tgt := 17) hx hb dX9_clause_5 (by decide) (fun c_1 => ?_) (fun c_1 => ?_)
  · have hF := ob_neg c_1 hF
    exact hJ_17 h hF H _ ls hP hD hS (lv_sub hl [0] rfl)
  · have hF := ob_pos c_1 hF
    refine lv_aload_n hx hb dX9_clause_8 rfl (lv_at hl 0 rfl) ?_
    refine va_get (D := G) (ci := 9) (v := .int (eI h 0 18)) (C := RX9) (T := TX9) (N := 53) hx hb hts iX9 hown hK hP 0 wM_at0 rfl 18 (by decide) (hts _ m_130) (fun _ h9 => h9) rfl dX9_clause_9 ?_
    refine lv_bipush (v := 7) hx hb dX9_clause_12 (by decide) ?_
    refine lv_icmp_le (tgt := 23) hx hb dX9_clause_14 (by decide) (fun c_2 => ?_) (fun c_2 => ?_)
    · have hF := ob_pos c_2 hF
      refine lv_aload_n hx hb dX9_clause_23 rfl (lv_at hl 0 rfl) ?_
      refine lv_aload_n hx hb dX9_clause_24 rfl (lv_at hl 0 rfl) ?_
      refine va_get (D := G) (ci := 9) (v := .int (eI h 0 18)) (C := RX9) (T := TX9) (N := 53) hx hb hts iX9 hown hK hP 0 wM_at0 rfl 18 (by decide) (hts _ m_130) (fun _ h9 => h9) rfl dX9_clause_25 ?_
      refine va_put (D := G) (ci := 9) (v := .int (eI h 0 18)) (ty := .int) (C := RX9) (T := TX9) (N := 53) hx hb hts iX9 tyX9 tyX9_ok nmX9 hown hK hP hD hS 0 wM_at0 rfl 30 (by decide) (hts _ m_184) (fun _ h9 => h9) rfl (tyX9_ok 30 (by decide)) rfl rfl (Nat.le_of_ble_eq_true rfl) dX9_clause_28 (fun H locs hP hD hS => ?_)
      rw [wM_sI0_30] at hP hD
      refine lv_aload_n hx hb dX9_clause_31 rfl (lv_at hl 0 rfl) ?_
      refine va_get (D := G) (ci := 9) (v := .int (eI h 0 18)) (C := RX9) (T := TX9) (N := 53) hx hb hts iX9 hown hK hP 0 wM_at0 rfl 30 (by decide) (hts _ m_184) (fun _ h9 => h9) rfl dX9_clause_32 ?_
      refine lv_iconst (v := 3) hx hb dX9_clause_35 (by decide) ?_
      refine lv_icmp_gt (tgt := 58) hx hb dX9_clause_36 (by decide) (fun c_3 => ?_) (fun c_3 => ?_)
      · have hF := ob_pos c_3 hF
        exact hJ_58 (sI h 0 30 (eI h 0 18)) hF H _ ls hP hD hS (lv_sub hl [0] rfl)
      · have hF := ob_neg c_3 hF
        refine lv_aload_n hx hb dX9_clause_39 rfl (lv_at hl 0 rfl) ?_
        refine lv_aload_n hx hb dX9_clause_40 rfl (lv_at hl 0 rfl) ?_
        refine va_get (D := G) (ci := 9) (v := .int (eI h 0 18)) (C := RX9) (T := TX9) (N := 53) hx hb hts iX9 hown hK hP 0 wM_at0 rfl 30 (by decide) (hts _ m_184) (fun _ h9 => h9) rfl dX9_clause_41 ?_
        obtain ⟨r_4, h_4, e_4, hF⟩ := ob2_some hF
        refine gx_calli (gx_runV (As := [.int (eI h 0 18)]) (rest := []) ⟨hx, hb, hml, hown, hts⟩ (c_X9_wasTold l G cI cJ cZ cB cT m0 r (sI h 0 30 (eI h 0 18)) (eI h 0 18) r_4 h_4 e_4 H.size) (gG_V m_212 m_213 m_214 m_64 m_211) rfl e_X9_wasTold ⟨Nat.le_of_ble_eq_true rfl, Nat.le_of_ble_eq_true rfl⟩ hK hP hD hE hS hA 0 wM_at0 rfl rfl hl.1 rfl (Nat.le_of_ble_eq_true rfl) dX9_clause_44 ⟨Nat.le_refl _, Nat.le_refl _⟩) hP hD hS hA (fun x_4 u_4 H locs hw_4 hP hD hS => ?_)
        subst x_4
        refine lv_if_eq (tgt := 58) hx hb dX9_clause_47 (by decide) (fun c_5 => ?_) (fun c_5 => ?_)
        · have hF := ob_pos c_5 hF
          exact hJ_58 h_4 hF H _ ls hP hD hS (lv_sub hl [0] rfl)
        · have hF := ob_neg c_5 hF
          refine lv_aload_n hx hb dX9_clause_50 rfl (lv_at hl 0 rfl) ?_
          refine lv_iconst (v := 4) hx hb dX9_clause_51 (by decide) ?_
          obtain ⟨h_6, e_6, hF⟩ := ob1_some hF
          refine gx_callv (gx_runV (As := [.int 4]) (rest := []) ⟨hx, hb, hml, hown, hts⟩ (c_X9_errs l G cI cJ cZ cB cT m0 r h_4 4 h_6 e_6 H.size) (gG_V m_154 m_155 m_156 m_64 m_153) rfl e_X9_errs ⟨Nat.le_of_ble_eq_true rfl, Nat.le_of_ble_eq_true rfl⟩ hK hP hD hE hS hA 0 wM_at0 rfl rfl hl.1 rfl (Nat.le_of_ble_eq_true rfl) dX9_clause_52 ⟨Nat.le_refl _, Nat.le_refl _⟩) hP hD hS hA (fun u_6 H locs hw_6 hP hD hS => ?_)
          refine lv_goto (tgt := 73) hx hb dX9_clause_55 (by decide) ?_
          exact hJ_73 h_6 hF H _ ls hP hD hS (lv_sub hl [0] rfl)
    · have hF := ob_neg c_2 hF
      exact hJ_17 h hF H _ ls hP hD hS (lv_sub hl [0] rfl)
def f_X9_text_318 : Nat → HS → Int32 → Int32 → Option (Int32 × HS)
  | 0, _, _, _ => none
  | n + 1, h, x1, x2 => (if (eI h 0 36) ≤ x2 then (some (x1, (sA h 0 0 (upd (eA h 0 0) 3 (((eA h 0 0) 3) + 1))))) else (if 0 ≤ (x2).toInt ∧ (x2).toInt < 400 then (if 0 ≤ (((400 * x1) + x2)).toInt ∧ (((400 * x1) + x2)).toInt < 1600 then (if 0 ≤ (x2).toInt ∧ (x2).toInt < 400 then (if 0 ≤ (((400 * x1) + x2)).toInt ∧ (((400 * x1) + x2)).toInt < 1600 then ((f_X9_text_318 n) (sA (sA h 0 12 (upd (eA h 0 12) ((((400 * x1) + x2)).toNatClampNeg) ((eA h 0 37) ((x2).toNatClampNeg)))) 0 13 (upd (eA h 0 13) ((((400 * x1) + x2)).toNatClampNeg) ((eA h 0 38) ((x2).toNatClampNeg)))) x1 (x2 + 1)) else none) else none) else none) else none))
theorem f_X9_text_318_s (n : Nat) (h : HS) (x1 : Int32) (x2 : Int32) : f_X9_text_318 (n + 1) h x1 x2 = (if (eI h 0 36) ≤ x2 then (some (x1, (sA h 0 0 (upd (eA h 0 0) 3 (((eA h 0 0) 3) + 1))))) else (if 0 ≤ (x2).toInt ∧ (x2).toInt < 400 then (if 0 ≤ (((400 * x1) + x2)).toInt ∧ (((400 * x1) + x2)).toInt < 1600 then (if 0 ≤ (x2).toInt ∧ (x2).toInt < 400 then (if 0 ≤ (((400 * x1) + x2)).toInt ∧ (((400 * x1) + x2)).toInt < 1600 then ((f_X9_text_318 n) (sA (sA h 0 12 (upd (eA h 0 12) ((((400 * x1) + x2)).toNatClampNeg) ((eA h 0 37) ((x2).toNatClampNeg)))) 0 13 (upd (eA h 0 13) ((((400 * x1) + x2)).toNatClampNeg) ((eA h 0 38) ((x2).toNatClampNeg)))) x1 (x2 + 1)) else none) else none) else none) else none)) := rfl
def f_X9_text_211 : Nat → HS → Int32 → Int32 → Option (Int32 × HS)
  | 0, _, _, _ => none
  | n + 1, h, x1, x2 => (if (eI h 0 29) ≤ x2 then (f_X9_text_318 8589934592 h x1 0) else (if 0 ≤ (x2).toInt ∧ (x2).toInt < 24 then (if 0 ≤ (((24 * x1) + x2)).toInt ∧ (((24 * x1) + x2)).toInt < 96 then (if 0 ≤ (x2).toInt ∧ (x2).toInt < 24 then (if 0 ≤ (((24 * x1) + x2)).toInt ∧ (((24 * x1) + x2)).toInt < 96 then (if 0 ≤ (x2).toInt ∧ (x2).toInt < 24 then (if 0 ≤ (((24 * x1) + x2)).toInt ∧ (((24 * x1) + x2)).toInt < 96 then (if 0 ≤ (x2).toInt ∧ (x2).toInt < 24 then (if 0 ≤ (((24 * x1) + x2)).toInt ∧ (((24 * x1) + x2)).toInt < 96 then (if 0 ≤ (x2).toInt ∧ (x2).toInt < 24 then (if 0 ≤ (((24 * x1) + x2)).toInt ∧ (((24 * x1) + x2)).toInt < 96 then ((f_X9_text_211 n) (sA (sA (sA (sA (sA h 0 7 (upd (eA h 0 7) ((((24 * x1) + x2)).toNatClampNeg) ((eA h 0 31) ((x2).toNatClampNeg)))) 0 8 (upd (eA h 0 8) ((((24 * x1) + x2)).toNatClampNeg) ((400 * x1) + ((eA h 0 32) ((x2).toNatClampNeg))))) 0 9 (upd (eA h 0 9) ((((24 * x1) + x2)).toNatClampNeg) ((eA h 0 33) ((x2).toNatClampNeg)))) 0 10 (upd (eA h 0 10) ((((24 * x1) + x2)).toNatClampNeg) ((eA h 0 34) ((x2).toNatClampNeg)))) 0 11 (upd (eA h 0 11) ((((24 * x1) + x2)).toNatClampNeg) ((eA h 0 35) ((x2).toNatClampNeg)))) x1 (x2 + 1)) else none) else none) else none) else none) else none) else none) else none) else none) else none) else none))
theorem f_X9_text_211_s (n : Nat) (h : HS) (x1 : Int32) (x2 : Int32) : f_X9_text_211 (n + 1) h x1 x2 = (if (eI h 0 29) ≤ x2 then (f_X9_text_318 8589934592 h x1 0) else (if 0 ≤ (x2).toInt ∧ (x2).toInt < 24 then (if 0 ≤ (((24 * x1) + x2)).toInt ∧ (((24 * x1) + x2)).toInt < 96 then (if 0 ≤ (x2).toInt ∧ (x2).toInt < 24 then (if 0 ≤ (((24 * x1) + x2)).toInt ∧ (((24 * x1) + x2)).toInt < 96 then (if 0 ≤ (x2).toInt ∧ (x2).toInt < 24 then (if 0 ≤ (((24 * x1) + x2)).toInt ∧ (((24 * x1) + x2)).toInt < 96 then (if 0 ≤ (x2).toInt ∧ (x2).toInt < 24 then (if 0 ≤ (((24 * x1) + x2)).toInt ∧ (((24 * x1) + x2)).toInt < 96 then (if 0 ≤ (x2).toInt ∧ (x2).toInt < 24 then (if 0 ≤ (((24 * x1) + x2)).toInt ∧ (((24 * x1) + x2)).toInt < 96 then ((f_X9_text_211 n) (sA (sA (sA (sA (sA h 0 7 (upd (eA h 0 7) ((((24 * x1) + x2)).toNatClampNeg) ((eA h 0 31) ((x2).toNatClampNeg)))) 0 8 (upd (eA h 0 8) ((((24 * x1) + x2)).toNatClampNeg) ((400 * x1) + ((eA h 0 32) ((x2).toNatClampNeg))))) 0 9 (upd (eA h 0 9) ((((24 * x1) + x2)).toNatClampNeg) ((eA h 0 33) ((x2).toNatClampNeg)))) 0 10 (upd (eA h 0 10) ((((24 * x1) + x2)).toNatClampNeg) ((eA h 0 34) ((x2).toNatClampNeg)))) 0 11 (upd (eA h 0 11) ((((24 * x1) + x2)).toNatClampNeg) ((eA h 0 35) ((x2).toNatClampNeg)))) x1 (x2 + 1)) else none) else none) else none) else none) else none) else none) else none) else none) else none) else none)) := rfl
def f_X9_text_167 (h : HS) : Option (Int32 × HS) := (if (eI h 0 19) ≤ 0 then (if 0 ≤ (((eA h 0 0) 3)).toInt ∧ (((eA h 0 0) 3)).toInt < 4 then (f_X9_text_211 8589934592 (sA (sI (sI h 0 4 (eI h 0 19)) 0 5 (eI h 0 20)) 0 6 (upd (eA h 0 6) ((((eA h 0 0) 3)).toNatClampNeg) (eI h 0 29))) ((eA h 0 0) 3) 0) else none) else (some ((-1), (sI (sI h 0 4 (eI h 0 19)) 0 5 (eI h 0 20)))))
def f_X9_text_96 (k74 : HS → Option (Int32 × HS)) (h : HS) : Option (Int32 × HS) := (if (eI h 0 28) = 0 then (ob1 (f_X9_asks h) (fun h_9 => (k74 h_9))) else (if (eI h 0 28) = 1 then (ob1 (f_X9_begins h) (fun h_11 => (k74 h_11))) else (if (eI h 0 28) = 2 then (ob1 (f_X9_goesOn h) (fun h_13 => (k74 h_13))) else (if (eI h 0 28) = 3 then (ob1 (f_X9_asksOn h) (fun h_15 => (k74 h_15))) else (ob1 (f_X9_clause h) (fun h_16 => (k74 h_16)))))))
def f_X9_text_74 : Nat → HS → Option (Int32 × HS)
  | 0, _ => none
  | n + 1, h => (if (eI h 0 19) = 0 then (if (eI h 0 28) = 4 then (if (eI h 0 17) = 0 then (f_X9_text_167 h) else (f_X9_text_96 (f_X9_text_74 n) h)) else (f_X9_text_96 (f_X9_text_74 n) h)) else (f_X9_text_167 h))
theorem f_X9_text_74_s (n : Nat) (h : HS) : f_X9_text_74 (n + 1) h = (if (eI h 0 19) = 0 then (if (eI h 0 28) = 4 then (if (eI h 0 17) = 0 then (f_X9_text_167 h) else (f_X9_text_96 (f_X9_text_74 n) h)) else (f_X9_text_96 (f_X9_text_74 n) h)) else (f_X9_text_167 h)) := rfl
def f_X9_text (h : HS) : Option (Int32 × HS) := (if ((eA h 0 0) 3) = 4 then (some ((-1), h)) else (ob1 (f_X9_next (sI (sI (sI (sI (sI (sI (sI (sI (sI (sI (sI h 0 14 (eI h 0 3)) 0 3 0) 0 15 0) 0 19 0) 0 20 (-1)) 0 21 0) 0 22 0) 0 25 0) 0 28 4) 0 29 0) 0 36 0)) (fun h_2 => (f_X9_text_74 8589934592 h_2))))
theorem e_X9_asks : yX9_asks.cls = RX9 ∧ yX9_asks.cls ≠ "java/lang/invoke/MethodHandle" ∧ yX9_asks.cls ≠ "java/lang/invoke/VarHandle" ∧ (parseMethodDescriptor yX9_asks.desc).map (fun d => d.parameters.length) = some 0 := by decide +kernel
theorem e_X9_asksOn : yX9_asksOn.cls = RX9 ∧ yX9_asksOn.cls ≠ "java/lang/invoke/MethodHandle" ∧ yX9_asksOn.cls ≠ "java/lang/invoke/VarHandle" ∧ (parseMethodDescriptor yX9_asksOn.desc).map (fun d => d.parameters.length) = some 0 := by decide +kernel
theorem e_X9_begins : yX9_begins.cls = RX9 ∧ yX9_begins.cls ≠ "java/lang/invoke/MethodHandle" ∧ yX9_begins.cls ≠ "java/lang/invoke/VarHandle" ∧ (parseMethodDescriptor yX9_begins.desc).map (fun d => d.parameters.length) = some 0 := by decide +kernel
theorem e_X9_clause : yX9_clause.cls = RX9 ∧ yX9_clause.cls ≠ "java/lang/invoke/MethodHandle" ∧ yX9_clause.cls ≠ "java/lang/invoke/VarHandle" ∧ (parseMethodDescriptor yX9_clause.desc).map (fun d => d.parameters.length) = some 0 := by decide +kernel
theorem e_X9_goesOn : yX9_goesOn.cls = RX9 ∧ yX9_goesOn.cls ≠ "java/lang/invoke/MethodHandle" ∧ yX9_goesOn.cls ≠ "java/lang/invoke/VarHandle" ∧ (parseMethodDescriptor yX9_goesOn.desc).map (fun d => d.parameters.length) = some 0 := by decide +kernel
set_option maxHeartbeats 4000000 in
set_option maxRecDepth 100000 in
theorem c_X9_text (l : Launch) (G : va_G) (cI cJ cZ cB cT : ClassId) (m0 : Nat) (r : Nat → Nat) (h : HS)  (rr : Int32) (hh : HS) (hF : f_X9_text h = some (rr, hh)) : gMi l yX9_text (gws yX9_text cX9_text 3 (some .int)) 6 G (gT cI cJ cZ cB cT) [.ref m0] (wM m0 r cI cJ cZ cB cT h) (fun x (_ : Unit) => x = rr) (fun (_ : Unit) => (wM m0 r cI cJ cZ cB cT hh)) := by
  intro sz
  refine gM_start (y := yX9_text) (av := [.ref m0]) (ws := (wM m0 r cI cJ cZ cB cT h)) (Qf := fun A => va_Qi (fun x (_ : Unit) => x = rr) (gB G (fun (_ : Unit) => (wM m0 r cI cJ cZ cB cT hh)) A) A) (cc := cX9_text) (maxL := 3) (ret := (some .int)) (by decide) (Nat.le_of_ble_eq_true rfl) ?_
  intro p e s m args below meth c A ls H hx hb hr hts hown hin hlocks hml hP hK hD hA hS hl hE
  have hl : lv_has ls 3 [(0, .ref m0)] := hl
  have hJ_318 : ∀ (n_318 : Nat) (h : HS) (x1 : Int32) (x2 : Int32), f_X9_text_318 n_318 h x1 x2 = some (rr, hh) → ∀ (H : Heap) (locs : List Loc) (ls : Array Slot), va_P G vwCl (wM m0 r cI cJ cZ cB cT h) H → va_D A (wM m0 r cI cJ cZ cB cT h) → va_S A s.heap H locs → lv_has ls 3 [(0, .ref m0), (1, .int x1), (2, .int x2)] → W p l e (gRm 6) s m args below meth c H locs 0 0 (MQ below (va_Qi (fun x (_ : Unit) => x = rr) (gB G (fun (_ : Unit) => (wM m0 r cI cJ cZ cB cT hh)) A) A) args s 0 0 A) (F0 m 318 ls []) := by
    intro n_318
    induction n_318 with
    | zero =>
      intro h x1 x2 hF
      exact absurd hF (by simp [f_X9_text_318])
    | succ n_318 ih_318 =>
      intro h x1 x2 hF H locs ls hP hD hS hl
      rw [f_X9_text_318_s] at hF
      refine lv_iload_n hx hb dX9_text_318 rfl (lv_at hl 2 rfl) ?_
      refine lv_aload_n hx hb dX9_text_319 rfl (lv_at hl 0 rfl) ?_
      refine va_get (D := G) (ci := 9) (v := .int (eI h 0 36)) (C := RX9) (T := TX9) (N := 53) hx hb hts iX9 hown hK hP 0 wM_at0 rfl 36 (by decide) (hts _ m_140) (fun _ h9 => h9) rfl dX9_text_320 ?_
      refine lv_icmp_ge (tgt := 368) hx hb dX9_text_323 (by decide) (fun c_28 => ?_) (fun c_28 => ?_)
      · have hF := ob_pos c_28 hF
        refine lv_aload_n hx hb dX9_text_368 rfl (lv_at hl 0 rfl) ?_
        refine va_get (D := G) (ci := 9) (v := .ref (r 0)) (C := RX9) (T := TX9) (N := 53) hx hb hts iX9 hown hK hP 0 wM_at0 rfl 0 (by decide) (hts _ m_92) (fun _ h9 => h9) rfl dX9_text_369 ?_
        refine lv_iconst (v := 3) hx hb dX9_text_372 (by decide) ?_
        refine lv_dup2_11 hx hb dX9_text_373 rfl rfl ?_
        refine va_iald (D := G) hx hb hK hP 1 0 wM_at1 rfl (vp_in_nI (n := 3) (by decide) (by decide)) dX9_text_374 ?_
        refine gw_topi (y := ((eA h 0 0) 3)) rfl ?_
        refine lv_iconst (v := 1) hx hb dX9_text_375 (by decide) ?_
        refine lv_iadd hx hb dX9_text_376 ?_
        refine va_iast (D := G) hx hb hK hP hD hS 1 0 wM_at1 rfl (vp_in_nI (n := 3) (by decide) (by decide)) dX9_text_377 (fun H locs hP hD hS => ?_)
        rw [wM_sA1] at hP hD
        have hP : va_P G vwCl (wM m0 r cI cJ cZ cB cT (sA h 0 0 (upd (eA h 0 0) 3 (((eA h 0 0) 3) + 1)))) H := hP
        have hD : va_D A (wM m0 r cI cJ cZ cB cT (sA h 0 0 (upd (eA h 0 0) 3 (((eA h 0 0) 3) + 1)))) := hD
        refine lv_iload_n hx hb dX9_text_378 rfl (lv_at hl 1 rfl) ?_
        obtain ⟨rfl, rfl⟩ := ob_pair hF
        exact gw_iret () hx hb hr hlocks hP hD hS rfl dX9_text_379
      · have hF := ob_neg c_28 hF
        refine lv_aload_n hx hb dX9_text_326 rfl (lv_at hl 0 rfl) ?_
        refine va_get (D := G) (ci := 9) (v := .ref (r 12)) (C := RX9) (T := TX9) (N := 53) hx hb hts iX9 hown hK hP 0 wM_at0 rfl 12 (by decide) (hts _ m_255) (fun _ h9 => h9) rfl dX9_text_327 ?_
        refine lv_sipush (v := 400) hx hb dX9_text_330 (by decide) ?_
        refine lv_iload_n hx hb dX9_text_333 rfl (lv_at hl 1 rfl) ?_
        refine lv_imul hx hb dX9_text_334 ?_
        refine lv_iload_n hx hb dX9_text_335 rfl (lv_at hl 2 rfl) ?_
        refine lv_iadd hx hb dX9_text_336 ?_
        refine lv_aload_n hx hb dX9_text_337 rfl (lv_at hl 0 rfl) ?_
        refine va_get (D := G) (ci := 9) (v := .ref (r 37)) (C := RX9) (T := TX9) (N := 53) hx hb hts iX9 hown hK hP 0 wM_at0 rfl 37 (by decide) (hts _ m_139) (fun _ h9 => h9) rfl dX9_text_338 ?_
        refine lv_iload_n hx hb dX9_text_341 rfl (lv_at hl 2 rfl) ?_
        obtain ⟨hi_29, hF⟩ := ob_if hF
        refine va_iald (D := G) hx hb hK hP 21 0 wM_at21 rfl (vp_in_iff.mpr hi_29) dX9_text_342 ?_
        refine gw_topi (y := ((eA h 0 37) ((x2).toNatClampNeg))) rfl ?_
        obtain ⟨hi_30, hF⟩ := ob_if hF
        refine va_iast (D := G) hx hb hK hP hD hS 10 0 wM_at10 rfl (vp_in_iff.mpr hi_30) dX9_text_343 (fun H locs hP hD hS => ?_)
        rw [wM_sA10] at hP hD
        have hP : va_P G vwCl (wM m0 r cI cJ cZ cB cT (sA h 0 12 (upd (eA h 0 12) ((((400 * x1) + x2)).toNatClampNeg) ((eA h 0 37) ((x2).toNatClampNeg))))) H := hP
        have hD : va_D A (wM m0 r cI cJ cZ cB cT (sA h 0 12 (upd (eA h 0 12) ((((400 * x1) + x2)).toNatClampNeg) ((eA h 0 37) ((x2).toNatClampNeg))))) := hD
        refine lv_aload_n hx hb dX9_text_344 rfl (lv_at hl 0 rfl) ?_
        refine va_get (D := G) (ci := 9) (v := .ref (r 13)) (C := RX9) (T := TX9) (N := 53) hx hb hts iX9 hown hK hP 0 wM_at0 rfl 13 (by decide) (hts _ m_256) (fun _ h9 => h9) rfl dX9_text_345 ?_
        refine lv_sipush (v := 400) hx hb dX9_text_348 (by decide) ?_
        refine lv_iload_n hx hb dX9_text_351 rfl (lv_at hl 1 rfl) ?_
        refine lv_imul hx hb dX9_text_352 ?_
        refine lv_iload_n hx hb dX9_text_353 rfl (lv_at hl 2 rfl) ?_
        refine lv_iadd hx hb dX9_text_354 ?_
        refine lv_aload_n hx hb dX9_text_355 rfl (lv_at hl 0 rfl) ?_
        refine va_get (D := G) (ci := 9) (v := .ref (r 38)) (C := RX9) (T := TX9) (N := 53) hx hb hts iX9 hown hK hP 0 wM_at0 rfl 38 (by decide) (hts _ m_141) (fun _ h9 => h9) rfl dX9_text_356 ?_
        refine lv_iload_n hx hb dX9_text_359 rfl (lv_at hl 2 rfl) ?_
        obtain ⟨hi_31, hF⟩ := ob_if hF
        refine va_iald (D := G) hx hb hK hP 22 0 wM_at22 rfl (vp_in_iff.mpr hi_31) dX9_text_360 ?_
        refine gw_topi (y := ((eA h 0 38) ((x2).toNatClampNeg))) rfl ?_
        obtain ⟨hi_32, hF⟩ := ob_if hF
        refine va_iast (D := G) hx hb hK hP hD hS 11 0 wM_at11 rfl (vp_in_iff.mpr hi_32) dX9_text_361 (fun H locs hP hD hS => ?_)
        rw [wM_sA11] at hP hD
        have hP : va_P G vwCl (wM m0 r cI cJ cZ cB cT (sA (sA h 0 12 (upd (eA h 0 12) ((((400 * x1) + x2)).toNatClampNeg) ((eA h 0 37) ((x2).toNatClampNeg)))) 0 13 (upd (eA h 0 13) ((((400 * x1) + x2)).toNatClampNeg) ((eA h 0 38) ((x2).toNatClampNeg))))) H := hP
        have hD : va_D A (wM m0 r cI cJ cZ cB cT (sA (sA h 0 12 (upd (eA h 0 12) ((((400 * x1) + x2)).toNatClampNeg) ((eA h 0 37) ((x2).toNatClampNeg)))) 0 13 (upd (eA h 0 13) ((((400 * x1) + x2)).toNatClampNeg) ((eA h 0 38) ((x2).toNatClampNeg))))) := hD
        refine lv_iinc (v := (x2 + 1)) (lv' := [(2, .int (x2 + 1)), (0, .ref m0), (1, .int x1)]) hx hb dX9_text_362 hl (k := 2) rfl rfl (by decide) rfl (fun ls hl => ?_)
        refine lv_goto (tgt := 318) hx hb dX9_text_365 (by decide) ?_
        exact ih_318 (sA (sA h 0 12 (upd (eA h 0 12) ((((400 * x1) + x2)).toNatClampNeg) ((eA h 0 37) ((x2).toNatClampNeg)))) 0 13 (upd (eA h 0 13) ((((400 * x1) + x2)).toNatClampNeg) ((eA h 0 38) ((x2).toNatClampNeg)))) x1 (x2 + 1) hF H _ ls hP hD hS (lv_sub hl [1, 2, 0] rfl)
  have hJ_211 : ∀ (n_211 : Nat) (h : HS) (x1 : Int32) (x2 : Int32), f_X9_text_211 n_211 h x1 x2 = some (rr, hh) → ∀ (H : Heap) (locs : List Loc) (ls : Array Slot), va_P G vwCl (wM m0 r cI cJ cZ cB cT h) H → va_D A (wM m0 r cI cJ cZ cB cT h) → va_S A s.heap H locs → lv_has ls 3 [(0, .ref m0), (1, .int x1), (2, .int x2)] → W p l e (gRm 6) s m args below meth c H locs 0 0 (MQ below (va_Qi (fun x (_ : Unit) => x = rr) (gB G (fun (_ : Unit) => (wM m0 r cI cJ cZ cB cT hh)) A) A) args s 0 0 A) (F0 m 211 ls []) := by
    intro n_211
    induction n_211 with
    | zero =>
      intro h x1 x2 hF
      exact absurd hF (by simp [f_X9_text_211])
    | succ n_211 ih_211 =>
      intro h x1 x2 hF H locs ls hP hD hS hl
      rw [f_X9_text_211_s] at hF
      refine lv_iload_n hx hb dX9_text_211 rfl (lv_at hl 2 rfl) ?_
      refine lv_aload_n hx hb dX9_text_212 rfl (lv_at hl 0 rfl) ?_
      refine va_get (D := G) (ci := 9) (v := .int (eI h 0 29)) (C := RX9) (T := TX9) (N := 53) hx hb hts iX9 hown hK hP 0 wM_at0 rfl 29 (by decide) (hts _ m_193) (fun _ h9 => h9) rfl dX9_text_213 ?_
      refine lv_icmp_ge (tgt := 316) hx hb dX9_text_216 (by decide) (fun c_17 => ?_) (fun c_17 => ?_)
      · have hF := ob_pos c_17 hF
        refine lv_iconst (v := 0) hx hb dX9_text_316 (by decide) ?_
        refine lv_istore_n (lv' := [(2, .int 0), (0, .ref m0), (1, .int x1)]) hx hb dX9_text_317 rfl hl (by decide) rfl (fun ls hl => ?_)
        exact hJ_318 8589934592 h x1 0 hF H _ ls hP hD hS (lv_sub hl [1, 2, 0] rfl)
      · have hF := ob_neg c_17 hF
        refine lv_aload_n hx hb dX9_text_219 rfl (lv_at hl 0 rfl) ?_
        refine va_get (D := G) (ci := 9) (v := .ref (r 7)) (C := RX9) (T := TX9) (N := 53) hx hb hts iX9 hown hK hP 0 wM_at0 rfl 7 (by decide) (hts _ m_250) (fun _ h9 => h9) rfl dX9_text_220 ?_
        refine lv_bipush (v := 24) hx hb dX9_text_223 (by decide) ?_
        refine lv_iload_n hx hb dX9_text_225 rfl (lv_at hl 1 rfl) ?_
        refine lv_imul hx hb dX9_text_226 ?_
        refine lv_iload_n hx hb dX9_text_227 rfl (lv_at hl 2 rfl) ?_
        refine lv_iadd hx hb dX9_text_228 ?_
        refine lv_aload_n hx hb dX9_text_229 rfl (lv_at hl 0 rfl) ?_
        refine va_get (D := G) (ci := 9) (v := .ref (r 31)) (C := RX9) (T := TX9) (N := 53) hx hb hts iX9 hown hK hP 0 wM_at0 rfl 31 (by decide) (hts _ m_210) (fun _ h9 => h9) rfl dX9_text_230 ?_
        refine lv_iload_n hx hb dX9_text_233 rfl (lv_at hl 2 rfl) ?_
        obtain ⟨hi_18, hF⟩ := ob_if hF
        refine va_iald (D := G) hx hb hK hP 16 0 wM_at16 rfl (vp_in_iff.mpr hi_18) dX9_text_234 ?_
        refine gw_topi (y := ((eA h 0 31) ((x2).toNatClampNeg))) rfl ?_
        obtain ⟨hi_19, hF⟩ := ob_if hF
        refine va_iast (D := G) hx hb hK hP hD hS 5 0 wM_at5 rfl (vp_in_iff.mpr hi_19) dX9_text_235 (fun H locs hP hD hS => ?_)
        rw [wM_sA5] at hP hD
        have hP : va_P G vwCl (wM m0 r cI cJ cZ cB cT (sA h 0 7 (upd (eA h 0 7) ((((24 * x1) + x2)).toNatClampNeg) ((eA h 0 31) ((x2).toNatClampNeg))))) H := hP
        have hD : va_D A (wM m0 r cI cJ cZ cB cT (sA h 0 7 (upd (eA h 0 7) ((((24 * x1) + x2)).toNatClampNeg) ((eA h 0 31) ((x2).toNatClampNeg))))) := hD
        refine lv_aload_n hx hb dX9_text_236 rfl (lv_at hl 0 rfl) ?_
        refine va_get (D := G) (ci := 9) (v := .ref (r 8)) (C := RX9) (T := TX9) (N := 53) hx hb hts iX9 hown hK hP 0 wM_at0 rfl 8 (by decide) (hts _ m_251) (fun _ h9 => h9) rfl dX9_text_237 ?_
        refine lv_bipush (v := 24) hx hb dX9_text_240 (by decide) ?_
        refine lv_iload_n hx hb dX9_text_242 rfl (lv_at hl 1 rfl) ?_
        refine lv_imul hx hb dX9_text_243 ?_
        refine lv_iload_n hx hb dX9_text_244 rfl (lv_at hl 2 rfl) ?_
        refine lv_iadd hx hb dX9_text_245 ?_
        refine lv_sipush (v := 400) hx hb dX9_text_246 (by decide) ?_
        refine lv_iload_n hx hb dX9_text_249 rfl (lv_at hl 1 rfl) ?_
        refine lv_imul hx hb dX9_text_250 ?_
        refine lv_aload_n hx hb dX9_text_251 rfl (lv_at hl 0 rfl) ?_
        refine va_get (D := G) (ci := 9) (v := .ref (r 32)) (C := RX9) (T := TX9) (N := 53) hx hb hts iX9 hown hK hP 0 wM_at0 rfl 32 (by decide) (hts _ m_215) (fun _ h9 => h9) rfl dX9_text_252 ?_
        refine lv_iload_n hx hb dX9_text_255 rfl (lv_at hl 2 rfl) ?_
        obtain ⟨hi_20, hF⟩ := ob_if hF
        refine va_iald (D := G) hx hb hK hP 17 0 wM_at17 rfl (vp_in_iff.mpr hi_20) dX9_text_256 ?_
        refine gw_topi (y := ((eA h 0 32) ((x2).toNatClampNeg))) rfl ?_
        refine lv_iadd hx hb dX9_text_257 ?_
        obtain ⟨hi_21, hF⟩ := ob_if hF
        refine va_iast (D := G) hx hb hK hP hD hS 6 0 wM_at6 rfl (vp_in_iff.mpr hi_21) dX9_text_258 (fun H locs hP hD hS => ?_)
        rw [wM_sA6] at hP hD
        have hP : va_P G vwCl (wM m0 r cI cJ cZ cB cT (sA (sA h 0 7 (upd (eA h 0 7) ((((24 * x1) + x2)).toNatClampNeg) ((eA h 0 31) ((x2).toNatClampNeg)))) 0 8 (upd (eA h 0 8) ((((24 * x1) + x2)).toNatClampNeg) ((400 * x1) + ((eA h 0 32) ((x2).toNatClampNeg)))))) H := hP
        have hD : va_D A (wM m0 r cI cJ cZ cB cT (sA (sA h 0 7 (upd (eA h 0 7) ((((24 * x1) + x2)).toNatClampNeg) ((eA h 0 31) ((x2).toNatClampNeg)))) 0 8 (upd (eA h 0 8) ((((24 * x1) + x2)).toNatClampNeg) ((400 * x1) + ((eA h 0 32) ((x2).toNatClampNeg)))))) := hD
        refine lv_aload_n hx hb dX9_text_259 rfl (lv_at hl 0 rfl) ?_
        refine va_get (D := G) (ci := 9) (v := .ref (r 9)) (C := RX9) (T := TX9) (N := 53) hx hb hts iX9 hown hK hP 0 wM_at0 rfl 9 (by decide) (hts _ m_252) (fun _ h9 => h9) rfl dX9_text_260 ?_
        refine lv_bipush (v := 24) hx hb dX9_text_263 (by decide) ?_
        refine lv_iload_n hx hb dX9_text_265 rfl (lv_at hl 1 rfl) ?_
        refine lv_imul hx hb dX9_text_266 ?_
        refine lv_iload_n hx hb dX9_text_267 rfl (lv_at hl 2 rfl) ?_
        refine lv_iadd hx hb dX9_text_268 ?_
        refine lv_aload_n hx hb dX9_text_269 rfl (lv_at hl 0 rfl) ?_
        refine va_get (D := G) (ci := 9) (v := .ref (r 33)) (C := RX9) (T := TX9) (N := 53) hx hb hts iX9 hown hK hP 0 wM_at0 rfl 33 (by decide) (hts _ m_216) (fun _ h9 => h9) rfl dX9_text_270 ?_
        refine lv_iload_n hx hb dX9_text_273 rfl (lv_at hl 2 rfl) ?_
        obtain ⟨hi_22, hF⟩ := ob_if hF
        refine va_iald (D := G) hx hb hK hP 18 0 wM_at18 rfl (vp_in_iff.mpr hi_22) dX9_text_274 ?_
        refine gw_topi (y := ((eA h 0 33) ((x2).toNatClampNeg))) rfl ?_
        obtain ⟨hi_23, hF⟩ := ob_if hF
        refine va_iast (D := G) hx hb hK hP hD hS 7 0 wM_at7 rfl (vp_in_iff.mpr hi_23) dX9_text_275 (fun H locs hP hD hS => ?_)
        rw [wM_sA7] at hP hD
        have hP : va_P G vwCl (wM m0 r cI cJ cZ cB cT (sA (sA (sA h 0 7 (upd (eA h 0 7) ((((24 * x1) + x2)).toNatClampNeg) ((eA h 0 31) ((x2).toNatClampNeg)))) 0 8 (upd (eA h 0 8) ((((24 * x1) + x2)).toNatClampNeg) ((400 * x1) + ((eA h 0 32) ((x2).toNatClampNeg))))) 0 9 (upd (eA h 0 9) ((((24 * x1) + x2)).toNatClampNeg) ((eA h 0 33) ((x2).toNatClampNeg))))) H := hP
        have hD : va_D A (wM m0 r cI cJ cZ cB cT (sA (sA (sA h 0 7 (upd (eA h 0 7) ((((24 * x1) + x2)).toNatClampNeg) ((eA h 0 31) ((x2).toNatClampNeg)))) 0 8 (upd (eA h 0 8) ((((24 * x1) + x2)).toNatClampNeg) ((400 * x1) + ((eA h 0 32) ((x2).toNatClampNeg))))) 0 9 (upd (eA h 0 9) ((((24 * x1) + x2)).toNatClampNeg) ((eA h 0 33) ((x2).toNatClampNeg))))) := hD
        refine lv_aload_n hx hb dX9_text_276 rfl (lv_at hl 0 rfl) ?_
        refine va_get (D := G) (ci := 9) (v := .ref (r 10)) (C := RX9) (T := TX9) (N := 53) hx hb hts iX9 hown hK hP 0 wM_at0 rfl 10 (by decide) (hts _ m_253) (fun _ h9 => h9) rfl dX9_text_277 ?_
        refine lv_bipush (v := 24) hx hb dX9_text_280 (by decide) ?_
        refine lv_iload_n hx hb dX9_text_282 rfl (lv_at hl 1 rfl) ?_
        refine lv_imul hx hb dX9_text_283 ?_
        refine lv_iload_n hx hb dX9_text_284 rfl (lv_at hl 2 rfl) ?_
        refine lv_iadd hx hb dX9_text_285 ?_
        refine lv_aload_n hx hb dX9_text_286 rfl (lv_at hl 0 rfl) ?_
        refine va_get (D := G) (ci := 9) (v := .ref (r 34)) (C := RX9) (T := TX9) (N := 53) hx hb hts iX9 hown hK hP 0 wM_at0 rfl 34 (by decide) (hts _ m_217) (fun _ h9 => h9) rfl dX9_text_287 ?_
        refine lv_iload_n hx hb dX9_text_290 rfl (lv_at hl 2 rfl) ?_
        obtain ⟨hi_24, hF⟩ := ob_if hF
        refine va_iald (D := G) hx hb hK hP 19 0 wM_at19 rfl (vp_in_iff.mpr hi_24) dX9_text_291 ?_
        refine gw_topi (y := ((eA h 0 34) ((x2).toNatClampNeg))) rfl ?_
        obtain ⟨hi_25, hF⟩ := ob_if hF
        refine va_iast (D := G) hx hb hK hP hD hS 8 0 wM_at8 rfl (vp_in_iff.mpr hi_25) dX9_text_292 (fun H locs hP hD hS => ?_)
        rw [wM_sA8] at hP hD
        have hP : va_P G vwCl (wM m0 r cI cJ cZ cB cT (sA (sA (sA (sA h 0 7 (upd (eA h 0 7) ((((24 * x1) + x2)).toNatClampNeg) ((eA h 0 31) ((x2).toNatClampNeg)))) 0 8 (upd (eA h 0 8) ((((24 * x1) + x2)).toNatClampNeg) ((400 * x1) + ((eA h 0 32) ((x2).toNatClampNeg))))) 0 9 (upd (eA h 0 9) ((((24 * x1) + x2)).toNatClampNeg) ((eA h 0 33) ((x2).toNatClampNeg)))) 0 10 (upd (eA h 0 10) ((((24 * x1) + x2)).toNatClampNeg) ((eA h 0 34) ((x2).toNatClampNeg))))) H := hP
        have hD : va_D A (wM m0 r cI cJ cZ cB cT (sA (sA (sA (sA h 0 7 (upd (eA h 0 7) ((((24 * x1) + x2)).toNatClampNeg) ((eA h 0 31) ((x2).toNatClampNeg)))) 0 8 (upd (eA h 0 8) ((((24 * x1) + x2)).toNatClampNeg) ((400 * x1) + ((eA h 0 32) ((x2).toNatClampNeg))))) 0 9 (upd (eA h 0 9) ((((24 * x1) + x2)).toNatClampNeg) ((eA h 0 33) ((x2).toNatClampNeg)))) 0 10 (upd (eA h 0 10) ((((24 * x1) + x2)).toNatClampNeg) ((eA h 0 34) ((x2).toNatClampNeg))))) := hD
        refine lv_aload_n hx hb dX9_text_293 rfl (lv_at hl 0 rfl) ?_
        refine va_get (D := G) (ci := 9) (v := .ref (r 11)) (C := RX9) (T := TX9) (N := 53) hx hb hts iX9 hown hK hP 0 wM_at0 rfl 11 (by decide) (hts _ m_254) (fun _ h9 => h9) rfl dX9_text_294 ?_
        refine lv_bipush (v := 24) hx hb dX9_text_297 (by decide) ?_
        refine lv_iload_n hx hb dX9_text_299 rfl (lv_at hl 1 rfl) ?_
        refine lv_imul hx hb dX9_text_300 ?_
        refine lv_iload_n hx hb dX9_text_301 rfl (lv_at hl 2 rfl) ?_
        refine lv_iadd hx hb dX9_text_302 ?_
        refine lv_aload_n hx hb dX9_text_303 rfl (lv_at hl 0 rfl) ?_
        refine va_get (D := G) (ci := 9) (v := .ref (r 35)) (C := RX9) (T := TX9) (N := 53) hx hb hts iX9 hown hK hP 0 wM_at0 rfl 35 (by decide) (hts _ m_218) (fun _ h9 => h9) rfl dX9_text_304 ?_
        refine lv_iload_n hx hb dX9_text_307 rfl (lv_at hl 2 rfl) ?_
        obtain ⟨hi_26, hF⟩ := ob_if hF
        refine va_iald (D := G) hx hb hK hP 20 0 wM_at20 rfl (vp_in_iff.mpr hi_26) dX9_text_308 ?_
        refine gw_topi (y := ((eA h 0 35) ((x2).toNatClampNeg))) rfl ?_
        obtain ⟨hi_27, hF⟩ := ob_if hF
        refine va_iast (D := G) hx hb hK hP hD hS 9 0 wM_at9 rfl (vp_in_iff.mpr hi_27) dX9_text_309 (fun H locs hP hD hS => ?_)
        rw [wM_sA9] at hP hD
        have hP : va_P G vwCl (wM m0 r cI cJ cZ cB cT (sA (sA (sA (sA (sA h 0 7 (upd (eA h 0 7) ((((24 * x1) + x2)).toNatClampNeg) ((eA h 0 31) ((x2).toNatClampNeg)))) 0 8 (upd (eA h 0 8) ((((24 * x1) + x2)).toNatClampNeg) ((400 * x1) + ((eA h 0 32) ((x2).toNatClampNeg))))) 0 9 (upd (eA h 0 9) ((((24 * x1) + x2)).toNatClampNeg) ((eA h 0 33) ((x2).toNatClampNeg)))) 0 10 (upd (eA h 0 10) ((((24 * x1) + x2)).toNatClampNeg) ((eA h 0 34) ((x2).toNatClampNeg)))) 0 11 (upd (eA h 0 11) ((((24 * x1) + x2)).toNatClampNeg) ((eA h 0 35) ((x2).toNatClampNeg))))) H := hP
        have hD : va_D A (wM m0 r cI cJ cZ cB cT (sA (sA (sA (sA (sA h 0 7 (upd (eA h 0 7) ((((24 * x1) + x2)).toNatClampNeg) ((eA h 0 31) ((x2).toNatClampNeg)))) 0 8 (upd (eA h 0 8) ((((24 * x1) + x2)).toNatClampNeg) ((400 * x1) + ((eA h 0 32) ((x2).toNatClampNeg))))) 0 9 (upd (eA h 0 9) ((((24 * x1) + x2)).toNatClampNeg) ((eA h 0 33) ((x2).toNatClampNeg)))) 0 10 (upd (eA h 0 10) ((((24 * x1) + x2)).toNatClampNeg) ((eA h 0 34) ((x2).toNatClampNeg)))) 0 11 (upd (eA h 0 11) ((((24 * x1) + x2)).toNatClampNeg) ((eA h 0 35) ((x2).toNatClampNeg))))) := hD
        refine lv_iinc (v := (x2 + 1)) (lv' := [(2, .int (x2 + 1)), (0, .ref m0), (1, .int x1)]) hx hb dX9_text_310 hl (k := 2) rfl rfl (by decide) rfl (fun ls hl => ?_)
        refine lv_goto (tgt := 211) hx hb dX9_text_313 (by decide) ?_
        exact ih_211 (sA (sA (sA (sA (sA h 0 7 (upd (eA h 0 7) ((((24 * x1) + x2)).toNatClampNeg) ((eA h 0 31) ((x2).toNatClampNeg)))) 0 8 (upd (eA h 0 8) ((((24 * x1) + x2)).toNatClampNeg) ((400 * x1) + ((eA h 0 32) ((x2).toNatClampNeg))))) 0 9 (upd (eA h 0 9) ((((24 * x1) + x2)).toNatClampNeg) ((eA h 0 33) ((x2).toNatClampNeg)))) 0 10 (upd (eA h 0 10) ((((24 * x1) + x2)).toNatClampNeg) ((eA h 0 34) ((x2).toNatClampNeg)))) 0 11 (upd (eA h 0 11) ((((24 * x1) + x2)).toNatClampNeg) ((eA h 0 35) ((x2).toNatClampNeg)))) x1 (x2 + 1) hF H _ ls hP hD hS (lv_sub hl [1, 2, 0] rfl)
  have hJ_167 : ∀ (h : HS), f_X9_text_167 h = some (rr, hh) → ∀ (H : Heap) (locs : List Loc) (ls : Array Slot), va_P G vwCl (wM m0 r cI cJ cZ cB cT h) H → va_D A (wM m0 r cI cJ cZ cB cT h) → va_S A s.heap H locs → lv_has ls 3 [(0, .ref m0)] → W p l e (gRm 6) s m args below meth c H locs 0 0 (MQ below (va_Qi (fun x (_ : Unit) => x = rr) (gB G (fun (_ : Unit) => (wM m0 r cI cJ cZ cB cT hh)) A) A) args s 0 0 A) (F0 m 167 ls []) := by
    intro h hF H locs ls hP hD hS hl
    unfold f_X9_text_167 at hF
    refine lv_aload_n hx hb dX9_text_167 rfl (lv_at hl 0 rfl) ?_
    refine lv_aload_n hx hb dX9_text_168 rfl (lv_at hl 0 rfl) ?_
    refine va_get (D := G) (ci := 9) (v := .int (eI h 0 19)) (C := RX9) (T := TX9) (N := 53) hx hb hts iX9 hown hK hP 0 wM_at0 rfl 19 (by decide) (hts _ m_137) (fun _ h9 => h9) rfl dX9_text_169 ?_
    refine va_put (D := G) (ci := 9) (v := .int (eI h 0 19)) (ty := .int) (C := RX9) (T := TX9) (N := 53) hx hb hts iX9 tyX9 tyX9_ok nmX9 hown hK hP hD hS 0 wM_at0 rfl 4 (by decide) (hts _ m_227) (fun _ h9 => h9) rfl (tyX9_ok 4 (by decide)) rfl rfl (Nat.le_of_ble_eq_true rfl) dX9_text_172 (fun H locs hP hD hS => ?_)
    rw [wM_sI0_4] at hP hD
    refine lv_aload_n hx hb dX9_text_175 rfl (lv_at hl 0 rfl) ?_
    refine lv_aload_n hx hb dX9_text_176 rfl (lv_at hl 0 rfl) ?_
    refine va_get (D := G) (ci := 9) (v := .int (eI h 0 20)) (C := RX9) (T := TX9) (N := 53) hx hb hts iX9 hown hK hP 0 wM_at0 rfl 20 (by decide) (hts _ m_138) (fun _ h9 => h9) rfl dX9_text_177 ?_
    refine va_put (D := G) (ci := 9) (v := .int (eI h 0 20)) (ty := .int) (C := RX9) (T := TX9) (N := 53) hx hb hts iX9 tyX9 tyX9_ok nmX9 hown hK hP hD hS 0 wM_at0 rfl 5 (by decide) (hts _ m_228) (fun _ h9 => h9) rfl (tyX9_ok 5 (by decide)) rfl rfl (Nat.le_of_ble_eq_true rfl) dX9_text_180 (fun H locs hP hD hS => ?_)
    rw [wM_sI0_5] at hP hD
    refine lv_aload_n hx hb dX9_text_183 rfl (lv_at hl 0 rfl) ?_
    refine va_get (D := G) (ci := 9) (v := .int (eI h 0 19)) (C := RX9) (T := TX9) (N := 53) hx hb hts iX9 hown hK hP 0 wM_at0 rfl 19 (by decide) (hts _ m_137) (fun _ h9 => h9) rfl dX9_text_184 ?_
    refine lv_if_le (tgt := 192) hx hb dX9_text_187 (by decide) (fun c_6 => ?_) (fun c_6 => ?_)
    · have hF := ob_pos c_6 hF
      refine lv_aload_n hx hb dX9_text_192 rfl (lv_at hl 0 rfl) ?_
      refine va_get (D := G) (ci := 9) (v := .ref (r 0)) (C := RX9) (T := TX9) (N := 53) hx hb hts iX9 hown hK hP 0 wM_at0 rfl 0 (by decide) (hts _ m_92) (fun _ h9 => h9) rfl dX9_text_193 ?_
      refine lv_iconst (v := 3) hx hb dX9_text_196 (by decide) ?_
      refine va_iald (D := G) hx hb hK hP 1 0 wM_at1 rfl (vp_in_nI (n := 3) (by decide) (by decide)) dX9_text_197 ?_
      refine gw_topi (y := ((eA h 0 0) 3)) rfl ?_
      refine lv_istore_n (lv' := [(1, .int ((eA h 0 0) 3)), (0, .ref m0)]) hx hb dX9_text_198 rfl hl (by decide) rfl (fun ls hl => ?_)
      refine lv_aload_n hx hb dX9_text_199 rfl (lv_at hl 1 rfl) ?_
      refine va_get (D := G) (ci := 9) (v := .ref (r 6)) (C := RX9) (T := TX9) (N := 53) hx hb hts iX9 hown hK hP 0 wM_at0 rfl 6 (by decide) (hts _ m_229) (fun _ h9 => h9) rfl dX9_text_200 ?_
      refine lv_iload_n hx hb dX9_text_203 rfl (lv_at hl 0 rfl) ?_
      refine lv_aload_n hx hb dX9_text_204 rfl (lv_at hl 1 rfl) ?_
      refine va_get (D := G) (ci := 9) (v := .int (eI h 0 29)) (C := RX9) (T := TX9) (N := 53) hx hb hts iX9 hown hK hP 0 wM_at0 rfl 29 (by decide) (hts _ m_193) (fun _ h9 => h9) rfl dX9_text_205 ?_
      obtain ⟨hi_7, hF⟩ := ob_if hF
      refine va_iast (D := G) hx hb hK hP hD hS 4 0 wM_at4 rfl (vp_in_iff.mpr hi_7) dX9_text_208 (fun H locs hP hD hS => ?_)
      rw [wM_sA4] at hP hD
      have hP : va_P G vwCl (wM m0 r cI cJ cZ cB cT (sA (sI (sI h 0 4 (eI h 0 19)) 0 5 (eI h 0 20)) 0 6 (upd (eA h 0 6) ((((eA h 0 0) 3)).toNatClampNeg) (eI h 0 29)))) H := hP
      have hD : va_D A (wM m0 r cI cJ cZ cB cT (sA (sI (sI h 0 4 (eI h 0 19)) 0 5 (eI h 0 20)) 0 6 (upd (eA h 0 6) ((((eA h 0 0) 3)).toNatClampNeg) (eI h 0 29)))) := hD
      refine lv_iconst (v := 0) hx hb dX9_text_209 (by decide) ?_
      refine lv_istore_n (lv' := [(2, .int 0), (1, .int ((eA h 0 0) 3)), (0, .ref m0)]) hx hb dX9_text_210 rfl hl (by decide) rfl (fun ls hl => ?_)
      exact hJ_211 8589934592 (sA (sI (sI h 0 4 (eI h 0 19)) 0 5 (eI h 0 20)) 0 6 (upd (eA h 0 6) ((((eA h 0 0) 3)).toNatClampNeg) (eI h 0 29))) ((eA h 0 0) 3) 0 hF H _ ls hP hD hS (lv_sub hl [2, 1, 0] rfl)
    · have hF := ob_neg c_6 hF
      refine lv_iconst (v := (-1)) hx hb dX9_text_190 (by decide) ?_
      obtain ⟨rfl, rfl⟩ := ob_pair hF
      exact gw_iret () hx hb hr hlocks hP hD hS rfl dX9_text_191
  have hJ_74 : ∀ (n_74 : Nat) (h : HS), f_X9_text_74 n_74 h = some (rr, hh) → ∀ (H : Heap) (locs : List Loc) (ls : Array Slot), va_P G vwCl (wM m0 r cI cJ cZ cB cT h) H → va_D A (wM m0 r cI cJ cZ cB cT h) → va_S A s.heap H locs → lv_has ls 3 [(0, .ref m0)] → W p l e (gRm 6) s m args below meth c H locs 0 0 (MQ below (va_Qi (fun x (_ : Unit) => x = rr) (gB G (fun (_ : Unit) => (wM m0 r cI cJ cZ cB cT hh)) A) A) args s 0 0 A) (F0 m 74 ls []) := by
    intro n_74
    induction n_74 with
    | zero =>
      intro h hF
      exact absurd hF (by simp [f_X9_text_74])
    | succ n_74 ih_74 =>
      have hJ_96 : ∀ (h : HS), f_X9_text_96 (f_X9_text_74 n_74) h = some (rr, hh) → ∀ (H : Heap) (locs : List Loc) (ls : Array Slot), va_P G vwCl (wM m0 r cI cJ cZ cB cT h) H → va_D A (wM m0 r cI cJ cZ cB cT h) → va_S A s.heap H locs → lv_has ls 3 [(0, .ref m0)] → W p l e (gRm 6) s m args below meth c H locs 0 0 (MQ below (va_Qi (fun x (_ : Unit) => x = rr) (gB G (fun (_ : Unit) => (wM m0 r cI cJ cZ cB cT hh)) A) A) args s 0 0 A) (F0 m 96 ls []) := by
        intro h hF H locs ls hP hD hS hl
        unfold f_X9_text_96 at hF
        refine lv_aload_n hx hb dX9_text_96 rfl (lv_at hl 0 rfl) ?_
        refine va_get (D := G) (ci := 9) (v := .int (eI h 0 28)) (C := RX9) (T := TX9) (N := 53) hx hb hts iX9 hown hK hP 0 wM_at0 rfl 28 (by decide) (hts _ m_175) (fun _ h9 => h9) rfl dX9_text_97 ?_
        by_cases c_8 : (eI h 0 28) = 0
        · have hF := ob_pos c_8 hF
          refine lv_tableIn (tgt := 132) (off := 32) hx hb dX9_text_100 (by rw [c_8]; decide) (by rw [c_8]; decide) (by rw [c_8]; decide) (by decide) ?_
          refine lv_aload_n hx hb dX9_text_132 rfl (lv_at hl 0 rfl) ?_
          obtain ⟨h_9, e_9, hF⟩ := ob1_some hF
          refine gx_callv (gx_runV (As := []) (rest := []) ⟨hx, hb, hml, hown, hts⟩ (c_X9_asks l G cI cJ cZ cB cT m0 r h  h_9 e_9 H.size) (gG_V m_231 m_232 m_233 m_64 m_230) rfl e_X9_asks ⟨Nat.le_of_ble_eq_true rfl, Nat.le_of_ble_eq_true rfl⟩ hK hP hD hE hS hA 0 wM_at0 rfl rfl hl.1 rfl (Nat.le_of_ble_eq_true rfl) dX9_text_133 ⟨Nat.le_refl _, Nat.le_refl _⟩) hP hD hS hA (fun u_9 H locs hw_9 hP hD hS => ?_)
          refine lv_goto (tgt := 74) hx hb dX9_text_136 (by decide) ?_
          exact ih_74 h_9 hF H _ ls hP hD hS (lv_sub hl [0] rfl)
        have hF := ob_neg c_8 hF
        by_cases c_10 : (eI h 0 28) = 1
        · have hF := ob_pos c_10 hF
          refine lv_tableIn (tgt := 139) (off := 39) hx hb dX9_text_100 (by rw [c_10]; decide) (by rw [c_10]; decide) (by rw [c_10]; decide) (by decide) ?_
          refine lv_aload_n hx hb dX9_text_139 rfl (lv_at hl 0 rfl) ?_
          obtain ⟨h_11, e_11, hF⟩ := ob1_some hF
          refine gx_callv (gx_runV (As := []) (rest := []) ⟨hx, hb, hml, hown, hts⟩ (c_X9_begins l G cI cJ cZ cB cT m0 r h  h_11 e_11 H.size) (gG_V m_235 m_236 m_237 m_64 m_234) rfl e_X9_begins ⟨Nat.le_of_ble_eq_true rfl, Nat.le_of_ble_eq_true rfl⟩ hK hP hD hE hS hA 0 wM_at0 rfl rfl hl.1 rfl (Nat.le_of_ble_eq_true rfl) dX9_text_140 ⟨Nat.le_refl _, Nat.le_refl _⟩) hP hD hS hA (fun u_11 H locs hw_11 hP hD hS => ?_)
          refine lv_goto (tgt := 74) hx hb dX9_text_143 (by decide) ?_
          exact ih_74 h_11 hF H _ ls hP hD hS (lv_sub hl [0] rfl)
        have hF := ob_neg c_10 hF
        by_cases c_12 : (eI h 0 28) = 2
        · have hF := ob_pos c_12 hF
          refine lv_tableIn (tgt := 146) (off := 46) hx hb dX9_text_100 (by rw [c_12]; decide) (by rw [c_12]; decide) (by rw [c_12]; decide) (by decide) ?_
          refine lv_aload_n hx hb dX9_text_146 rfl (lv_at hl 0 rfl) ?_
          obtain ⟨h_13, e_13, hF⟩ := ob1_some hF
          refine gx_callv (gx_runV (As := []) (rest := []) ⟨hx, hb, hml, hown, hts⟩ (c_X9_goesOn l G cI cJ cZ cB cT m0 r h  h_13 e_13 H.size) (gG_V m_239 m_240 m_241 m_64 m_238) rfl e_X9_goesOn ⟨Nat.le_of_ble_eq_true rfl, Nat.le_of_ble_eq_true rfl⟩ hK hP hD hE hS hA 0 wM_at0 rfl rfl hl.1 rfl (Nat.le_of_ble_eq_true rfl) dX9_text_147 ⟨Nat.le_refl _, Nat.le_refl _⟩) hP hD hS hA (fun u_13 H locs hw_13 hP hD hS => ?_)
          refine lv_goto (tgt := 74) hx hb dX9_text_150 (by decide) ?_
          exact ih_74 h_13 hF H _ ls hP hD hS (lv_sub hl [0] rfl)
        have hF := ob_neg c_12 hF
        by_cases c_14 : (eI h 0 28) = 3
        · have hF := ob_pos c_14 hF
          refine lv_tableIn (tgt := 153) (off := 53) hx hb dX9_text_100 (by rw [c_14]; decide) (by rw [c_14]; decide) (by rw [c_14]; decide) (by decide) ?_
          refine lv_aload_n hx hb dX9_text_153 rfl (lv_at hl 0 rfl) ?_
          obtain ⟨h_15, e_15, hF⟩ := ob1_some hF
          refine gx_callv (gx_runV (As := []) (rest := []) ⟨hx, hb, hml, hown, hts⟩ (c_X9_asksOn l G cI cJ cZ cB cT m0 r h  h_15 e_15 H.size) (gG_V m_243 m_244 m_245 m_64 m_242) rfl e_X9_asksOn ⟨Nat.le_of_ble_eq_true rfl, Nat.le_of_ble_eq_true rfl⟩ hK hP hD hE hS hA 0 wM_at0 rfl rfl hl.1 rfl (Nat.le_of_ble_eq_true rfl) dX9_text_154 ⟨Nat.le_refl _, Nat.le_refl _⟩) hP hD hS hA (fun u_15 H locs hw_15 hP hD hS => ?_)
          refine lv_goto (tgt := 74) hx hb dX9_text_157 (by decide) ?_
          exact ih_74 h_15 hF H _ ls hP hD hS (lv_sub hl [0] rfl)
        have hF := ob_neg c_14 hF
        have hq : ((eI h 0 28)).toInt < 0 ∨ 3 < ((eI h 0 28)).toInt := by
          have e_c_8 := lv_neT (a := 0) c_8 (by decide)
          have e_c_10 := lv_neT (a := 1) c_10 (by decide)
          have e_c_12 := lv_neT (a := 2) c_12 (by decide)
          have e_c_14 := lv_neT (a := 3) c_14 (by decide)
          omega
        refine lv_tableOut (tgt := 160) hx hb dX9_text_100 hq (by decide) ?_
        refine lv_aload_n hx hb dX9_text_160 rfl (lv_at hl 0 rfl) ?_
        obtain ⟨h_16, e_16, hF⟩ := ob1_some hF
        refine gx_callv (gx_runV (As := []) (rest := []) ⟨hx, hb, hml, hown, hts⟩ (c_X9_clause l G cI cJ cZ cB cT m0 r h  h_16 e_16 H.size) (gG_V m_247 m_248 m_249 m_64 m_246) rfl e_X9_clause ⟨Nat.le_of_ble_eq_true rfl, Nat.le_of_ble_eq_true rfl⟩ hK hP hD hE hS hA 0 wM_at0 rfl rfl hl.1 rfl (Nat.le_of_ble_eq_true rfl) dX9_text_161 ⟨Nat.le_refl _, Nat.le_refl _⟩) hP hD hS hA (fun u_16 H locs hw_16 hP hD hS => ?_)
        refine lv_goto (tgt := 74) hx hb dX9_text_164 (by decide) ?_
        exact ih_74 h_16 hF H _ ls hP hD hS (lv_sub hl [0] rfl)
      intro h hF H locs ls hP hD hS hl
      rw [f_X9_text_74_s] at hF
      refine lv_aload_n hx hb dX9_text_74 rfl (lv_at hl 0 rfl) ?_
      refine va_get (D := G) (ci := 9) (v := .int (eI h 0 19)) (C := RX9) (T := TX9) (N := 53) hx hb hts iX9 hown hK hP 0 wM_at0 rfl 19 (by decide) (hts _ m_137) (fun _ h9 => h9) rfl dX9_text_75 ?_
      refine lv_if_ne (tgt := 167) hx hb dX9_text_78 (by decide) (fun c_3 => ?_) (fun c_3 => ?_)
      · have hF := ob_neg c_3 hF
        exact hJ_167 h hF H _ ls hP hD hS (lv_sub hl [0] rfl)
      · have hF := ob_pos c_3 hF
        refine lv_aload_n hx hb dX9_text_81 rfl (lv_at hl 0 rfl) ?_
        refine va_get (D := G) (ci := 9) (v := .int (eI h 0 28)) (C := RX9) (T := TX9) (N := 53) hx hb hts iX9 hown hK hP 0 wM_at0 rfl 28 (by decide) (hts _ m_175) (fun _ h9 => h9) rfl dX9_text_82 ?_
        refine lv_iconst (v := 4) hx hb dX9_text_85 (by decide) ?_
        refine lv_icmp_ne (tgt := 96) hx hb dX9_text_86 (by decide) (fun c_4 => ?_) (fun c_4 => ?_)
        · have hF := ob_neg c_4 hF
          exact hJ_96 h hF H _ ls hP hD hS (lv_sub hl [0] rfl)
        · have hF := ob_pos c_4 hF
          refine lv_aload_n hx hb dX9_text_89 rfl (lv_at hl 0 rfl) ?_
          refine va_get (D := G) (ci := 9) (v := .int (eI h 0 17)) (C := RX9) (T := TX9) (N := 53) hx hb hts iX9 hown hK hP 0 wM_at0 rfl 17 (by decide) (hts _ m_131) (fun _ h9 => h9) rfl dX9_text_90 ?_
          refine lv_if_eq (tgt := 167) hx hb dX9_text_93 (by decide) (fun c_5 => ?_) (fun c_5 => ?_)
          · have hF := ob_pos c_5 hF
            exact hJ_167 h hF H _ ls hP hD hS (lv_sub hl [0] rfl)
          · have hF := ob_neg c_5 hF
            exact hJ_96 h hF H _ ls hP hD hS (lv_sub hl [0] rfl)
  unfold f_X9_text at hF
  refine lv_aload_n hx hb dX9_text_0 rfl (lv_at hl 0 rfl) ?_
  refine va_get (D := G) (ci := 9) (v := .ref (r 0)) (C := RX9) (T := TX9) (N := 53) hx hb hts iX9 hown hK hP 0 wM_at0 rfl 0 (by decide) (hts _ m_92) (fun _ h9 => h9) rfl dX9_text_1 ?_
  refine lv_iconst (v := 3) hx hb dX9_text_4 (by decide) ?_
  refine va_iald (D := G) hx hb hK hP 1 0 wM_at1 rfl (vp_in_nI (n := 3) (by decide) (by decide)) dX9_text_5 ?_
  refine gw_topi (y := ((eA h 0 0) 3)) rfl ?_
  refine lv_iconst (v := 4) hx hb dX9_text_6 (by decide) ?_
  refine lv_icmp_ne (tgt := 12) hx hb dX9_text_7 (by decide) (fun c_1 => ?_) (fun c_1 => ?_)
  · have hF := ob_neg c_1 hF
    refine lv_aload_n hx hb dX9_text_12 rfl (lv_at hl 0 rfl) ?_
    refine lv_aload_n hx hb dX9_text_13 rfl (lv_at hl 0 rfl) ?_
    refine va_get (D := G) (ci := 9) (v := .int (eI h 0 3)) (C := RX9) (T := TX9) (N := 53) hx hb hts iX9 hown hK hP 0 wM_at0 rfl 3 (by decide) (hts _ m_107) (fun _ h9 => h9) rfl dX9_text_14 ?_
    refine va_put (D := G) (ci := 9) (v := .int (eI h 0 3)) (ty := .int) (C := RX9) (T := TX9) (N := 53) hx hb hts iX9 tyX9 tyX9_ok nmX9 hown hK hP hD hS 0 wM_at0 rfl 14 (by decide) (hts _ m_125) (fun _ h9 => h9) rfl (tyX9_ok 14 (by decide)) rfl rfl (Nat.le_of_ble_eq_true rfl) dX9_text_17 (fun H locs hP hD hS => ?_)
    rw [wM_sI0_14] at hP hD
    refine lv_aload_n hx hb dX9_text_20 rfl (lv_at hl 0 rfl) ?_
    refine lv_iconst (v := 0) hx hb dX9_text_21 (by decide) ?_
    refine va_put (D := G) (ci := 9) (v := .int 0) (ty := .int) (C := RX9) (T := TX9) (N := 53) hx hb hts iX9 tyX9 tyX9_ok nmX9 hown hK hP hD hS 0 wM_at0 rfl 3 (by decide) (hts _ m_107) (fun _ h9 => h9) rfl (tyX9_ok 3 (by decide)) rfl rfl (Nat.le_of_ble_eq_true rfl) dX9_text_22 (fun H locs hP hD hS => ?_)
    rw [wM_sI0_3] at hP hD
    refine lv_aload_n hx hb dX9_text_25 rfl (lv_at hl 0 rfl) ?_
    refine lv_iconst (v := 0) hx hb dX9_text_26 (by decide) ?_
    refine va_put (D := G) (ci := 9) (v := .int 0) (ty := .int) (C := RX9) (T := TX9) (N := 53) hx hb hts iX9 tyX9 tyX9_ok nmX9 hown hK hP hD hS 0 wM_at0 rfl 15 (by decide) (hts _ m_124) (fun _ h9 => h9) rfl (tyX9_ok 15 (by decide)) rfl rfl (Nat.le_of_ble_eq_true rfl) dX9_text_27 (fun H locs hP hD hS => ?_)
    rw [wM_sI0_15] at hP hD
    refine lv_aload_n hx hb dX9_text_30 rfl (lv_at hl 0 rfl) ?_
    refine lv_iconst (v := 0) hx hb dX9_text_31 (by decide) ?_
    refine va_put (D := G) (ci := 9) (v := .int 0) (ty := .int) (C := RX9) (T := TX9) (N := 53) hx hb hts iX9 tyX9 tyX9_ok nmX9 hown hK hP hD hS 0 wM_at0 rfl 19 (by decide) (hts _ m_137) (fun _ h9 => h9) rfl (tyX9_ok 19 (by decide)) rfl rfl (Nat.le_of_ble_eq_true rfl) dX9_text_32 (fun H locs hP hD hS => ?_)
    rw [wM_sI0_19] at hP hD
    refine lv_aload_n hx hb dX9_text_35 rfl (lv_at hl 0 rfl) ?_
    refine lv_iconst (v := (-1)) hx hb dX9_text_36 (by decide) ?_
    refine va_put (D := G) (ci := 9) (v := .int (-1)) (ty := .int) (C := RX9) (T := TX9) (N := 53) hx hb hts iX9 tyX9 tyX9_ok nmX9 hown hK hP hD hS 0 wM_at0 rfl 20 (by decide) (hts _ m_138) (fun _ h9 => h9) rfl (tyX9_ok 20 (by decide)) rfl rfl (Nat.le_of_ble_eq_true rfl) dX9_text_37 (fun H locs hP hD hS => ?_)
    rw [wM_sI0_20] at hP hD
    refine lv_aload_n hx hb dX9_text_40 rfl (lv_at hl 0 rfl) ?_
    refine lv_iconst (v := 0) hx hb dX9_text_41 (by decide) ?_
    refine va_put (D := G) (ci := 9) (v := .int 0) (ty := .int) (C := RX9) (T := TX9) (N := 53) hx hb hts iX9 tyX9 tyX9_ok nmX9 hown hK hP hD hS 0 wM_at0 rfl 21 (by decide) (hts _ m_144) (fun _ h9 => h9) rfl (tyX9_ok 21 (by decide)) rfl rfl (Nat.le_of_ble_eq_true rfl) dX9_text_42 (fun H locs hP hD hS => ?_)
    rw [wM_sI0_21] at hP hD
    refine lv_aload_n hx hb dX9_text_45 rfl (lv_at hl 0 rfl) ?_
    refine lv_iconst (v := 0) hx hb dX9_text_46 (by decide) ?_
    refine va_put (D := G) (ci := 9) (v := .int 0) (ty := .int) (C := RX9) (T := TX9) (N := 53) hx hb hts iX9 tyX9 tyX9_ok nmX9 hown hK hP hD hS 0 wM_at0 rfl 22 (by decide) (hts _ m_143) (fun _ h9 => h9) rfl (tyX9_ok 22 (by decide)) rfl rfl (Nat.le_of_ble_eq_true rfl) dX9_text_47 (fun H locs hP hD hS => ?_)
    rw [wM_sI0_22] at hP hD
    refine lv_aload_n hx hb dX9_text_50 rfl (lv_at hl 0 rfl) ?_
    refine lv_iconst (v := 0) hx hb dX9_text_51 (by decide) ?_
    refine va_put (D := G) (ci := 9) (v := .int 0) (ty := .int) (C := RX9) (T := TX9) (N := 53) hx hb hts iX9 tyX9 tyX9_ok nmX9 hown hK hP hD hS 0 wM_at0 rfl 25 (by decide) (hts _ m_157) (fun _ h9 => h9) rfl (tyX9_ok 25 (by decide)) rfl rfl (Nat.le_of_ble_eq_true rfl) dX9_text_52 (fun H locs hP hD hS => ?_)
    rw [wM_sI0_25] at hP hD
    refine lv_aload_n hx hb dX9_text_55 rfl (lv_at hl 0 rfl) ?_
    refine lv_iconst (v := 4) hx hb dX9_text_56 (by decide) ?_
    refine va_put (D := G) (ci := 9) (v := .int 4) (ty := .int) (C := RX9) (T := TX9) (N := 53) hx hb hts iX9 tyX9 tyX9_ok nmX9 hown hK hP hD hS 0 wM_at0 rfl 28 (by decide) (hts _ m_175) (fun _ h9 => h9) rfl (tyX9_ok 28 (by decide)) rfl rfl (Nat.le_of_ble_eq_true rfl) dX9_text_57 (fun H locs hP hD hS => ?_)
    rw [wM_sI0_28] at hP hD
    refine lv_aload_n hx hb dX9_text_60 rfl (lv_at hl 0 rfl) ?_
    refine lv_iconst (v := 0) hx hb dX9_text_61 (by decide) ?_
    refine va_put (D := G) (ci := 9) (v := .int 0) (ty := .int) (C := RX9) (T := TX9) (N := 53) hx hb hts iX9 tyX9 tyX9_ok nmX9 hown hK hP hD hS 0 wM_at0 rfl 29 (by decide) (hts _ m_193) (fun _ h9 => h9) rfl (tyX9_ok 29 (by decide)) rfl rfl (Nat.le_of_ble_eq_true rfl) dX9_text_62 (fun H locs hP hD hS => ?_)
    rw [wM_sI0_29] at hP hD
    refine lv_aload_n hx hb dX9_text_65 rfl (lv_at hl 0 rfl) ?_
    refine lv_iconst (v := 0) hx hb dX9_text_66 (by decide) ?_
    refine va_put (D := G) (ci := 9) (v := .int 0) (ty := .int) (C := RX9) (T := TX9) (N := 53) hx hb hts iX9 tyX9 tyX9_ok nmX9 hown hK hP hD hS 0 wM_at0 rfl 36 (by decide) (hts _ m_140) (fun _ h9 => h9) rfl (tyX9_ok 36 (by decide)) rfl rfl (Nat.le_of_ble_eq_true rfl) dX9_text_67 (fun H locs hP hD hS => ?_)
    rw [wM_sI0_36] at hP hD
    refine lv_aload_n hx hb dX9_text_70 rfl (lv_at hl 0 rfl) ?_
    obtain ⟨h_2, e_2, hF⟩ := ob1_some hF
    refine gx_callv (gx_runV (As := []) (rest := []) ⟨hx, hb, hml, hown, hts⟩ (c_X9_next l G cI cJ cZ cB cT m0 r (sI (sI (sI (sI (sI (sI (sI (sI (sI (sI (sI h 0 14 (eI h 0 3)) 0 3 0) 0 15 0) 0 19 0) 0 20 (-1)) 0 21 0) 0 22 0) 0 25 0) 0 28 4) 0 29 0) 0 36 0)  h_2 e_2 H.size) (gG_V m_150 m_151 m_152 m_64 m_149) rfl e_X9_next ⟨Nat.le_of_ble_eq_true rfl, Nat.le_of_ble_eq_true rfl⟩ hK hP hD hE hS hA 0 wM_at0 rfl rfl hl.1 rfl (Nat.le_of_ble_eq_true rfl) dX9_text_71 ⟨Nat.le_refl _, Nat.le_refl _⟩) hP hD hS hA (fun u_2 H locs hw_2 hP hD hS => ?_)
    exact hJ_74 8589934592 h_2 hF H _ ls hP hD hS (lv_sub hl [0] rfl)
  · have hF := ob_pos c_1 hF
    refine lv_iconst (v := (-1)) hx hb dX9_text_10 (by decide) ?_
    obtain ⟨rfl, rfl⟩ := ob_pair hF
    exact gw_iret () hx hb hr hlocks hP hD hS rfl dX9_text_11
def f_X9_fault_24 (h : HS) (y0 : Int32) : Option (Int32 × HS) := (some (y0, h))
def f_X9_fault (h : HS) (p1 : Int32) : Option (Int32 × HS) := (if p1 = 0 then (f_X9_fault_24 h (eI h 0 4)) else (if p1 = 1 then (f_X9_fault_24 h (eI h 0 5)) else (f_X9_fault_24 h (-1))))
set_option maxHeartbeats 4000000 in
set_option maxRecDepth 100000 in
theorem c_X9_fault (l : Launch) (G : va_G) (cI cJ cZ cB cT : ClassId) (m0 : Nat) (r : Nat → Nat) (h : HS) (p1 : Int32) (rr : Int32) (hh : HS) (hF : f_X9_fault h p1 = some (rr, hh)) : gMi l yX9_fault (gws yX9_fault cX9_fault 2 (some .int)) 1 G (gT cI cJ cZ cB cT) [.ref m0, .int p1] (wM m0 r cI cJ cZ cB cT h) (fun x (_ : Unit) => x = rr) (fun (_ : Unit) => (wM m0 r cI cJ cZ cB cT hh)) := by
  intro sz
  refine gM_start (y := yX9_fault) (av := [.ref m0, .int p1]) (ws := (wM m0 r cI cJ cZ cB cT h)) (Qf := fun A => va_Qi (fun x (_ : Unit) => x = rr) (gB G (fun (_ : Unit) => (wM m0 r cI cJ cZ cB cT hh)) A) A) (cc := cX9_fault) (maxL := 2) (ret := (some .int)) (by decide) (Nat.le_of_ble_eq_true rfl) ?_
  intro p e s m args below meth c A ls H hx hb hr hts hown hin hlocks hml hP hK hD hA hS hl hE
  have hl : lv_has ls 2 [(0, .ref m0), (1, .int p1)] := hl
  have hJ_24 : ∀ (h : HS) (y0 : Int32), f_X9_fault_24 h y0 = some (rr, hh) → ∀ (H : Heap) (locs : List Loc) (ls : Array Slot), va_P G vwCl (wM m0 r cI cJ cZ cB cT h) H → va_D A (wM m0 r cI cJ cZ cB cT h) → va_S A s.heap H locs → lv_has ls 2 [] → W p l e (gRm 1) s m args below meth c H locs 0 0 (MQ below (va_Qi (fun x (_ : Unit) => x = rr) (gB G (fun (_ : Unit) => (wM m0 r cI cJ cZ cB cT hh)) A) A) args s 0 0 A) (F0 m 24 ls [.int y0]) := by
    intro h y0 hF H locs ls hP hD hS hl
    unfold f_X9_fault_24 at hF
    obtain ⟨rfl, rfl⟩ := ob_pair hF
    exact gw_iret () hx hb hr hlocks hP hD hS rfl dX9_fault_24
  unfold f_X9_fault at hF
  refine lv_iload_n hx hb dX9_fault_0 rfl (lv_at hl 1 rfl) ?_
  refine lv_if_ne (tgt := 11) hx hb dX9_fault_1 (by decide) (fun c_1 => ?_) (fun c_1 => ?_)
  · have hF := ob_neg c_1 hF
    refine lv_iload_n hx hb dX9_fault_11 rfl (lv_at hl 1 rfl) ?_
    refine lv_iconst (v := 1) hx hb dX9_fault_12 (by decide) ?_
    refine lv_icmp_ne (tgt := 23) hx hb dX9_fault_13 (by decide) (fun c_2 => ?_) (fun c_2 => ?_)
    · have hF := ob_neg c_2 hF
      refine lv_iconst (v := (-1)) hx hb dX9_fault_23 (by decide) ?_
      exact hJ_24 h (-1) hF H _ ls hP hD hS (lv_sub hl [] rfl)
    · have hF := ob_pos c_2 hF
      refine lv_aload_n hx hb dX9_fault_16 rfl (lv_at hl 0 rfl) ?_
      refine va_get (D := G) (ci := 9) (v := .int (eI h 0 5)) (C := RX9) (T := TX9) (N := 53) hx hb hts iX9 hown hK hP 0 wM_at0 rfl 5 (by decide) (hts _ m_228) (fun _ h9 => h9) rfl dX9_fault_17 ?_
      refine lv_goto (tgt := 24) hx hb dX9_fault_20 (by decide) ?_
      exact hJ_24 h (eI h 0 5) hF H _ ls hP hD hS (lv_sub hl [] rfl)
  · have hF := ob_pos c_1 hF
    refine lv_aload_n hx hb dX9_fault_4 rfl (lv_at hl 0 rfl) ?_
    refine va_get (D := G) (ci := 9) (v := .int (eI h 0 4)) (C := RX9) (T := TX9) (N := 53) hx hb hts iX9 hown hK hP 0 wM_at0 rfl 4 (by decide) (hts _ m_227) (fun _ h9 => h9) rfl dX9_fault_5 ?_
    refine lv_goto (tgt := 24) hx hb dX9_fault_8 (by decide) ?_
    exact hJ_24 h (eI h 0 4) hF H _ ls hP hD hS (lv_sub hl [] rfl)
