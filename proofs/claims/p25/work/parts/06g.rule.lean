def f_X1_rule_82 (h : HS) (y0 : Int32) (y1 : Int32) : Option (Int32 × HS) := (ob2 (f_X1_pop h) (fun r_43 h_43 => (some ((if y1 < (if r_43 < y0 then r_43 else y0) then (if r_43 < y0 then r_43 else y0) else y1), h_43))))
def f_X1_rule_46 : Nat → HS → Int32 → Int32 → Int32 → Option (Int32 × HS)
  | 0, _, _, _, _ => none
  | n + 1, h, x2, x4, x5 => (if x4 ≤ x5 then (if x2 = 2 then (f_X1_rule_82 h 99 0) else (f_X1_rule_82 h 10 0)) else (ob2 (f_X6_stepAt_0 h x5) (fun r_28 h_28 => (ob1 (f_X1_take h_28 r_28) (fun h_29 => ((f_X1_rule_46 n) h_29 x2 x4 (x5 + 1)))))))
theorem f_X1_rule_46_s (n : Nat) (h : HS) (x2 : Int32) (x4 : Int32) (x5 : Int32) : f_X1_rule_46 (n + 1) h x2 x4 x5 = (if x4 ≤ x5 then (if x2 = 2 then (f_X1_rule_82 h 99 0) else (f_X1_rule_82 h 10 0)) else (ob2 (f_X6_stepAt_0 h x5) (fun r_28 h_28 => (ob1 (f_X1_take h_28 r_28) (fun h_29 => ((f_X1_rule_46 n) h_29 x2 x4 (x5 + 1))))))) := rfl
def f_X1_rule_21 (h : HS) (x2 : Int32) : Option (Int32 × HS) := (ob2 (f_X1_without h x2) (fun r_30 h_30 => (some (r_30, h_30))))
def f_X1_rule_46b : Nat → HS → Int32 → Int32 → Int32 → Option (Int32 × HS)
  | 0, _, _, _, _ => none
  | n + 1, h, x2, x4, x5 => (if x4 ≤ x5 then (if x2 = 2 then (f_X1_rule_82 h 99 0) else (f_X1_rule_82 h 10 0)) else (ob2 (f_X6_stepAt_1 h x5) (fun r_33 h_33 => (ob1 (f_X1_take h_33 r_33) (fun h_34 => ((f_X1_rule_46b n) h_34 x2 x4 (x5 + 1)))))))
theorem f_X1_rule_46b_s (n : Nat) (h : HS) (x2 : Int32) (x4 : Int32) (x5 : Int32) : f_X1_rule_46b (n + 1) h x2 x4 x5 = (if x4 ≤ x5 then (if x2 = 2 then (f_X1_rule_82 h 99 0) else (f_X1_rule_82 h 10 0)) else (ob2 (f_X6_stepAt_1 h x5) (fun r_33 h_33 => (ob1 (f_X1_take h_33 r_33) (fun h_34 => ((f_X1_rule_46b n) h_34 x2 x4 (x5 + 1))))))) := rfl
def f_X1_rule_46c : Nat → HS → Int32 → Int32 → Int32 → Option (Int32 × HS)
  | 0, _, _, _, _ => none
  | n + 1, h, x2, x4, x5 => (if x4 ≤ x5 then (if x2 = 2 then (f_X1_rule_82 h 99 0) else (f_X1_rule_82 h 10 0)) else (ob2 (f_X6_stepAt_2 h x5) (fun r_37 h_37 => (ob1 (f_X1_take h_37 r_37) (fun h_38 => ((f_X1_rule_46c n) h_38 x2 x4 (x5 + 1)))))))
theorem f_X1_rule_46c_s (n : Nat) (h : HS) (x2 : Int32) (x4 : Int32) (x5 : Int32) : f_X1_rule_46c (n + 1) h x2 x4 x5 = (if x4 ≤ x5 then (if x2 = 2 then (f_X1_rule_82 h 99 0) else (f_X1_rule_82 h 10 0)) else (ob2 (f_X6_stepAt_2 h x5) (fun r_37 h_37 => (ob1 (f_X1_take h_37 r_37) (fun h_38 => ((f_X1_rule_46c n) h_38 x2 x4 (x5 + 1))))))) := rfl
def f_X1_rule_46d : Nat → HS → Int32 → Int32 → Int32 → Option (Int32 × HS)
  | 0, _, _, _, _ => none
  | n + 1, h, x2, x4, x5 => (if x4 ≤ x5 then (if x2 = 2 then (f_X1_rule_82 h 99 0) else (f_X1_rule_82 h 10 0)) else (ob2 (f_X6_stepAt_3 h x5) (fun r_41 h_41 => (ob1 (f_X1_take h_41 r_41) (fun h_42 => ((f_X1_rule_46d n) h_42 x2 x4 (x5 + 1)))))))
theorem f_X1_rule_46d_s (n : Nat) (h : HS) (x2 : Int32) (x4 : Int32) (x5 : Int32) : f_X1_rule_46d (n + 1) h x2 x4 x5 = (if x4 ≤ x5 then (if x2 = 2 then (f_X1_rule_82 h 99 0) else (f_X1_rule_82 h 10 0)) else (ob2 (f_X6_stepAt_3 h x5) (fun r_41 h_41 => (ob1 (f_X1_take h_41 r_41) (fun h_42 => ((f_X1_rule_46d n) h_42 x2 x4 (x5 + 1))))))) := rfl
def f_X1_rule (h : HS) (p1 : Int32) : Option (Int32 × HS) := (if (eI h 1 10) = 0 then (ob2 (f_X6_hasLaw_0 h p1) (fun r_3 h_3 => (if r_3 = 0 then (f_X1_rule_21 h_3 p1) else (ob2 (f_X6_stepsEnd_0 (sI h_3 6 3 0) p1) (fun r_5 h_5 => (ob2 (f_X6_firstStep_0 h_5 p1) (fun r_6 h_6 => (f_X1_rule_46 8589934592 h_6 p1 r_5 r_6)))))))) else (if (eI h 1 10) = 1 then (ob2 (f_X6_hasLaw_1 h p1) (fun r_9 h_9 => (if r_9 = 0 then (f_X1_rule_21 h_9 p1) else (ob2 (f_X6_stepsEnd_1 (sI h_9 6 3 0) p1) (fun r_11 h_11 => (ob2 (f_X6_firstStep_1 h_11 p1) (fun r_12 h_12 => (f_X1_rule_46b 8589934592 h_12 p1 r_11 r_12)))))))) else (if (eI h 1 10) = 2 then (ob2 (f_X6_hasLaw_2 h p1) (fun r_15 h_15 => (if r_15 = 0 then (f_X1_rule_21 h_15 p1) else (ob2 (f_X6_stepsEnd_2 (sI h_15 6 3 0) p1) (fun r_17 h_17 => (ob2 (f_X6_firstStep_2 h_17 p1) (fun r_18 h_18 => (f_X1_rule_46c 8589934592 h_18 p1 r_17 r_18)))))))) else (if (eI h 1 10) = 3 then (ob2 (f_X6_hasLaw_3 h p1) (fun r_21 h_21 => (if r_21 = 0 then (f_X1_rule_21 h_21 p1) else (ob2 (f_X6_stepsEnd_3 (sI h_21 6 3 0) p1) (fun r_23 h_23 => (ob2 (f_X6_firstStep_3 h_23 p1) (fun r_24 h_24 => (f_X1_rule_46d 8589934592 h_24 p1 r_23 r_24)))))))) else (f_X1_rule_21 h p1)))))
theorem e_X1_take : yX1_take.cls = RX1 ∧ yX1_take.cls ≠ "java/lang/invoke/MethodHandle" ∧ yX1_take.cls ≠ "java/lang/invoke/VarHandle" ∧ (parseMethodDescriptor yX1_take.desc).map (fun d => d.parameters.length) = some 1 := by decide +kernel
theorem e_X1_textOf : yX1_textOf.cls = RX1 ∧ yX1_textOf.cls ≠ "java/lang/invoke/MethodHandle" ∧ yX1_textOf.cls ≠ "java/lang/invoke/VarHandle" ∧ (parseMethodDescriptor yX1_textOf.desc).map (fun d => d.parameters.length) = some 1 := by decide +kernel
theorem e_X1_without : yX1_without.cls = RX1 ∧ yX1_without.cls ≠ "java/lang/invoke/MethodHandle" ∧ yX1_without.cls ≠ "java/lang/invoke/VarHandle" ∧ (parseMethodDescriptor yX1_without.desc).map (fun d => d.parameters.length) = some 1 := by decide +kernel
theorem e_X6_firstStep : yX6_firstStep.cls = RX6 ∧ yX6_firstStep.cls ≠ "java/lang/invoke/MethodHandle" ∧ yX6_firstStep.cls ≠ "java/lang/invoke/VarHandle" ∧ (parseMethodDescriptor yX6_firstStep.desc).map (fun d => d.parameters.length) = some 1 := by decide +kernel
theorem e_X6_hasLaw : yX6_hasLaw.cls = RX6 ∧ yX6_hasLaw.cls ≠ "java/lang/invoke/MethodHandle" ∧ yX6_hasLaw.cls ≠ "java/lang/invoke/VarHandle" ∧ (parseMethodDescriptor yX6_hasLaw.desc).map (fun d => d.parameters.length) = some 1 := by decide +kernel
theorem e_X6_stepAt : yX6_stepAt.cls = RX6 ∧ yX6_stepAt.cls ≠ "java/lang/invoke/MethodHandle" ∧ yX6_stepAt.cls ≠ "java/lang/invoke/VarHandle" ∧ (parseMethodDescriptor yX6_stepAt.desc).map (fun d => d.parameters.length) = some 1 := by decide +kernel
theorem e_X6_stepsEnd : yX6_stepsEnd.cls = RX6 ∧ yX6_stepsEnd.cls ≠ "java/lang/invoke/MethodHandle" ∧ yX6_stepsEnd.cls ≠ "java/lang/invoke/VarHandle" ∧ (parseMethodDescriptor yX6_stepsEnd.desc).map (fun d => d.parameters.length) = some 1 := by decide +kernel
set_option maxHeartbeats 4000000 in
set_option maxRecDepth 100000 in
theorem c_X1_rule (l : Launch) (G : va_G) (cI cJ cZ cB cT : ClassId) (q : Nat → Nat) (h : HS) (p1 : Int32) (rr : Int32) (hh : HS) (hF : f_X1_rule h p1 = some (rr, hh)) : gMi l yX1_rule (gws yX1_rule cX1_rule 6 (some .int)) 3 G (gT cI cJ cZ cB cT) [.ref (q 16), .ref (q 1), .int p1] (wC q cI cJ cZ cB cT h) (fun x (_ : Unit) => x = rr) (fun (_ : Unit) => (wC q cI cJ cZ cB cT hh)) := by
  intro sz
  refine gM_start (y := yX1_rule) (av := [.ref (q 16), .ref (q 1), .int p1]) (ws := (wC q cI cJ cZ cB cT h)) (Qf := fun A => va_Qi (fun x (_ : Unit) => x = rr) (gB G (fun (_ : Unit) => (wC q cI cJ cZ cB cT hh)) A) A) (cc := cX1_rule) (maxL := 6) (ret := (some .int)) (by decide) (Nat.le_of_ble_eq_true rfl) ?_
  intro p e s m args below meth c A ls H hx hb hr hts hown hin hlocks hml hP hK hD hA hS hl hE
  have hl : lv_has ls 6 [(0, .ref (q 16)), (1, .ref (q 1)), (2, .int p1)] := hl
  have hJ_82 : ∀ (h : HS) (y0 : Int32) (y1 : Int32), f_X1_rule_82 h y0 y1 = some (rr, hh) → ∀ (H : Heap) (locs : List Loc) (ls : Array Slot), va_P G vwCl (wC q cI cJ cZ cB cT h) H → va_D A (wC q cI cJ cZ cB cT h) → va_S A s.heap H locs → lv_has ls 6 [(0, .ref (q 16))] → W p l e (gRm 3) s m args below meth c H locs 0 0 (MQ below (va_Qi (fun x (_ : Unit) => x = rr) (gB G (fun (_ : Unit) => (wC q cI cJ cZ cB cT hh)) A) A) args s 0 0 A) (F0 m 82 ls [.int y0, .int y1]) := by
    intro h y0 y1 hF H locs ls hP hD hS hl
    unfold f_X1_rule_82 at hF
    refine lv_aload_n hx hb dX1_rule_82 rfl (lv_at hl 0 rfl) ?_
    obtain ⟨r_43, h_43, e_43, hF⟩ := ob2_some hF
    refine gx_calli (gx_runV (As := []) (rest := [.int y0, .int y1]) ⟨hx, hb, hml, hown, hts⟩ (c_X1_pop l G cI cJ cZ cB cT q h  r_43 h_43 e_43 H.size) (gG_V m_433 m_434 m_435 m_436 m_432) rfl e_X1_pop ⟨Nat.le_of_ble_eq_true rfl, Nat.le_of_ble_eq_true rfl⟩ hK hP hD hE hS hA 16 wC_at16 rfl rfl hl.1 rfl (Nat.le_of_ble_eq_true rfl) dX1_rule_83 ⟨Nat.le_refl _, Nat.le_refl _⟩) hP hD hS hA (fun x_43 u_43 H locs hw_43 hP hD hS => ?_)
    subst x_43
    refine va_mmin hx hb (by rw [hml]; exact hl.1.symm) hown (hts _ m_584) (hts _ m_53) (hts _ m_50) (hts _ m_54) (Nat.le_of_ble_eq_true rfl) (Nat.le_of_ble_eq_true rfl) (Nat.le_of_ble_eq_true rfl) (Nat.le_of_ble_eq_true rfl) dX1_rule_86 ?_
    refine va_mmax hx hb (by rw [hml]; exact hl.1.symm) hown (hts _ m_585) (hts _ m_49) (hts _ m_50) (hts _ m_51) (Nat.le_of_ble_eq_true rfl) (Nat.le_of_ble_eq_true rfl) (Nat.le_of_ble_eq_true rfl) (Nat.le_of_ble_eq_true rfl) dX1_rule_89 ?_
    obtain ⟨rfl, rfl⟩ := ob_pair hF
    exact gw_iret () hx hb hr hlocks hP hD hS rfl dX1_rule_92
  have hJ_46 : ∀ (n_46 : Nat) (h : HS) (x2 : Int32) (x4 : Int32) (x5 : Int32), f_X1_rule_46 n_46 h x2 x4 x5 = some (rr, hh) → ∀ (H : Heap) (locs : List Loc) (ls : Array Slot), va_P G vwCl (wC q cI cJ cZ cB cT h) H → va_D A (wC q cI cJ cZ cB cT h) → va_S A s.heap H locs → lv_has ls 6 [(0, .ref (q 16)), (2, .int x2), (3, .ref (q 32)), (4, .int x4), (5, .int x5)] → W p l e (gRm 3) s m args below meth c H locs 0 0 (MQ below (va_Qi (fun x (_ : Unit) => x = rr) (gB G (fun (_ : Unit) => (wC q cI cJ cZ cB cT hh)) A) A) args s 0 0 A) (F0 m 46 ls []) := by
    intro n_46
    induction n_46 with
    | zero =>
      intro h x2 x4 x5 hF
      exact absurd hF (by simp [f_X1_rule_46])
    | succ n_46 ih_46 =>
      intro h x2 x4 x5 hF H locs ls hP hD hS hl
      rw [f_X1_rule_46_s] at hF
      refine lv_iload hx hb dX1_rule_46 (lv_at hl 4 rfl) ?_
      refine lv_iload hx hb dX1_rule_48 (lv_at hl 3 rfl) ?_
      refine lv_icmp_ge (tgt := 69) hx hb dX1_rule_50 (by decide) (fun c_26 => ?_) (fun c_26 => ?_)
      · have hF := ob_pos c_26 hF
        refine lv_iconst (v := 0) hx hb dX1_rule_69 (by decide) ?_
        refine lv_iload_n hx hb dX1_rule_70 rfl (lv_at hl 1 rfl) ?_
        refine lv_iconst (v := 2) hx hb dX1_rule_71 (by decide) ?_
        refine lv_icmp_ne (tgt := 80) hx hb dX1_rule_72 (by decide) (fun c_27 => ?_) (fun c_27 => ?_)
        · have hF := ob_neg c_27 hF
          refine lv_bipush (v := 10) hx hb dX1_rule_80 (by decide) ?_
          exact hJ_82 h 10 0 hF H _ ls hP hD hS (lv_sub hl [0] rfl)
        · have hF := ob_pos c_27 hF
          refine lv_bipush (v := 99) hx hb dX1_rule_75 (by decide) ?_
          refine lv_goto (tgt := 82) hx hb dX1_rule_77 (by decide) ?_
          exact hJ_82 h 99 0 hF H _ ls hP hD hS (lv_sub hl [0] rfl)
      · have hF := ob_neg c_26 hF
        refine lv_aload_n hx hb dX1_rule_53 rfl (lv_at hl 0 rfl) ?_
        refine lv_aload_n hx hb dX1_rule_54 rfl (lv_at hl 2 rfl) ?_
        refine lv_iload hx hb dX1_rule_55 (lv_at hl 4 rfl) ?_
        obtain ⟨r_28, h_28, e_28, hF⟩ := ob2_some hF
        refine gx_calli (gx_runV (As := [.int x5]) (rest := [.ref (q 16)]) ⟨hx, hb, hml, hown, hts⟩ (c_X6_stepAt_0 l G cI cJ cZ cB cT q h x5 r_28 h_28 e_28 H.size) (gG_V m_573 m_574 m_575 m_563 m_572) rfl e_X6_stepAt ⟨Nat.le_of_ble_eq_true rfl, Nat.le_of_ble_eq_true rfl⟩ hK hP hD hE hS hA 32 wC_at32 rfl rfl hl.1 rfl (Nat.le_of_ble_eq_true rfl) dX1_rule_57 ⟨Nat.le_refl _, Nat.le_refl _⟩) hP hD hS hA (fun x_28 u_28 H locs hw_28 hP hD hS => ?_)
        subst x_28
        obtain ⟨h_29, e_29, hF⟩ := ob1_some hF
        refine gx_callv (gx_runV (As := [.int r_28]) (rest := []) ⟨hx, hb, hml, hown, hts⟩ (c_X1_take l G cI cJ cZ cB cT q h_28 r_28 h_29 e_29 H.size) (gG_V m_577 m_578 m_579 m_436 m_576) rfl e_X1_take ⟨Nat.le_of_ble_eq_true rfl, Nat.le_of_ble_eq_true rfl⟩ hK hP hD hE hS hA 16 wC_at16 rfl rfl hl.1 rfl (Nat.le_of_ble_eq_true rfl) dX1_rule_60 ⟨Nat.le_refl _, Nat.le_refl _⟩) hP hD hS hA (fun u_29 H locs hw_29 hP hD hS => ?_)
        refine lv_iinc (v := (x5 + 1)) (lv' := [(5, .int (x5 + 1)), (0, .ref (q 16)), (2, .int x2), (3, .ref (q 32)), (4, .int x4)]) hx hb dX1_rule_63 hl (k := 4) rfl rfl (by decide) rfl (fun ls hl => ?_)
        refine lv_goto (tgt := 46) hx hb dX1_rule_66 (by decide) ?_
        exact ih_46 h_29 x2 x4 (x5 + 1) hF H _ ls hP hD hS (lv_sub hl [1, 2, 3, 4, 0] rfl)
  have hJ_21 : ∀ (h : HS) (x2 : Int32), f_X1_rule_21 h x2 = some (rr, hh) → ∀ (H : Heap) (locs : List Loc) (ls : Array Slot), va_P G vwCl (wC q cI cJ cZ cB cT h) H → va_D A (wC q cI cJ cZ cB cT h) → va_S A s.heap H locs → lv_has ls 6 [(0, .ref (q 16)), (2, .int x2)] → W p l e (gRm 3) s m args below meth c H locs 0 0 (MQ below (va_Qi (fun x (_ : Unit) => x = rr) (gB G (fun (_ : Unit) => (wC q cI cJ cZ cB cT hh)) A) A) args s 0 0 A) (F0 m 21 ls []) := by
    intro h x2 hF H locs ls hP hD hS hl
    unfold f_X1_rule_21 at hF
    refine lv_aload_n hx hb dX1_rule_21 rfl (lv_at hl 0 rfl) ?_
    refine lv_iload_n hx hb dX1_rule_22 rfl (lv_at hl 1 rfl) ?_
    obtain ⟨r_30, h_30, e_30, hF⟩ := ob2_some hF
    refine gx_calli (gx_runV (As := [.int x2]) (rest := []) ⟨hx, hb, hml, hown, hts⟩ (c_X1_without l G cI cJ cZ cB cT q h x2 r_30 h_30 e_30 H.size) (gG_V m_581 m_582 m_583 m_436 m_580) rfl e_X1_without ⟨Nat.le_of_ble_eq_true rfl, Nat.le_of_ble_eq_true rfl⟩ hK hP hD hE hS hA 16 wC_at16 rfl rfl hl.1 rfl (Nat.le_of_ble_eq_true rfl) dX1_rule_23 ⟨Nat.le_refl _, Nat.le_refl _⟩) hP hD hS hA (fun x_30 u_30 H locs hw_30 hP hD hS => ?_)
    subst x_30
    obtain ⟨rfl, rfl⟩ := ob_pair hF
    exact gw_iret () hx hb hr hlocks hP hD hS rfl dX1_rule_26
  have hJ_46b : ∀ (n_46b : Nat) (h : HS) (x2 : Int32) (x4 : Int32) (x5 : Int32), f_X1_rule_46b n_46b h x2 x4 x5 = some (rr, hh) → ∀ (H : Heap) (locs : List Loc) (ls : Array Slot), va_P G vwCl (wC q cI cJ cZ cB cT h) H → va_D A (wC q cI cJ cZ cB cT h) → va_S A s.heap H locs → lv_has ls 6 [(0, .ref (q 16)), (2, .int x2), (3, .ref (q 37)), (4, .int x4), (5, .int x5)] → W p l e (gRm 3) s m args below meth c H locs 0 0 (MQ below (va_Qi (fun x (_ : Unit) => x = rr) (gB G (fun (_ : Unit) => (wC q cI cJ cZ cB cT hh)) A) A) args s 0 0 A) (F0 m 46 ls []) := by
    intro n_46b
    induction n_46b with
    | zero =>
      intro h x2 x4 x5 hF
      exact absurd hF (by simp [f_X1_rule_46b])
    | succ n_46b ih_46b =>
      intro h x2 x4 x5 hF H locs ls hP hD hS hl
      rw [f_X1_rule_46b_s] at hF
      refine lv_iload hx hb dX1_rule_46 (lv_at hl 4 rfl) ?_
      refine lv_iload hx hb dX1_rule_48 (lv_at hl 3 rfl) ?_
      refine lv_icmp_ge (tgt := 69) hx hb dX1_rule_50 (by decide) (fun c_31 => ?_) (fun c_31 => ?_)
      · have hF := ob_pos c_31 hF
        refine lv_iconst (v := 0) hx hb dX1_rule_69 (by decide) ?_
        refine lv_iload_n hx hb dX1_rule_70 rfl (lv_at hl 1 rfl) ?_
        refine lv_iconst (v := 2) hx hb dX1_rule_71 (by decide) ?_
        refine lv_icmp_ne (tgt := 80) hx hb dX1_rule_72 (by decide) (fun c_32 => ?_) (fun c_32 => ?_)
        · have hF := ob_neg c_32 hF
          refine lv_bipush (v := 10) hx hb dX1_rule_80 (by decide) ?_
          exact hJ_82 h 10 0 hF H _ ls hP hD hS (lv_sub hl [0] rfl)
        · have hF := ob_pos c_32 hF
          refine lv_bipush (v := 99) hx hb dX1_rule_75 (by decide) ?_
          refine lv_goto (tgt := 82) hx hb dX1_rule_77 (by decide) ?_
          exact hJ_82 h 99 0 hF H _ ls hP hD hS (lv_sub hl [0] rfl)
      · have hF := ob_neg c_31 hF
        refine lv_aload_n hx hb dX1_rule_53 rfl (lv_at hl 0 rfl) ?_
        refine lv_aload_n hx hb dX1_rule_54 rfl (lv_at hl 2 rfl) ?_
        refine lv_iload hx hb dX1_rule_55 (lv_at hl 4 rfl) ?_
        obtain ⟨r_33, h_33, e_33, hF⟩ := ob2_some hF
        refine gx_calli (gx_runV (As := [.int x5]) (rest := [.ref (q 16)]) ⟨hx, hb, hml, hown, hts⟩ (c_X6_stepAt_1 l G cI cJ cZ cB cT q h x5 r_33 h_33 e_33 H.size) (gG_V m_573 m_574 m_575 m_563 m_572) rfl e_X6_stepAt ⟨Nat.le_of_ble_eq_true rfl, Nat.le_of_ble_eq_true rfl⟩ hK hP hD hE hS hA 37 wC_at37 rfl rfl hl.1 rfl (Nat.le_of_ble_eq_true rfl) dX1_rule_57 ⟨Nat.le_refl _, Nat.le_refl _⟩) hP hD hS hA (fun x_33 u_33 H locs hw_33 hP hD hS => ?_)
        subst x_33
        obtain ⟨h_34, e_34, hF⟩ := ob1_some hF
        refine gx_callv (gx_runV (As := [.int r_33]) (rest := []) ⟨hx, hb, hml, hown, hts⟩ (c_X1_take l G cI cJ cZ cB cT q h_33 r_33 h_34 e_34 H.size) (gG_V m_577 m_578 m_579 m_436 m_576) rfl e_X1_take ⟨Nat.le_of_ble_eq_true rfl, Nat.le_of_ble_eq_true rfl⟩ hK hP hD hE hS hA 16 wC_at16 rfl rfl hl.1 rfl (Nat.le_of_ble_eq_true rfl) dX1_rule_60 ⟨Nat.le_refl _, Nat.le_refl _⟩) hP hD hS hA (fun u_34 H locs hw_34 hP hD hS => ?_)
        refine lv_iinc (v := (x5 + 1)) (lv' := [(5, .int (x5 + 1)), (0, .ref (q 16)), (2, .int x2), (3, .ref (q 37)), (4, .int x4)]) hx hb dX1_rule_63 hl (k := 4) rfl rfl (by decide) rfl (fun ls hl => ?_)
        refine lv_goto (tgt := 46) hx hb dX1_rule_66 (by decide) ?_
        exact ih_46b h_34 x2 x4 (x5 + 1) hF H _ ls hP hD hS (lv_sub hl [1, 2, 3, 4, 0] rfl)
  have hJ_46c : ∀ (n_46c : Nat) (h : HS) (x2 : Int32) (x4 : Int32) (x5 : Int32), f_X1_rule_46c n_46c h x2 x4 x5 = some (rr, hh) → ∀ (H : Heap) (locs : List Loc) (ls : Array Slot), va_P G vwCl (wC q cI cJ cZ cB cT h) H → va_D A (wC q cI cJ cZ cB cT h) → va_S A s.heap H locs → lv_has ls 6 [(0, .ref (q 16)), (2, .int x2), (3, .ref (q 42)), (4, .int x4), (5, .int x5)] → W p l e (gRm 3) s m args below meth c H locs 0 0 (MQ below (va_Qi (fun x (_ : Unit) => x = rr) (gB G (fun (_ : Unit) => (wC q cI cJ cZ cB cT hh)) A) A) args s 0 0 A) (F0 m 46 ls []) := by
    intro n_46c
    induction n_46c with
    | zero =>
      intro h x2 x4 x5 hF
      exact absurd hF (by simp [f_X1_rule_46c])
    | succ n_46c ih_46c =>
      intro h x2 x4 x5 hF H locs ls hP hD hS hl
      rw [f_X1_rule_46c_s] at hF
      refine lv_iload hx hb dX1_rule_46 (lv_at hl 4 rfl) ?_
      refine lv_iload hx hb dX1_rule_48 (lv_at hl 3 rfl) ?_
      refine lv_icmp_ge (tgt := 69) hx hb dX1_rule_50 (by decide) (fun c_35 => ?_) (fun c_35 => ?_)
      · have hF := ob_pos c_35 hF
        refine lv_iconst (v := 0) hx hb dX1_rule_69 (by decide) ?_
        refine lv_iload_n hx hb dX1_rule_70 rfl (lv_at hl 1 rfl) ?_
        refine lv_iconst (v := 2) hx hb dX1_rule_71 (by decide) ?_
        refine lv_icmp_ne (tgt := 80) hx hb dX1_rule_72 (by decide) (fun c_36 => ?_) (fun c_36 => ?_)
        · have hF := ob_neg c_36 hF
          refine lv_bipush (v := 10) hx hb dX1_rule_80 (by decide) ?_
          exact hJ_82 h 10 0 hF H _ ls hP hD hS (lv_sub hl [0] rfl)
        · have hF := ob_pos c_36 hF
          refine lv_bipush (v := 99) hx hb dX1_rule_75 (by decide) ?_
          refine lv_goto (tgt := 82) hx hb dX1_rule_77 (by decide) ?_
          exact hJ_82 h 99 0 hF H _ ls hP hD hS (lv_sub hl [0] rfl)
      · have hF := ob_neg c_35 hF
        refine lv_aload_n hx hb dX1_rule_53 rfl (lv_at hl 0 rfl) ?_
        refine lv_aload_n hx hb dX1_rule_54 rfl (lv_at hl 2 rfl) ?_
        refine lv_iload hx hb dX1_rule_55 (lv_at hl 4 rfl) ?_
        obtain ⟨r_37, h_37, e_37, hF⟩ := ob2_some hF
        refine gx_calli (gx_runV (As := [.int x5]) (rest := [.ref (q 16)]) ⟨hx, hb, hml, hown, hts⟩ (c_X6_stepAt_2 l G cI cJ cZ cB cT q h x5 r_37 h_37 e_37 H.size) (gG_V m_573 m_574 m_575 m_563 m_572) rfl e_X6_stepAt ⟨Nat.le_of_ble_eq_true rfl, Nat.le_of_ble_eq_true rfl⟩ hK hP hD hE hS hA 42 wC_at42 rfl rfl hl.1 rfl (Nat.le_of_ble_eq_true rfl) dX1_rule_57 ⟨Nat.le_refl _, Nat.le_refl _⟩) hP hD hS hA (fun x_37 u_37 H locs hw_37 hP hD hS => ?_)
        subst x_37
        obtain ⟨h_38, e_38, hF⟩ := ob1_some hF
        refine gx_callv (gx_runV (As := [.int r_37]) (rest := []) ⟨hx, hb, hml, hown, hts⟩ (c_X1_take l G cI cJ cZ cB cT q h_37 r_37 h_38 e_38 H.size) (gG_V m_577 m_578 m_579 m_436 m_576) rfl e_X1_take ⟨Nat.le_of_ble_eq_true rfl, Nat.le_of_ble_eq_true rfl⟩ hK hP hD hE hS hA 16 wC_at16 rfl rfl hl.1 rfl (Nat.le_of_ble_eq_true rfl) dX1_rule_60 ⟨Nat.le_refl _, Nat.le_refl _⟩) hP hD hS hA (fun u_38 H locs hw_38 hP hD hS => ?_)
        refine lv_iinc (v := (x5 + 1)) (lv' := [(5, .int (x5 + 1)), (0, .ref (q 16)), (2, .int x2), (3, .ref (q 42)), (4, .int x4)]) hx hb dX1_rule_63 hl (k := 4) rfl rfl (by decide) rfl (fun ls hl => ?_)
        refine lv_goto (tgt := 46) hx hb dX1_rule_66 (by decide) ?_
        exact ih_46c h_38 x2 x4 (x5 + 1) hF H _ ls hP hD hS (lv_sub hl [1, 2, 3, 4, 0] rfl)
  have hJ_46d : ∀ (n_46d : Nat) (h : HS) (x2 : Int32) (x4 : Int32) (x5 : Int32), f_X1_rule_46d n_46d h x2 x4 x5 = some (rr, hh) → ∀ (H : Heap) (locs : List Loc) (ls : Array Slot), va_P G vwCl (wC q cI cJ cZ cB cT h) H → va_D A (wC q cI cJ cZ cB cT h) → va_S A s.heap H locs → lv_has ls 6 [(0, .ref (q 16)), (2, .int x2), (3, .ref (q 47)), (4, .int x4), (5, .int x5)] → W p l e (gRm 3) s m args below meth c H locs 0 0 (MQ below (va_Qi (fun x (_ : Unit) => x = rr) (gB G (fun (_ : Unit) => (wC q cI cJ cZ cB cT hh)) A) A) args s 0 0 A) (F0 m 46 ls []) := by
    intro n_46d
    induction n_46d with
    | zero =>
      intro h x2 x4 x5 hF
      exact absurd hF (by simp [f_X1_rule_46d])
    | succ n_46d ih_46d =>
      intro h x2 x4 x5 hF H locs ls hP hD hS hl
      rw [f_X1_rule_46d_s] at hF
      refine lv_iload hx hb dX1_rule_46 (lv_at hl 4 rfl) ?_
      refine lv_iload hx hb dX1_rule_48 (lv_at hl 3 rfl) ?_
      refine lv_icmp_ge (tgt := 69) hx hb dX1_rule_50 (by decide) (fun c_39 => ?_) (fun c_39 => ?_)
      · have hF := ob_pos c_39 hF
        refine lv_iconst (v := 0) hx hb dX1_rule_69 (by decide) ?_
        refine lv_iload_n hx hb dX1_rule_70 rfl (lv_at hl 1 rfl) ?_
        refine lv_iconst (v := 2) hx hb dX1_rule_71 (by decide) ?_
        refine lv_icmp_ne (tgt := 80) hx hb dX1_rule_72 (by decide) (fun c_40 => ?_) (fun c_40 => ?_)
        · have hF := ob_neg c_40 hF
          refine lv_bipush (v := 10) hx hb dX1_rule_80 (by decide) ?_
          exact hJ_82 h 10 0 hF H _ ls hP hD hS (lv_sub hl [0] rfl)
        · have hF := ob_pos c_40 hF
          refine lv_bipush (v := 99) hx hb dX1_rule_75 (by decide) ?_
          refine lv_goto (tgt := 82) hx hb dX1_rule_77 (by decide) ?_
          exact hJ_82 h 99 0 hF H _ ls hP hD hS (lv_sub hl [0] rfl)
      · have hF := ob_neg c_39 hF
        refine lv_aload_n hx hb dX1_rule_53 rfl (lv_at hl 0 rfl) ?_
        refine lv_aload_n hx hb dX1_rule_54 rfl (lv_at hl 2 rfl) ?_
        refine lv_iload hx hb dX1_rule_55 (lv_at hl 4 rfl) ?_
        obtain ⟨r_41, h_41, e_41, hF⟩ := ob2_some hF
        refine gx_calli (gx_runV (As := [.int x5]) (rest := [.ref (q 16)]) ⟨hx, hb, hml, hown, hts⟩ (c_X6_stepAt_3 l G cI cJ cZ cB cT q h x5 r_41 h_41 e_41 H.size) (gG_V m_573 m_574 m_575 m_563 m_572) rfl e_X6_stepAt ⟨Nat.le_of_ble_eq_true rfl, Nat.le_of_ble_eq_true rfl⟩ hK hP hD hE hS hA 47 wC_at47 rfl rfl hl.1 rfl (Nat.le_of_ble_eq_true rfl) dX1_rule_57 ⟨Nat.le_refl _, Nat.le_refl _⟩) hP hD hS hA (fun x_41 u_41 H locs hw_41 hP hD hS => ?_)
        subst x_41
        obtain ⟨h_42, e_42, hF⟩ := ob1_some hF
        refine gx_callv (gx_runV (As := [.int r_41]) (rest := []) ⟨hx, hb, hml, hown, hts⟩ (c_X1_take l G cI cJ cZ cB cT q h_41 r_41 h_42 e_42 H.size) (gG_V m_577 m_578 m_579 m_436 m_576) rfl e_X1_take ⟨Nat.le_of_ble_eq_true rfl, Nat.le_of_ble_eq_true rfl⟩ hK hP hD hE hS hA 16 wC_at16 rfl rfl hl.1 rfl (Nat.le_of_ble_eq_true rfl) dX1_rule_60 ⟨Nat.le_refl _, Nat.le_refl _⟩) hP hD hS hA (fun u_42 H locs hw_42 hP hD hS => ?_)
        refine lv_iinc (v := (x5 + 1)) (lv' := [(5, .int (x5 + 1)), (0, .ref (q 16)), (2, .int x2), (3, .ref (q 47)), (4, .int x4)]) hx hb dX1_rule_63 hl (k := 4) rfl rfl (by decide) rfl (fun ls hl => ?_)
        refine lv_goto (tgt := 46) hx hb dX1_rule_66 (by decide) ?_
        exact ih_46d h_42 x2 x4 (x5 + 1) hF H _ ls hP hD hS (lv_sub hl [1, 2, 3, 4, 0] rfl)
  unfold f_X1_rule at hF
  refine lv_aload_n hx hb dX1_rule_0 rfl (lv_at hl 0 rfl) ?_
  refine lv_aload_n hx hb dX1_rule_1 rfl (lv_at hl 1 rfl) ?_
  refine va_get (D := G) (ci := 4) (v := .int (eI h 1 10)) (C := RX4) (T := TX4) (N := 13) hx hb hts iX4 hown hK hP 1 wC_at1 rfl 10 (by decide) (hts _ m_554) (fun _ h9 => h9) rfl dX1_rule_2 ?_
  by_cases c_1 : (eI h 1 10) = 0
  · have hF := ob_pos c_1 hF
    refine gx_callq (gx_runV (As := [.int (eI h 1 10)]) (rest := []) ⟨hx, hb, hml, hown, hts⟩ (c_textOf_e0 l G cI cJ cZ cB cT q h (eI h 1 10) c_1 H.size) (gG_V m_555 m_556 m_557 m_436 m_558) rfl e_X1_textOf ⟨Nat.le_of_ble_eq_true rfl, Nat.le_of_ble_eq_true rfl⟩ hK hP hD hE hS hA 16 wC_at16 rfl rfl hl.1 rfl (Nat.le_of_ble_eq_true rfl) dX1_rule_5 ⟨Nat.le_refl _, Nat.le_refl _⟩) hP hD hS hA (fun x_2 u_2 H locs hw_2 hP hD hS => ?_)
    subst x_2
    refine W.eq (g2 := F0 m 8 ls [.ref (q 32)]) rfl ?_
    refine lv_astore_n (lv' := [(3, .ref (q 32)), (0, .ref (q 16)), (1, .ref (q 1)), (2, .int p1)]) hx hb dX1_rule_8 rfl hl (by decide) rfl (fun ls hl => ?_)
    refine lv_aload_n hx hb dX1_rule_9 rfl (lv_at hl 0 rfl) ?_
    refine lv_ifnull hx hb dX1_rule_10 ?_
    refine lv_aload_n hx hb dX1_rule_13 rfl (lv_at hl 0 rfl) ?_
    refine lv_iload_n hx hb dX1_rule_14 rfl (lv_at hl 3 rfl) ?_
    obtain ⟨r_3, h_3, e_3, hF⟩ := ob2_some hF
    refine gx_calli (gx_runV (As := [.int p1]) (rest := []) ⟨hx, hb, hml, hown, hts⟩ (c_X6_hasLaw_0 l G cI cJ cZ cB cT q h p1 r_3 h_3 e_3 H.size) (gG_V m_560 m_561 m_562 m_563 m_559) rfl e_X6_hasLaw ⟨Nat.le_of_ble_eq_true rfl, Nat.le_of_ble_eq_true rfl⟩ hK hP hD hE hS hA 32 wC_at32 rfl rfl hl.1 rfl (Nat.le_of_ble_eq_true rfl) dX1_rule_15 ⟨Nat.le_refl _, Nat.le_refl _⟩) hP hD hS hA (fun x_3 u_3 H locs hw_3 hP hD hS => ?_)
    subst x_3
    refine lv_if_ne (tgt := 27) hx hb dX1_rule_18 (by decide) (fun c_4 => ?_) (fun c_4 => ?_)
    · have hF := ob_neg c_4 hF
      refine lv_aload_n hx hb dX1_rule_27 rfl (lv_at hl 1 rfl) ?_
      refine lv_iconst (v := 0) hx hb dX1_rule_28 (by decide) ?_
      refine va_put (D := G) (ci := 1) (v := .int 0) (ty := .int) (C := RX1) (T := TX1) (N := 4) hx hb hts iX1 tyX1 tyX1_ok nmX1 hown hK hP hD hS 16 wC_at16 rfl 3 (by decide) (hts _ m_426) (fun _ h9 => h9) rfl (tyX1_ok 3 (by decide)) rfl rfl (Nat.le_of_ble_eq_true rfl) dX1_rule_29 (fun H locs hP hD hS => ?_)
      rw [wC_sI16_3] at hP hD
      refine lv_aload_n hx hb dX1_rule_32 rfl (lv_at hl 0 rfl) ?_
      refine lv_iload_n hx hb dX1_rule_33 rfl (lv_at hl 3 rfl) ?_
      obtain ⟨r_5, h_5, e_5, hF⟩ := ob2_some hF
      refine gx_calli (gx_runV (As := [.int p1]) (rest := []) ⟨hx, hb, hml, hown, hts⟩ (c_X6_stepsEnd_0 l G cI cJ cZ cB cT q (sI h_3 6 3 0) p1 r_5 h_5 e_5 H.size) (gG_V m_565 m_566 m_567 m_563 m_564) rfl e_X6_stepsEnd ⟨Nat.le_of_ble_eq_true rfl, Nat.le_of_ble_eq_true rfl⟩ hK hP hD hE hS hA 32 wC_at32 rfl rfl hl.1 rfl (Nat.le_of_ble_eq_true rfl) dX1_rule_34 ⟨Nat.le_refl _, Nat.le_refl _⟩) hP hD hS hA (fun x_5 u_5 H locs hw_5 hP hD hS => ?_)
      subst x_5
      refine lv_istore (lv' := [(4, .int r_5), (3, .ref (q 32)), (0, .ref (q 16)), (1, .ref (q 1)), (2, .int p1)]) hx hb dX1_rule_37 hl (by decide) rfl (fun ls hl => ?_)
      refine lv_aload_n hx hb dX1_rule_39 rfl (lv_at hl 1 rfl) ?_
      refine lv_iload_n hx hb dX1_rule_40 rfl (lv_at hl 4 rfl) ?_
      obtain ⟨r_6, h_6, e_6, hF⟩ := ob2_some hF
      refine gx_calli (gx_runV (As := [.int p1]) (rest := []) ⟨hx, hb, hml, hown, hts⟩ (c_X6_firstStep_0 l G cI cJ cZ cB cT q h_5 p1 r_6 h_6 e_6 H.size) (gG_V m_569 m_570 m_571 m_563 m_568) rfl e_X6_firstStep ⟨Nat.le_of_ble_eq_true rfl, Nat.le_of_ble_eq_true rfl⟩ hK hP hD hE hS hA 32 wC_at32 rfl rfl hl.1 rfl (Nat.le_of_ble_eq_true rfl) dX1_rule_41 ⟨Nat.le_refl _, Nat.le_refl _⟩) hP hD hS hA (fun x_6 u_6 H locs hw_6 hP hD hS => ?_)
      subst x_6
      refine lv_istore (lv' := [(5, .int r_6), (4, .int r_5), (3, .ref (q 32)), (0, .ref (q 16)), (1, .ref (q 1)), (2, .int p1)]) hx hb dX1_rule_44 hl (by decide) rfl (fun ls hl => ?_)
      exact hJ_46 8589934592 h_6 p1 r_5 r_6 hF H _ ls hP hD hS (lv_sub hl [3, 5, 2, 1, 0] rfl)
    · have hF := ob_pos c_4 hF
      exact hJ_21 h_3 p1 hF H _ ls hP hD hS (lv_sub hl [1, 3] rfl)
  have hF := ob_neg c_1 hF
  by_cases c_7 : (eI h 1 10) = 1
  · have hF := ob_pos c_7 hF
    refine gx_callq (gx_runV (As := [.int (eI h 1 10)]) (rest := []) ⟨hx, hb, hml, hown, hts⟩ (c_textOf_e1 l G cI cJ cZ cB cT q h (eI h 1 10) c_7 H.size) (gG_V m_555 m_556 m_557 m_436 m_558) rfl e_X1_textOf ⟨Nat.le_of_ble_eq_true rfl, Nat.le_of_ble_eq_true rfl⟩ hK hP hD hE hS hA 16 wC_at16 rfl rfl hl.1 rfl (Nat.le_of_ble_eq_true rfl) dX1_rule_5 ⟨Nat.le_refl _, Nat.le_refl _⟩) hP hD hS hA (fun x_8 u_8 H locs hw_8 hP hD hS => ?_)
    subst x_8
    refine W.eq (g2 := F0 m 8 ls [.ref (q 37)]) rfl ?_
    refine lv_astore_n (lv' := [(3, .ref (q 37)), (0, .ref (q 16)), (1, .ref (q 1)), (2, .int p1)]) hx hb dX1_rule_8 rfl hl (by decide) rfl (fun ls hl => ?_)
    refine lv_aload_n hx hb dX1_rule_9 rfl (lv_at hl 0 rfl) ?_
    refine lv_ifnull hx hb dX1_rule_10 ?_
    refine lv_aload_n hx hb dX1_rule_13 rfl (lv_at hl 0 rfl) ?_
    refine lv_iload_n hx hb dX1_rule_14 rfl (lv_at hl 3 rfl) ?_
    obtain ⟨r_9, h_9, e_9, hF⟩ := ob2_some hF
    refine gx_calli (gx_runV (As := [.int p1]) (rest := []) ⟨hx, hb, hml, hown, hts⟩ (c_X6_hasLaw_1 l G cI cJ cZ cB cT q h p1 r_9 h_9 e_9 H.size) (gG_V m_560 m_561 m_562 m_563 m_559) rfl e_X6_hasLaw ⟨Nat.le_of_ble_eq_true rfl, Nat.le_of_ble_eq_true rfl⟩ hK hP hD hE hS hA 37 wC_at37 rfl rfl hl.1 rfl (Nat.le_of_ble_eq_true rfl) dX1_rule_15 ⟨Nat.le_refl _, Nat.le_refl _⟩) hP hD hS hA (fun x_9 u_9 H locs hw_9 hP hD hS => ?_)
    subst x_9
    refine lv_if_ne (tgt := 27) hx hb dX1_rule_18 (by decide) (fun c_10 => ?_) (fun c_10 => ?_)
    · have hF := ob_neg c_10 hF
      refine lv_aload_n hx hb dX1_rule_27 rfl (lv_at hl 1 rfl) ?_
      refine lv_iconst (v := 0) hx hb dX1_rule_28 (by decide) ?_
      refine va_put (D := G) (ci := 1) (v := .int 0) (ty := .int) (C := RX1) (T := TX1) (N := 4) hx hb hts iX1 tyX1 tyX1_ok nmX1 hown hK hP hD hS 16 wC_at16 rfl 3 (by decide) (hts _ m_426) (fun _ h9 => h9) rfl (tyX1_ok 3 (by decide)) rfl rfl (Nat.le_of_ble_eq_true rfl) dX1_rule_29 (fun H locs hP hD hS => ?_)
      rw [wC_sI16_3] at hP hD
      refine lv_aload_n hx hb dX1_rule_32 rfl (lv_at hl 0 rfl) ?_
      refine lv_iload_n hx hb dX1_rule_33 rfl (lv_at hl 3 rfl) ?_
      obtain ⟨r_11, h_11, e_11, hF⟩ := ob2_some hF
      refine gx_calli (gx_runV (As := [.int p1]) (rest := []) ⟨hx, hb, hml, hown, hts⟩ (c_X6_stepsEnd_1 l G cI cJ cZ cB cT q (sI h_9 6 3 0) p1 r_11 h_11 e_11 H.size) (gG_V m_565 m_566 m_567 m_563 m_564) rfl e_X6_stepsEnd ⟨Nat.le_of_ble_eq_true rfl, Nat.le_of_ble_eq_true rfl⟩ hK hP hD hE hS hA 37 wC_at37 rfl rfl hl.1 rfl (Nat.le_of_ble_eq_true rfl) dX1_rule_34 ⟨Nat.le_refl _, Nat.le_refl _⟩) hP hD hS hA (fun x_11 u_11 H locs hw_11 hP hD hS => ?_)
      subst x_11
      refine lv_istore (lv' := [(4, .int r_11), (3, .ref (q 37)), (0, .ref (q 16)), (1, .ref (q 1)), (2, .int p1)]) hx hb dX1_rule_37 hl (by decide) rfl (fun ls hl => ?_)
      refine lv_aload_n hx hb dX1_rule_39 rfl (lv_at hl 1 rfl) ?_
      refine lv_iload_n hx hb dX1_rule_40 rfl (lv_at hl 4 rfl) ?_
      obtain ⟨r_12, h_12, e_12, hF⟩ := ob2_some hF
      refine gx_calli (gx_runV (As := [.int p1]) (rest := []) ⟨hx, hb, hml, hown, hts⟩ (c_X6_firstStep_1 l G cI cJ cZ cB cT q h_11 p1 r_12 h_12 e_12 H.size) (gG_V m_569 m_570 m_571 m_563 m_568) rfl e_X6_firstStep ⟨Nat.le_of_ble_eq_true rfl, Nat.le_of_ble_eq_true rfl⟩ hK hP hD hE hS hA 37 wC_at37 rfl rfl hl.1 rfl (Nat.le_of_ble_eq_true rfl) dX1_rule_41 ⟨Nat.le_refl _, Nat.le_refl _⟩) hP hD hS hA (fun x_12 u_12 H locs hw_12 hP hD hS => ?_)
      subst x_12
      refine lv_istore (lv' := [(5, .int r_12), (4, .int r_11), (3, .ref (q 37)), (0, .ref (q 16)), (1, .ref (q 1)), (2, .int p1)]) hx hb dX1_rule_44 hl (by decide) rfl (fun ls hl => ?_)
      exact hJ_46b 8589934592 h_12 p1 r_11 r_12 hF H _ ls hP hD hS (lv_sub hl [3, 5, 2, 1, 0] rfl)
    · have hF := ob_pos c_10 hF
      exact hJ_21 h_9 p1 hF H _ ls hP hD hS (lv_sub hl [1, 3] rfl)
  have hF := ob_neg c_7 hF
  by_cases c_13 : (eI h 1 10) = 2
  · have hF := ob_pos c_13 hF
    refine gx_callq (gx_runV (As := [.int (eI h 1 10)]) (rest := []) ⟨hx, hb, hml, hown, hts⟩ (c_textOf_e2 l G cI cJ cZ cB cT q h (eI h 1 10) c_13 H.size) (gG_V m_555 m_556 m_557 m_436 m_558) rfl e_X1_textOf ⟨Nat.le_of_ble_eq_true rfl, Nat.le_of_ble_eq_true rfl⟩ hK hP hD hE hS hA 16 wC_at16 rfl rfl hl.1 rfl (Nat.le_of_ble_eq_true rfl) dX1_rule_5 ⟨Nat.le_refl _, Nat.le_refl _⟩) hP hD hS hA (fun x_14 u_14 H locs hw_14 hP hD hS => ?_)
    subst x_14
    refine W.eq (g2 := F0 m 8 ls [.ref (q 42)]) rfl ?_
    refine lv_astore_n (lv' := [(3, .ref (q 42)), (0, .ref (q 16)), (1, .ref (q 1)), (2, .int p1)]) hx hb dX1_rule_8 rfl hl (by decide) rfl (fun ls hl => ?_)
    refine lv_aload_n hx hb dX1_rule_9 rfl (lv_at hl 0 rfl) ?_
    refine lv_ifnull hx hb dX1_rule_10 ?_
    refine lv_aload_n hx hb dX1_rule_13 rfl (lv_at hl 0 rfl) ?_
    refine lv_iload_n hx hb dX1_rule_14 rfl (lv_at hl 3 rfl) ?_
    obtain ⟨r_15, h_15, e_15, hF⟩ := ob2_some hF
    refine gx_calli (gx_runV (As := [.int p1]) (rest := []) ⟨hx, hb, hml, hown, hts⟩ (c_X6_hasLaw_2 l G cI cJ cZ cB cT q h p1 r_15 h_15 e_15 H.size) (gG_V m_560 m_561 m_562 m_563 m_559) rfl e_X6_hasLaw ⟨Nat.le_of_ble_eq_true rfl, Nat.le_of_ble_eq_true rfl⟩ hK hP hD hE hS hA 42 wC_at42 rfl rfl hl.1 rfl (Nat.le_of_ble_eq_true rfl) dX1_rule_15 ⟨Nat.le_refl _, Nat.le_refl _⟩) hP hD hS hA (fun x_15 u_15 H locs hw_15 hP hD hS => ?_)
    subst x_15
    refine lv_if_ne (tgt := 27) hx hb dX1_rule_18 (by decide) (fun c_16 => ?_) (fun c_16 => ?_)
    · have hF := ob_neg c_16 hF
      refine lv_aload_n hx hb dX1_rule_27 rfl (lv_at hl 1 rfl) ?_
      refine lv_iconst (v := 0) hx hb dX1_rule_28 (by decide) ?_
      refine va_put (D := G) (ci := 1) (v := .int 0) (ty := .int) (C := RX1) (T := TX1) (N := 4) hx hb hts iX1 tyX1 tyX1_ok nmX1 hown hK hP hD hS 16 wC_at16 rfl 3 (by decide) (hts _ m_426) (fun _ h9 => h9) rfl (tyX1_ok 3 (by decide)) rfl rfl (Nat.le_of_ble_eq_true rfl) dX1_rule_29 (fun H locs hP hD hS => ?_)
      rw [wC_sI16_3] at hP hD
      refine lv_aload_n hx hb dX1_rule_32 rfl (lv_at hl 0 rfl) ?_
      refine lv_iload_n hx hb dX1_rule_33 rfl (lv_at hl 3 rfl) ?_
      obtain ⟨r_17, h_17, e_17, hF⟩ := ob2_some hF
      refine gx_calli (gx_runV (As := [.int p1]) (rest := []) ⟨hx, hb, hml, hown, hts⟩ (c_X6_stepsEnd_2 l G cI cJ cZ cB cT q (sI h_15 6 3 0) p1 r_17 h_17 e_17 H.size) (gG_V m_565 m_566 m_567 m_563 m_564) rfl e_X6_stepsEnd ⟨Nat.le_of_ble_eq_true rfl, Nat.le_of_ble_eq_true rfl⟩ hK hP hD hE hS hA 42 wC_at42 rfl rfl hl.1 rfl (Nat.le_of_ble_eq_true rfl) dX1_rule_34 ⟨Nat.le_refl _, Nat.le_refl _⟩) hP hD hS hA (fun x_17 u_17 H locs hw_17 hP hD hS => ?_)
      subst x_17
      refine lv_istore (lv' := [(4, .int r_17), (3, .ref (q 42)), (0, .ref (q 16)), (1, .ref (q 1)), (2, .int p1)]) hx hb dX1_rule_37 hl (by decide) rfl (fun ls hl => ?_)
      refine lv_aload_n hx hb dX1_rule_39 rfl (lv_at hl 1 rfl) ?_
      refine lv_iload_n hx hb dX1_rule_40 rfl (lv_at hl 4 rfl) ?_
      obtain ⟨r_18, h_18, e_18, hF⟩ := ob2_some hF
      refine gx_calli (gx_runV (As := [.int p1]) (rest := []) ⟨hx, hb, hml, hown, hts⟩ (c_X6_firstStep_2 l G cI cJ cZ cB cT q h_17 p1 r_18 h_18 e_18 H.size) (gG_V m_569 m_570 m_571 m_563 m_568) rfl e_X6_firstStep ⟨Nat.le_of_ble_eq_true rfl, Nat.le_of_ble_eq_true rfl⟩ hK hP hD hE hS hA 42 wC_at42 rfl rfl hl.1 rfl (Nat.le_of_ble_eq_true rfl) dX1_rule_41 ⟨Nat.le_refl _, Nat.le_refl _⟩) hP hD hS hA (fun x_18 u_18 H locs hw_18 hP hD hS => ?_)
      subst x_18
      refine lv_istore (lv' := [(5, .int r_18), (4, .int r_17), (3, .ref (q 42)), (0, .ref (q 16)), (1, .ref (q 1)), (2, .int p1)]) hx hb dX1_rule_44 hl (by decide) rfl (fun ls hl => ?_)
      exact hJ_46c 8589934592 h_18 p1 r_17 r_18 hF H _ ls hP hD hS (lv_sub hl [3, 5, 2, 1, 0] rfl)
    · have hF := ob_pos c_16 hF
      exact hJ_21 h_15 p1 hF H _ ls hP hD hS (lv_sub hl [1, 3] rfl)
  have hF := ob_neg c_13 hF
  by_cases c_19 : (eI h 1 10) = 3
  · have hF := ob_pos c_19 hF
    refine gx_callq (gx_runV (As := [.int (eI h 1 10)]) (rest := []) ⟨hx, hb, hml, hown, hts⟩ (c_textOf_e3 l G cI cJ cZ cB cT q h (eI h 1 10) c_19 H.size) (gG_V m_555 m_556 m_557 m_436 m_558) rfl e_X1_textOf ⟨Nat.le_of_ble_eq_true rfl, Nat.le_of_ble_eq_true rfl⟩ hK hP hD hE hS hA 16 wC_at16 rfl rfl hl.1 rfl (Nat.le_of_ble_eq_true rfl) dX1_rule_5 ⟨Nat.le_refl _, Nat.le_refl _⟩) hP hD hS hA (fun x_20 u_20 H locs hw_20 hP hD hS => ?_)
    subst x_20
    refine W.eq (g2 := F0 m 8 ls [.ref (q 47)]) rfl ?_
    refine lv_astore_n (lv' := [(3, .ref (q 47)), (0, .ref (q 16)), (1, .ref (q 1)), (2, .int p1)]) hx hb dX1_rule_8 rfl hl (by decide) rfl (fun ls hl => ?_)
    refine lv_aload_n hx hb dX1_rule_9 rfl (lv_at hl 0 rfl) ?_
    refine lv_ifnull hx hb dX1_rule_10 ?_
    refine lv_aload_n hx hb dX1_rule_13 rfl (lv_at hl 0 rfl) ?_
    refine lv_iload_n hx hb dX1_rule_14 rfl (lv_at hl 3 rfl) ?_
    obtain ⟨r_21, h_21, e_21, hF⟩ := ob2_some hF
    refine gx_calli (gx_runV (As := [.int p1]) (rest := []) ⟨hx, hb, hml, hown, hts⟩ (c_X6_hasLaw_3 l G cI cJ cZ cB cT q h p1 r_21 h_21 e_21 H.size) (gG_V m_560 m_561 m_562 m_563 m_559) rfl e_X6_hasLaw ⟨Nat.le_of_ble_eq_true rfl, Nat.le_of_ble_eq_true rfl⟩ hK hP hD hE hS hA 47 wC_at47 rfl rfl hl.1 rfl (Nat.le_of_ble_eq_true rfl) dX1_rule_15 ⟨Nat.le_refl _, Nat.le_refl _⟩) hP hD hS hA (fun x_21 u_21 H locs hw_21 hP hD hS => ?_)
    subst x_21
    refine lv_if_ne (tgt := 27) hx hb dX1_rule_18 (by decide) (fun c_22 => ?_) (fun c_22 => ?_)
    · have hF := ob_neg c_22 hF
      refine lv_aload_n hx hb dX1_rule_27 rfl (lv_at hl 1 rfl) ?_
      refine lv_iconst (v := 0) hx hb dX1_rule_28 (by decide) ?_
      refine va_put (D := G) (ci := 1) (v := .int 0) (ty := .int) (C := RX1) (T := TX1) (N := 4) hx hb hts iX1 tyX1 tyX1_ok nmX1 hown hK hP hD hS 16 wC_at16 rfl 3 (by decide) (hts _ m_426) (fun _ h9 => h9) rfl (tyX1_ok 3 (by decide)) rfl rfl (Nat.le_of_ble_eq_true rfl) dX1_rule_29 (fun H locs hP hD hS => ?_)
      rw [wC_sI16_3] at hP hD
      refine lv_aload_n hx hb dX1_rule_32 rfl (lv_at hl 0 rfl) ?_
      refine lv_iload_n hx hb dX1_rule_33 rfl (lv_at hl 3 rfl) ?_
      obtain ⟨r_23, h_23, e_23, hF⟩ := ob2_some hF
      refine gx_calli (gx_runV (As := [.int p1]) (rest := []) ⟨hx, hb, hml, hown, hts⟩ (c_X6_stepsEnd_3 l G cI cJ cZ cB cT q (sI h_21 6 3 0) p1 r_23 h_23 e_23 H.size) (gG_V m_565 m_566 m_567 m_563 m_564) rfl e_X6_stepsEnd ⟨Nat.le_of_ble_eq_true rfl, Nat.le_of_ble_eq_true rfl⟩ hK hP hD hE hS hA 47 wC_at47 rfl rfl hl.1 rfl (Nat.le_of_ble_eq_true rfl) dX1_rule_34 ⟨Nat.le_refl _, Nat.le_refl _⟩) hP hD hS hA (fun x_23 u_23 H locs hw_23 hP hD hS => ?_)
      subst x_23
      refine lv_istore (lv' := [(4, .int r_23), (3, .ref (q 47)), (0, .ref (q 16)), (1, .ref (q 1)), (2, .int p1)]) hx hb dX1_rule_37 hl (by decide) rfl (fun ls hl => ?_)
      refine lv_aload_n hx hb dX1_rule_39 rfl (lv_at hl 1 rfl) ?_
      refine lv_iload_n hx hb dX1_rule_40 rfl (lv_at hl 4 rfl) ?_
      obtain ⟨r_24, h_24, e_24, hF⟩ := ob2_some hF
      refine gx_calli (gx_runV (As := [.int p1]) (rest := []) ⟨hx, hb, hml, hown, hts⟩ (c_X6_firstStep_3 l G cI cJ cZ cB cT q h_23 p1 r_24 h_24 e_24 H.size) (gG_V m_569 m_570 m_571 m_563 m_568) rfl e_X6_firstStep ⟨Nat.le_of_ble_eq_true rfl, Nat.le_of_ble_eq_true rfl⟩ hK hP hD hE hS hA 47 wC_at47 rfl rfl hl.1 rfl (Nat.le_of_ble_eq_true rfl) dX1_rule_41 ⟨Nat.le_refl _, Nat.le_refl _⟩) hP hD hS hA (fun x_24 u_24 H locs hw_24 hP hD hS => ?_)
      subst x_24
      refine lv_istore (lv' := [(5, .int r_24), (4, .int r_23), (3, .ref (q 47)), (0, .ref (q 16)), (1, .ref (q 1)), (2, .int p1)]) hx hb dX1_rule_44 hl (by decide) rfl (fun ls hl => ?_)
      exact hJ_46d 8589934592 h_24 p1 r_23 r_24 hF H _ ls hP hD hS (lv_sub hl [3, 5, 2, 1, 0] rfl)
    · have hF := ob_pos c_22 hF
      exact hJ_21 h_21 p1 hF H _ ls hP hD hS (lv_sub hl [1, 3] rfl)
  have hF := ob_neg c_19 hF
  refine gx_callq (gx_runV (As := [.int (eI h 1 10)]) (rest := []) ⟨hx, hb, hml, hown, hts⟩ (c_textOf_no l G cI cJ cZ cB cT q h (eI h 1 10) c_1 c_7 c_13 c_19 H.size) (gG_V m_555 m_556 m_557 m_436 m_558) rfl e_X1_textOf ⟨Nat.le_of_ble_eq_true rfl, Nat.le_of_ble_eq_true rfl⟩ hK hP hD hE hS hA 16 wC_at16 rfl rfl hl.1 rfl (Nat.le_of_ble_eq_true rfl) dX1_rule_5 ⟨Nat.le_refl _, Nat.le_refl _⟩) hP hD hS hA (fun x_25 u_25 H locs hw_25 hP hD hS => ?_)
  subst x_25
  refine W.eq (g2 := F0 m 8 ls [.null]) rfl ?_
  refine lv_astore_nN (lv' := [(3, .null), (0, .ref (q 16)), (1, .ref (q 1)), (2, .int p1)]) hx hb dX1_rule_8 rfl hl (by decide) rfl (fun ls hl => ?_)
  refine lv_aload_nN hx hb dX1_rule_9 rfl (lv_at hl 0 rfl) ?_
  refine lv_ifnullN (tgt := 21) hx hb dX1_rule_10 (by decide) ?_
  exact hJ_21 h p1 hF H _ ls hP hD hS (lv_sub hl [1, 3] rfl)
def f_X1_inkCost (h : HS) (p1 : Int32) (p2 : Int32) (p3 : Int32) : Option (Int32 × HS) := (ob1 (f_X1_lookAtFilled h p1 p2 p3) (fun h_1 => (ob2 (f_X1_rule h_1 2) (fun r_2 h_2 => (some (r_2, h_2))))))
theorem e_X1_lookAtFilled : yX1_lookAtFilled.cls = RX1 ∧ yX1_lookAtFilled.cls ≠ "java/lang/invoke/MethodHandle" ∧ yX1_lookAtFilled.cls ≠ "java/lang/invoke/VarHandle" ∧ (parseMethodDescriptor yX1_lookAtFilled.desc).map (fun d => d.parameters.length) = some 4 := by decide +kernel
theorem e_X1_rule : yX1_rule.cls = RX1 ∧ yX1_rule.cls ≠ "java/lang/invoke/MethodHandle" ∧ yX1_rule.cls ≠ "java/lang/invoke/VarHandle" ∧ (parseMethodDescriptor yX1_rule.desc).map (fun d => d.parameters.length) = some 2 := by decide +kernel
set_option maxHeartbeats 4000000 in
set_option maxRecDepth 100000 in
theorem c_X1_inkCost (l : Launch) (G : va_G) (cI cJ cZ cB cT : ClassId) (q : Nat → Nat) (h : HS) (p1 : Int32) (p2 : Int32) (p3 : Int32) (rr : Int32) (hh : HS) (hF : f_X1_inkCost h p1 p2 p3 = some (rr, hh)) : gMi l yX1_inkCost (gws yX1_inkCost cX1_inkCost 5 (some .int)) 4 G (gT cI cJ cZ cB cT) [.ref (q 16), .ref (q 1), .int p1, .int p2, .int p3] (wC q cI cJ cZ cB cT h) (fun x (_ : Unit) => x = rr) (fun (_ : Unit) => (wC q cI cJ cZ cB cT hh)) := by
  intro sz
  refine gM_start (y := yX1_inkCost) (av := [.ref (q 16), .ref (q 1), .int p1, .int p2, .int p3]) (ws := (wC q cI cJ cZ cB cT h)) (Qf := fun A => va_Qi (fun x (_ : Unit) => x = rr) (gB G (fun (_ : Unit) => (wC q cI cJ cZ cB cT hh)) A) A) (cc := cX1_inkCost) (maxL := 5) (ret := (some .int)) (by decide) (Nat.le_of_ble_eq_true rfl) ?_
  intro p e s m args below meth c A ls H hx hb hr hts hown hin hlocks hml hP hK hD hA hS hl hE
  have hl : lv_has ls 5 [(0, .ref (q 16)), (1, .ref (q 1)), (2, .int p1), (3, .int p2), (4, .int p3)] := hl
  unfold f_X1_inkCost at hF
  refine lv_aload_n hx hb dX1_inkCost_0 rfl (lv_at hl 0 rfl) ?_
  refine lv_aload_n hx hb dX1_inkCost_1 rfl (lv_at hl 1 rfl) ?_
  refine lv_iload_n hx hb dX1_inkCost_2 rfl (lv_at hl 2 rfl) ?_
  refine lv_iload_n hx hb dX1_inkCost_3 rfl (lv_at hl 3 rfl) ?_
  refine lv_iload hx hb dX1_inkCost_4 (lv_at hl 4 rfl) ?_
  obtain ⟨h_1, e_1, hF⟩ := ob1_some hF
  refine gx_callv (gx_runV (As := [.ref (q 1), .int p1, .int p2, .int p3]) (rest := []) ⟨hx, hb, hml, hown, hts⟩ (c_X1_lookAtFilled l G cI cJ cZ cB cT q h p1 p2 p3 h_1 e_1 H.size) (gG_V m_587 m_588 m_589 m_436 m_586) rfl e_X1_lookAtFilled ⟨Nat.le_of_ble_eq_true rfl, Nat.le_of_ble_eq_true rfl⟩ hK hP hD hE hS hA 16 wC_at16 rfl rfl hl.1 rfl (Nat.le_of_ble_eq_true rfl) dX1_inkCost_6 ⟨Nat.le_refl _, Nat.le_refl _⟩) hP hD hS hA (fun u_1 H locs hw_1 hP hD hS => ?_)
  refine lv_aload_n hx hb dX1_inkCost_9 rfl (lv_at hl 0 rfl) ?_
  refine lv_aload_n hx hb dX1_inkCost_10 rfl (lv_at hl 1 rfl) ?_
  refine lv_iconst (v := 2) hx hb dX1_inkCost_11 (by decide) ?_
  obtain ⟨r_2, h_2, e_2, hF⟩ := ob2_some hF
  refine gx_calli (gx_runV (As := [.ref (q 1), .int 2]) (rest := []) ⟨hx, hb, hml, hown, hts⟩ (c_X1_rule l G cI cJ cZ cB cT q h_1 2 r_2 h_2 e_2 H.size) (gG_V m_591 m_592 m_593 m_436 m_590) rfl e_X1_rule ⟨Nat.le_of_ble_eq_true rfl, Nat.le_of_ble_eq_true rfl⟩ hK hP hD hE hS hA 16 wC_at16 rfl rfl hl.1 rfl (Nat.le_of_ble_eq_true rfl) dX1_inkCost_12 ⟨Nat.le_refl _, Nat.le_refl _⟩) hP hD hS hA (fun x_2 u_2 H locs hw_2 hP hD hS => ?_)
  subst x_2
  obtain ⟨rfl, rfl⟩ := ob_pair hF
  exact gw_iret () hx hb hr hlocks hP hD hS rfl dX1_inkCost_15
def f_X1_isTrue_20 (h : HS) (y0 : Int32) : Option (Int32 × HS) := (if y0 = 0 ∨ y0 = 1 then (some (y0, h)) else none)
def f_X1_isTrue (h : HS) (p1 : Int32) : Option (Int32 × HS) := (ob1 (f_X1_lookAt h p1) (fun h_1 => (ob2 (f_X1_rule h_1 3) (fun r_2 h_2 => (if r_2 = 0 then (f_X1_isTrue_20 h_2 0) else (f_X1_isTrue_20 h_2 1))))))
set_option maxHeartbeats 4000000 in
set_option maxRecDepth 100000 in
theorem c_X1_isTrue (l : Launch) (G : va_G) (cI cJ cZ cB cT : ClassId) (q : Nat → Nat) (h : HS) (p1 : Int32) (rr : Int32) (hh : HS) (hF : f_X1_isTrue h p1 = some (rr, hh)) : gMi l yX1_isTrue (gws yX1_isTrue cX1_isTrue 3 (some .boolean)) 4 G (gT cI cJ cZ cB cT) [.ref (q 16), .ref (q 1), .int p1] (wC q cI cJ cZ cB cT h) (fun x (_ : Unit) => x = rr) (fun (_ : Unit) => (wC q cI cJ cZ cB cT hh)) := by
  intro sz
  refine gM_start (y := yX1_isTrue) (av := [.ref (q 16), .ref (q 1), .int p1]) (ws := (wC q cI cJ cZ cB cT h)) (Qf := fun A => va_Qi (fun x (_ : Unit) => x = rr) (gB G (fun (_ : Unit) => (wC q cI cJ cZ cB cT hh)) A) A) (cc := cX1_isTrue) (maxL := 3) (ret := (some .boolean)) (by decide) (Nat.le_of_ble_eq_true rfl) ?_
  intro p e s m args below meth c A ls H hx hb hr hts hown hin hlocks hml hP hK hD hA hS hl hE
  have hl : lv_has ls 3 [(0, .ref (q 16)), (1, .ref (q 1)), (2, .int p1)] := hl
  have hJ_20 : ∀ (h : HS) (y0 : Int32), f_X1_isTrue_20 h y0 = some (rr, hh) → ∀ (H : Heap) (locs : List Loc) (ls : Array Slot), va_P G vwCl (wC q cI cJ cZ cB cT h) H → va_D A (wC q cI cJ cZ cB cT h) → va_S A s.heap H locs → lv_has ls 3 [] → W p l e (gRm 4) s m args below meth c H locs 0 0 (MQ below (va_Qi (fun x (_ : Unit) => x = rr) (gB G (fun (_ : Unit) => (wC q cI cJ cZ cB cT hh)) A) A) args s 0 0 A) (F0 m 20 ls [.int y0]) := by
    intro h y0 hF H locs ls hP hD hS hl
    unfold f_X1_isTrue_20 at hF
    obtain ⟨hz_4, hF⟩ := ob_if hF
    obtain ⟨rfl, rfl⟩ := ob_pair hF
    exact gw_zret () hx hb hr hlocks (gz hz_4) hP hD hS rfl dX1_isTrue_20
  unfold f_X1_isTrue at hF
  refine lv_aload_n hx hb dX1_isTrue_0 rfl (lv_at hl 0 rfl) ?_
  refine lv_aload_n hx hb dX1_isTrue_1 rfl (lv_at hl 1 rfl) ?_
  refine lv_iload_n hx hb dX1_isTrue_2 rfl (lv_at hl 2 rfl) ?_
  obtain ⟨h_1, e_1, hF⟩ := ob1_some hF
  refine gx_callv (gx_runV (As := [.ref (q 1), .int p1]) (rest := []) ⟨hx, hb, hml, hown, hts⟩ (c_X1_lookAt l G cI cJ cZ cB cT q h p1 h_1 e_1 H.size) (gG_V m_448 m_449 m_450 m_436 m_447) rfl e_X1_lookAt ⟨Nat.le_of_ble_eq_true rfl, Nat.le_of_ble_eq_true rfl⟩ hK hP hD hE hS hA 16 wC_at16 rfl rfl hl.1 rfl (Nat.le_of_ble_eq_true rfl) dX1_isTrue_3 ⟨Nat.le_refl _, Nat.le_refl _⟩) hP hD hS hA (fun u_1 H locs hw_1 hP hD hS => ?_)
  refine lv_aload_n hx hb dX1_isTrue_6 rfl (lv_at hl 0 rfl) ?_
  refine lv_aload_n hx hb dX1_isTrue_7 rfl (lv_at hl 1 rfl) ?_
  refine lv_iconst (v := 3) hx hb dX1_isTrue_8 (by decide) ?_
  obtain ⟨r_2, h_2, e_2, hF⟩ := ob2_some hF
  refine gx_calli (gx_runV (As := [.ref (q 1), .int 3]) (rest := []) ⟨hx, hb, hml, hown, hts⟩ (c_X1_rule l G cI cJ cZ cB cT q h_1 3 r_2 h_2 e_2 H.size) (gG_V m_591 m_592 m_593 m_436 m_590) rfl e_X1_rule ⟨Nat.le_of_ble_eq_true rfl, Nat.le_of_ble_eq_true rfl⟩ hK hP hD hE hS hA 16 wC_at16 rfl rfl hl.1 rfl (Nat.le_of_ble_eq_true rfl) dX1_isTrue_9 ⟨Nat.le_refl _, Nat.le_refl _⟩) hP hD hS hA (fun x_2 u_2 H locs hw_2 hP hD hS => ?_)
  subst x_2
  refine lv_if_eq (tgt := 19) hx hb dX1_isTrue_12 (by decide) (fun c_3 => ?_) (fun c_3 => ?_)
  · have hF := ob_pos c_3 hF
    refine lv_iconst (v := 0) hx hb dX1_isTrue_19 (by decide) ?_
    exact hJ_20 h_2 0 hF H _ ls hP hD hS (lv_sub hl [] rfl)
  · have hF := ob_neg c_3 hF
    refine lv_iconst (v := 1) hx hb dX1_isTrue_15 (by decide) ?_
    refine lv_goto (tgt := 20) hx hb dX1_isTrue_16 (by decide) ?_
    exact hJ_20 h_2 1 hF H _ ls hP hD hS (lv_sub hl [] rfl)
def f_X1_isTrueWith_27 (h : HS) (y0 : Int32) : Option (Int32 × HS) := (if y0 = 0 ∨ y0 = 1 then (some (y0, h)) else none)
def f_X1_isTrueWith (h : HS) (p1 : Int32) (p2 : Int32) : Option (Int32 × HS) := (ob1 (f_X1_lookAt h p1) (fun h_1 => (ob2 (f_X1_rule (sA h_1 6 1 (upd (eA h_1 6 1) 2 p2)) 3) (fun r_2 h_2 => (if r_2 = 0 then (f_X1_isTrueWith_27 h_2 0) else (f_X1_isTrueWith_27 h_2 1))))))
set_option maxHeartbeats 4000000 in
set_option maxRecDepth 100000 in
theorem c_X1_isTrueWith (l : Launch) (G : va_G) (cI cJ cZ cB cT : ClassId) (q : Nat → Nat) (h : HS) (p1 : Int32) (p2 : Int32) (rr : Int32) (hh : HS) (hF : f_X1_isTrueWith h p1 p2 = some (rr, hh)) : gMi l yX1_isTrueWith (gws yX1_isTrueWith cX1_isTrueWith 4 (some .boolean)) 4 G (gT cI cJ cZ cB cT) [.ref (q 16), .ref (q 1), .int p1, .int p2] (wC q cI cJ cZ cB cT h) (fun x (_ : Unit) => x = rr) (fun (_ : Unit) => (wC q cI cJ cZ cB cT hh)) := by
  intro sz
  refine gM_start (y := yX1_isTrueWith) (av := [.ref (q 16), .ref (q 1), .int p1, .int p2]) (ws := (wC q cI cJ cZ cB cT h)) (Qf := fun A => va_Qi (fun x (_ : Unit) => x = rr) (gB G (fun (_ : Unit) => (wC q cI cJ cZ cB cT hh)) A) A) (cc := cX1_isTrueWith) (maxL := 4) (ret := (some .boolean)) (by decide) (Nat.le_of_ble_eq_true rfl) ?_
  intro p e s m args below meth c A ls H hx hb hr hts hown hin hlocks hml hP hK hD hA hS hl hE
  have hl : lv_has ls 4 [(0, .ref (q 16)), (1, .ref (q 1)), (2, .int p1), (3, .int p2)] := hl
  have hJ_27 : ∀ (h : HS) (y0 : Int32), f_X1_isTrueWith_27 h y0 = some (rr, hh) → ∀ (H : Heap) (locs : List Loc) (ls : Array Slot), va_P G vwCl (wC q cI cJ cZ cB cT h) H → va_D A (wC q cI cJ cZ cB cT h) → va_S A s.heap H locs → lv_has ls 4 [] → W p l e (gRm 4) s m args below meth c H locs 0 0 (MQ below (va_Qi (fun x (_ : Unit) => x = rr) (gB G (fun (_ : Unit) => (wC q cI cJ cZ cB cT hh)) A) A) args s 0 0 A) (F0 m 27 ls [.int y0]) := by
    intro h y0 hF H locs ls hP hD hS hl
    unfold f_X1_isTrueWith_27 at hF
    obtain ⟨hz_4, hF⟩ := ob_if hF
    obtain ⟨rfl, rfl⟩ := ob_pair hF
    exact gw_zret () hx hb hr hlocks (gz hz_4) hP hD hS rfl dX1_isTrueWith_27
  unfold f_X1_isTrueWith at hF
  refine lv_aload_n hx hb dX1_isTrueWith_0 rfl (lv_at hl 0 rfl) ?_
  refine lv_aload_n hx hb dX1_isTrueWith_1 rfl (lv_at hl 1 rfl) ?_
  refine lv_iload_n hx hb dX1_isTrueWith_2 rfl (lv_at hl 2 rfl) ?_
  obtain ⟨h_1, e_1, hF⟩ := ob1_some hF
  refine gx_callv (gx_runV (As := [.ref (q 1), .int p1]) (rest := []) ⟨hx, hb, hml, hown, hts⟩ (c_X1_lookAt l G cI cJ cZ cB cT q h p1 h_1 e_1 H.size) (gG_V m_448 m_449 m_450 m_436 m_447) rfl e_X1_lookAt ⟨Nat.le_of_ble_eq_true rfl, Nat.le_of_ble_eq_true rfl⟩ hK hP hD hE hS hA 16 wC_at16 rfl rfl hl.1 rfl (Nat.le_of_ble_eq_true rfl) dX1_isTrueWith_3 ⟨Nat.le_refl _, Nat.le_refl _⟩) hP hD hS hA (fun u_1 H locs hw_1 hP hD hS => ?_)
  refine lv_aload_n hx hb dX1_isTrueWith_6 rfl (lv_at hl 0 rfl) ?_
  refine va_get (D := G) (ci := 1) (v := .ref (q 18)) (C := RX1) (T := TX1) (N := 4) hx hb hts iX1 hown hK hP 16 wC_at16 rfl 1 (by decide) (hts _ m_444) (fun _ h9 => h9) rfl dX1_isTrueWith_7 ?_
  refine lv_iconst (v := 2) hx hb dX1_isTrueWith_10 (by decide) ?_
  refine lv_iload_n hx hb dX1_isTrueWith_11 rfl (lv_at hl 3 rfl) ?_
  refine va_iast (D := G) hx hb hK hP hD hS 18 0 wC_at18 rfl (vp_in_nI (n := 2) (by decide) (by decide)) dX1_isTrueWith_12 (fun H locs hP hD hS => ?_)
  rw [wC_sA18] at hP hD
  have hP : va_P G vwCl (wC q cI cJ cZ cB cT (sA h_1 6 1 (upd (eA h_1 6 1) 2 p2))) H := hP
  have hD : va_D A (wC q cI cJ cZ cB cT (sA h_1 6 1 (upd (eA h_1 6 1) 2 p2))) := hD
  refine lv_aload_n hx hb dX1_isTrueWith_13 rfl (lv_at hl 0 rfl) ?_
  refine lv_aload_n hx hb dX1_isTrueWith_14 rfl (lv_at hl 1 rfl) ?_
  refine lv_iconst (v := 3) hx hb dX1_isTrueWith_15 (by decide) ?_
  obtain ⟨r_2, h_2, e_2, hF⟩ := ob2_some hF
  refine gx_calli (gx_runV (As := [.ref (q 1), .int 3]) (rest := []) ⟨hx, hb, hml, hown, hts⟩ (c_X1_rule l G cI cJ cZ cB cT q (sA h_1 6 1 (upd (eA h_1 6 1) 2 p2)) 3 r_2 h_2 e_2 H.size) (gG_V m_591 m_592 m_593 m_436 m_590) rfl e_X1_rule ⟨Nat.le_of_ble_eq_true rfl, Nat.le_of_ble_eq_true rfl⟩ hK hP hD hE hS hA 16 wC_at16 rfl rfl hl.1 rfl (Nat.le_of_ble_eq_true rfl) dX1_isTrueWith_16 ⟨Nat.le_refl _, Nat.le_refl _⟩) hP hD hS hA (fun x_2 u_2 H locs hw_2 hP hD hS => ?_)
  subst x_2
  refine lv_if_eq (tgt := 26) hx hb dX1_isTrueWith_19 (by decide) (fun c_3 => ?_) (fun c_3 => ?_)
  · have hF := ob_pos c_3 hF
    refine lv_iconst (v := 0) hx hb dX1_isTrueWith_26 (by decide) ?_
    exact hJ_27 h_2 0 hF H _ ls hP hD hS (lv_sub hl [] rfl)
  · have hF := ob_neg c_3 hF
    refine lv_iconst (v := 1) hx hb dX1_isTrueWith_22 (by decide) ?_
    refine lv_goto (tgt := 27) hx hb dX1_isTrueWith_23 (by decide) ?_
    exact hJ_27 h_2 1 hF H _ ls hP hD hS (lv_sub hl [] rfl)
theorem ei_X8_halvesOf : yX8_halvesOf.cls ≠ "java/lang/invoke/MethodHandle" ∧ yX8_halvesOf.cls ≠ "java/lang/invoke/VarHandle" ∧ (parseMethodDescriptor yX8_halvesOf.desc).map (fun d => d.parameters.length) = some 1 := by decide +kernel
def f_X0_add_129 : Nat → HS → Int32 → Int32 → Int32 → Int32 → Int32 → Option HS
  | 0, _, _, _, _, _, _ => none
  | n + 1, h, x4, x5, x7, x8, x9 => (if 16 ≤ x9 then (some (sL (sJ h 7 2 (va_cpy (eJ h 7 3) (eJ h 7 2) 0 0 16)) 7 1 ((eL h 7 1) * 100))) else (if 0 ≤ ((x9 ||| (x5 * 4))).toInt ∧ ((x9 ||| (x5 * 4))).toInt < 16 then (if 0 ≤ (x9).toInt ∧ (x9).toInt < 16 then (if 0 ≤ ((x9 ||| (x5 * 4))).toInt ∧ ((x9 ||| (x5 * 4))).toInt < 16 then (if 0 ≤ ((x9 ||| x4)).toInt ∧ ((x9 ||| x4)).toInt < 16 then (if 0 ≤ (x9).toInt ∧ (x9).toInt < 16 then (if 0 ≤ ((x9 ||| x4)).toInt ∧ ((x9 ||| x4)).toInt < 16 then ((f_X0_add_129 n) (sJ (sJ h 7 3 (vp_updL (eJ h 7 3) (((x9 ||| (x5 * 4))).toNatClampNeg) (((eJ h 7 3) (((x9 ||| (x5 * 4))).toNatClampNeg)) + (((eJ h 7 2) ((x9).toNatClampNeg)) * ((x8).toInt64))))) 7 3 (vp_updL (vp_updL (eJ h 7 3) (((x9 ||| (x5 * 4))).toNatClampNeg) (((eJ h 7 3) (((x9 ||| (x5 * 4))).toNatClampNeg)) + (((eJ h 7 2) ((x9).toNatClampNeg)) * ((x8).toInt64)))) (((x9 ||| x4)).toNatClampNeg) (((vp_updL (eJ h 7 3) (((x9 ||| (x5 * 4))).toNatClampNeg) (((eJ h 7 3) (((x9 ||| (x5 * 4))).toNatClampNeg)) + (((eJ h 7 2) ((x9).toNatClampNeg)) * ((x8).toInt64)))) (((x9 ||| x4)).toNatClampNeg)) + (((eJ h 7 2) ((x9).toNatClampNeg)) * ((x7).toInt64))))) x4 x5 x7 x8 (x9 + 1)) else none) else none) else none) else none) else none) else none))
theorem f_X0_add_129_s (n : Nat) (h : HS) (x4 : Int32) (x5 : Int32) (x7 : Int32) (x8 : Int32) (x9 : Int32) : f_X0_add_129 (n + 1) h x4 x5 x7 x8 x9 = (if 16 ≤ x9 then (some (sL (sJ h 7 2 (va_cpy (eJ h 7 3) (eJ h 7 2) 0 0 16)) 7 1 ((eL h 7 1) * 100))) else (if 0 ≤ ((x9 ||| (x5 * 4))).toInt ∧ ((x9 ||| (x5 * 4))).toInt < 16 then (if 0 ≤ (x9).toInt ∧ (x9).toInt < 16 then (if 0 ≤ ((x9 ||| (x5 * 4))).toInt ∧ ((x9 ||| (x5 * 4))).toInt < 16 then (if 0 ≤ ((x9 ||| x4)).toInt ∧ ((x9 ||| x4)).toInt < 16 then (if 0 ≤ (x9).toInt ∧ (x9).toInt < 16 then (if 0 ≤ ((x9 ||| x4)).toInt ∧ ((x9 ||| x4)).toInt < 16 then ((f_X0_add_129 n) (sJ (sJ h 7 3 (vp_updL (eJ h 7 3) (((x9 ||| (x5 * 4))).toNatClampNeg) (((eJ h 7 3) (((x9 ||| (x5 * 4))).toNatClampNeg)) + (((eJ h 7 2) ((x9).toNatClampNeg)) * ((x8).toInt64))))) 7 3 (vp_updL (vp_updL (eJ h 7 3) (((x9 ||| (x5 * 4))).toNatClampNeg) (((eJ h 7 3) (((x9 ||| (x5 * 4))).toNatClampNeg)) + (((eJ h 7 2) ((x9).toNatClampNeg)) * ((x8).toInt64)))) (((x9 ||| x4)).toNatClampNeg) (((vp_updL (eJ h 7 3) (((x9 ||| (x5 * 4))).toNatClampNeg) (((eJ h 7 3) (((x9 ||| (x5 * 4))).toNatClampNeg)) + (((eJ h 7 2) ((x9).toNatClampNeg)) * ((x8).toInt64)))) (((x9 ||| x4)).toNatClampNeg)) + (((eJ h 7 2) ((x9).toNatClampNeg)) * ((x7).toInt64))))) x4 x5 x7 x8 (x9 + 1)) else none) else none) else none) else none) else none) else none)) := rfl
def f_X0_add_86 : Nat → HS → Int32 → Int32 → Int32 → Int32 → Int32 → Option HS
  | 0, _, _, _, _, _, _ => none
  | n + 1, h, x4, x5, x7, x8, x9 => (if 16 ≤ x9 then (f_X0_add_129 8589934592 h x4 x5 x7 x8 0) else (if 0 ≤ (x9).toInt ∧ (x9).toInt < 16 then (if 0 ≤ (x9).toInt ∧ (x9).toInt < 16 then ((f_X0_add_86 n) (sJ h 7 3 (vp_updL (eJ h 7 3) ((x9).toNatClampNeg) (((eJ h 7 2) ((x9).toNatClampNeg)) * ((((100 - x8) - x7)).toInt64)))) x4 x5 x7 x8 (x9 + 1)) else none) else none))
theorem f_X0_add_86_s (n : Nat) (h : HS) (x4 : Int32) (x5 : Int32) (x7 : Int32) (x8 : Int32) (x9 : Int32) : f_X0_add_86 (n + 1) h x4 x5 x7 x8 x9 = (if 16 ≤ x9 then (f_X0_add_129 8589934592 h x4 x5 x7 x8 0) else (if 0 ≤ (x9).toInt ∧ (x9).toInt < 16 then (if 0 ≤ (x9).toInt ∧ (x9).toInt < 16 then ((f_X0_add_86 n) (sJ h 7 3 (vp_updL (eJ h 7 3) ((x9).toNatClampNeg) (((eJ h 7 2) ((x9).toNatClampNeg)) * ((((100 - x8) - x7)).toInt64)))) x4 x5 x7 x8 (x9 + 1)) else none) else none)) := rfl
def f_X0_add_46 (h : HS) (x3 : Int32) (x4 : Int32) (y0 : Int32) : Option HS := (ob1 (f_X1_lookAtTraveller h x3) (fun h_6 => (ob2 (f_X1_rule h_6 0) (fun r_7 h_7 => (ob2 (f_X1_rule h_7 1) (fun r_8 h_8 => (f_X0_add_86 8589934592 h_8 x4 y0 (r_7 * r_8) ((10 - r_7) * 10) 0)))))))
def f_X0_add (h : HS) (p1 : Int32) : Option HS := (if ((eI h 7 0) + 1) ≤ 8 then (ob2 (f_X4_ofGoose (sI h 7 0 ((eI h 7 0) + 1)) p1 3) (fun r_2 h_2 => (ob1 (f_X8_halvesOf r_2) (fun r_3 => (ob2 (f_X1_isTrue h_2 p1) (fun r_4 h_4 => (if r_4 = 0 then (f_X0_add_46 h_4 p1 r_3 0) else (f_X0_add_46 h_4 p1 r_3 r_3)))))))) else (some (sI h 7 0 ((eI h 7 0) + 1))))
theorem e_X1_isTrue : yX1_isTrue.cls = RX1 ∧ yX1_isTrue.cls ≠ "java/lang/invoke/MethodHandle" ∧ yX1_isTrue.cls ≠ "java/lang/invoke/VarHandle" ∧ (parseMethodDescriptor yX1_isTrue.desc).map (fun d => d.parameters.length) = some 2 := by decide +kernel
theorem e_X1_lookAtTraveller : yX1_lookAtTraveller.cls = RX1 ∧ yX1_lookAtTraveller.cls ≠ "java/lang/invoke/MethodHandle" ∧ yX1_lookAtTraveller.cls ≠ "java/lang/invoke/VarHandle" ∧ (parseMethodDescriptor yX1_lookAtTraveller.desc).map (fun d => d.parameters.length) = some 2 := by decide +kernel
set_option maxHeartbeats 4000000 in
set_option maxRecDepth 100000 in
theorem c_X0_add (l : Launch) (G : va_G) (cI cJ cZ cB cT : ClassId) (q : Nat → Nat) (h : HS) (p1 : Int32) (hh : HS) (hF : f_X0_add h p1 = some hh) : gMv l yX0_add (gws yX0_add cX0_add 10 none) 5 G (gT cI cJ cZ cB cT) [.ref (q 20), .ref (q 1), .ref (q 16), .int p1] (wC q cI cJ cZ cB cT h) (fun (_ : Unit) => True) (fun (_ : Unit) => (wC q cI cJ cZ cB cT hh)) := by
  intro sz
  refine gM_start (y := yX0_add) (av := [.ref (q 20), .ref (q 1), .ref (q 16), .int p1]) (ws := (wC q cI cJ cZ cB cT h)) (Qf := fun A => va_Qv (fun (_ : Unit) => True) (gB G (fun (_ : Unit) => (wC q cI cJ cZ cB cT hh)) A) A) (cc := cX0_add) (maxL := 10) (ret := none) (by decide) (Nat.le_of_ble_eq_true rfl) ?_
  intro p e s m args below meth c A ls H hx hb hr hts hown hin hlocks hml hP hK hD hA hS hl hE
  have hl : lv_has ls 10 [(0, .ref (q 20)), (1, .ref (q 1)), (2, .ref (q 16)), (3, .int p1)] := hl
  have hJ_129 : ∀ (n_129 : Nat) (h : HS) (x4 : Int32) (x5 : Int32) (x7 : Int32) (x8 : Int32) (x9 : Int32), f_X0_add_129 n_129 h x4 x5 x7 x8 x9 = some hh → ∀ (H : Heap) (locs : List Loc) (ls : Array Slot), va_P G vwCl (wC q cI cJ cZ cB cT h) H → va_D A (wC q cI cJ cZ cB cT h) → va_S A s.heap H locs → lv_has ls 10 [(0, .ref (q 20)), (4, .int x4), (5, .int x5), (7, .int x7), (8, .int x8), (9, .int x9)] → W p l e (gRm 5) s m args below meth c H locs 0 0 (MQ below (va_Qv (fun (_ : Unit) => True) (gB G (fun (_ : Unit) => (wC q cI cJ cZ cB cT hh)) A) A) args s 0 0 A) (F0 m 129 ls []) := by
    intro n_129
    induction n_129 with
    | zero =>
      intro h x4 x5 x7 x8 x9 hF
      exact absurd hF (by simp [f_X0_add_129])
    | succ n_129 ih_129 =>
      intro h x4 x5 x7 x8 x9 hF H locs ls hP hD hS hl
      rw [f_X0_add_129_s] at hF
      refine lv_iload hx hb dX0_add_129 (lv_at hl 5 rfl) ?_
      refine lv_aload_n hx hb dX0_add_131 rfl (lv_at hl 0 rfl) ?_
      refine va_get (D := G) (ci := 0) (v := .ref (q 21)) (C := RX0) (T := TX0) (N := 4) hx hb hts iX0 hown hK hP 20 wC_at20 rfl 2 (by decide) (hts _ m_467) (fun _ h9 => h9) rfl dX0_add_132 ?_
      refine va_alen (D := G) hx hb hK hP 21 1 wC_at21 rfl (v := 16) rfl dX0_add_135 ?_
      refine lv_icmp_ge (tgt := 195) hx hb dX0_add_136 (by decide) (fun c_12 => ?_) (fun c_12 => ?_)
      · have hF := ob_pos c_12 hF
        refine lv_aload_n hx hb dX0_add_195 rfl (lv_at hl 0 rfl) ?_
        refine va_get (D := G) (ci := 0) (v := .ref (q 22)) (C := RX0) (T := TX0) (N := 4) hx hb hts iX0 hown hK hP 20 wC_at20 rfl 3 (by decide) (hts _ m_606) (fun _ h9 => h9) rfl dX0_add_196 ?_
        refine lv_iconst (v := 0) hx hb dX0_add_199 (by decide) ?_
        refine lv_aload_n hx hb dX0_add_200 rfl (lv_at hl 0 rfl) ?_
        refine va_get (D := G) (ci := 0) (v := .ref (q 21)) (C := RX0) (T := TX0) (N := 4) hx hb hts iX0 hown hK hP 20 wC_at20 rfl 2 (by decide) (hts _ m_467) (fun _ h9 => h9) rfl dX0_add_201 ?_
        refine lv_iconst (v := 0) hx hb dX0_add_204 (by decide) ?_
        refine lv_aload_n hx hb dX0_add_205 rfl (lv_at hl 0 rfl) ?_
        refine va_get (D := G) (ci := 0) (v := .ref (q 21)) (C := RX0) (T := TX0) (N := 4) hx hb hts iX0 hown hK hP 20 wC_at20 rfl 2 (by decide) (hts _ m_467) (fun _ h9 => h9) rfl dX0_add_206 ?_
        refine va_alen (D := G) hx hb hK hP 21 1 wC_at21 rfl (v := 16) rfl dX0_add_209 ?_
        refine va_copyl (D := G) hx hb (by rw [hml]; exact hl.1.symm) hown (hts _ m_607) (hts _ m_45) (hts _ m_46) (hts _ m_47) hK hP hD hS 22 21 1 1 wC_at22 wC_at21 rfl rfl rfl (by decide) (by decide) (by decide) (by decide) (by decide) (fun _ _ => rfl) (Nat.le_of_ble_eq_true rfl) (Nat.le_of_ble_eq_true rfl) dX0_add_210 (fun H locs hP hD hS => ?_)
        rw [wC_sA21] at hP hD
        have hP : va_P G vwCl (wC q cI cJ cZ cB cT (sJ h 7 2 (va_cpy (eJ h 7 3) (eJ h 7 2) 0 0 16))) H := hP
        have hD : va_D A (wC q cI cJ cZ cB cT (sJ h 7 2 (va_cpy (eJ h 7 3) (eJ h 7 2) 0 0 16))) := hD
        refine lv_aload_n hx hb dX0_add_213 rfl (lv_at hl 0 rfl) ?_
        refine lv_dup hx hb dX0_add_214 rfl ?_
        refine va_get (D := G) (ci := 0) (v := .long (eL h 7 1)) (C := RX0) (T := TX0) (N := 4) hx hb hts iX0 hown hK hP 20 wC_at20 rfl 1 (by decide) (hts _ m_466) (fun _ h9 => h9) rfl dX0_add_215 ?_
        refine lv_ldc2 (v := 100) hx hb hown (hts _ m_608) dX0_add_218 ?_
        refine lv_lmul hx hb dX0_add_221 ?_
        refine va_put (D := G) (ci := 0) (v := .long ((eL h 7 1) * 100)) (ty := .long) (C := RX0) (T := TX0) (N := 4) hx hb hts iX0 tyX0 tyX0_ok nmX0 hown hK hP hD hS 20 wC_at20 rfl 1 (by decide) (hts _ m_466) (fun _ h9 => h9) rfl (tyX0_ok 1 (by decide)) rfl rfl (Nat.le_of_ble_eq_true rfl) dX0_add_222 (fun H locs hP hD hS => ?_)
        rw [wC_sI20_1] at hP hD
        obtain rfl := ob_one hF
        exact gw_vret () hx hb hr hlocks hP hD hS trivial dX0_add_225
      · have hF := ob_neg c_12 hF
        refine lv_aload_n hx hb dX0_add_139 rfl (lv_at hl 0 rfl) ?_
        refine va_get (D := G) (ci := 0) (v := .ref (q 22)) (C := RX0) (T := TX0) (N := 4) hx hb hts iX0 hown hK hP 20 wC_at20 rfl 3 (by decide) (hts _ m_606) (fun _ h9 => h9) rfl dX0_add_140 ?_
        refine lv_iload hx hb dX0_add_143 (lv_at hl 5 rfl) ?_
        refine lv_iload hx hb dX0_add_145 (lv_at hl 2 rfl) ?_
        refine lv_iconst (v := 4) hx hb dX0_add_147 (by decide) ?_
        refine lv_imul hx hb dX0_add_148 ?_
        refine lv_ior hx hb dX0_add_149 ?_
        refine lv_dup2_11 hx hb dX0_add_150 rfl rfl ?_
        obtain ⟨hi_13, hF⟩ := ob_if hF
        refine va_lald (D := G) hx hb hK hP 22 1 wC_at22 rfl (vp_in_iff.mpr hi_13) dX0_add_151 ?_
        refine gw_topl (y := ((eJ h 7 3) (((x9 ||| (x5 * 4))).toNatClampNeg))) rfl ?_
        refine lv_aload_n hx hb dX0_add_152 rfl (lv_at hl 0 rfl) ?_
        refine va_get (D := G) (ci := 0) (v := .ref (q 21)) (C := RX0) (T := TX0) (N := 4) hx hb hts iX0 hown hK hP 20 wC_at20 rfl 2 (by decide) (hts _ m_467) (fun _ h9 => h9) rfl dX0_add_153 ?_
        refine lv_iload hx hb dX0_add_156 (lv_at hl 5 rfl) ?_
        obtain ⟨hi_14, hF⟩ := ob_if hF
        refine va_lald (D := G) hx hb hK hP 21 1 wC_at21 rfl (vp_in_iff.mpr hi_14) dX0_add_158 ?_
        refine gw_topl (y := ((eJ h 7 2) ((x9).toNatClampNeg))) rfl ?_
        refine lv_iload hx hb dX0_add_159 (lv_at hl 4 rfl) ?_
        refine lv_i2l (v := (x8).toInt64) hx hb dX0_add_161 rfl ?_
        refine lv_lmul hx hb dX0_add_162 ?_
        refine lv_ladd hx hb dX0_add_163 ?_
        obtain ⟨hi_15, hF⟩ := ob_if hF
        refine va_last (D := G) hx hb hK hP hD hS 22 1 wC_at22 rfl (vp_in_iff.mpr hi_15) dX0_add_164 (fun H locs hP hD hS => ?_)
        rw [wC_sA22] at hP hD
        have hP : va_P G vwCl (wC q cI cJ cZ cB cT (sJ h 7 3 (vp_updL (eJ h 7 3) (((x9 ||| (x5 * 4))).toNatClampNeg) (((eJ h 7 3) (((x9 ||| (x5 * 4))).toNatClampNeg)) + (((eJ h 7 2) ((x9).toNatClampNeg)) * ((x8).toInt64)))))) H := hP
        have hD : va_D A (wC q cI cJ cZ cB cT (sJ h 7 3 (vp_updL (eJ h 7 3) (((x9 ||| (x5 * 4))).toNatClampNeg) (((eJ h 7 3) (((x9 ||| (x5 * 4))).toNatClampNeg)) + (((eJ h 7 2) ((x9).toNatClampNeg)) * ((x8).toInt64)))))) := hD
        refine lv_aload_n hx hb dX0_add_165 rfl (lv_at hl 0 rfl) ?_
        refine va_get (D := G) (ci := 0) (v := .ref (q 22)) (C := RX0) (T := TX0) (N := 4) hx hb hts iX0 hown hK hP 20 wC_at20 rfl 3 (by decide) (hts _ m_606) (fun _ h9 => h9) rfl dX0_add_166 ?_
        refine lv_iload hx hb dX0_add_169 (lv_at hl 5 rfl) ?_
        refine lv_iload hx hb dX0_add_171 (lv_at hl 1 rfl) ?_
        refine lv_ior hx hb dX0_add_173 ?_
        refine lv_dup2_11 hx hb dX0_add_174 rfl rfl ?_
        obtain ⟨hi_16, hF⟩ := ob_if hF
        refine va_lald (D := G) hx hb hK hP 22 1 wC_at22 rfl (vp_in_iff.mpr hi_16) dX0_add_175 ?_
        refine gw_topl (y := ((vp_updL (eJ h 7 3) (((x9 ||| (x5 * 4))).toNatClampNeg) (((eJ h 7 3) (((x9 ||| (x5 * 4))).toNatClampNeg)) + (((eJ h 7 2) ((x9).toNatClampNeg)) * ((x8).toInt64)))) (((x9 ||| x4)).toNatClampNeg))) rfl ?_
        refine lv_aload_n hx hb dX0_add_176 rfl (lv_at hl 0 rfl) ?_
        refine va_get (D := G) (ci := 0) (v := .ref (q 21)) (C := RX0) (T := TX0) (N := 4) hx hb hts iX0 hown hK hP 20 wC_at20 rfl 2 (by decide) (hts _ m_467) (fun _ h9 => h9) rfl dX0_add_177 ?_
        refine lv_iload hx hb dX0_add_180 (lv_at hl 5 rfl) ?_
        obtain ⟨hi_17, hF⟩ := ob_if hF
        refine va_lald (D := G) hx hb hK hP 21 1 wC_at21 rfl (vp_in_iff.mpr hi_17) dX0_add_182 ?_
        refine gw_topl (y := ((eJ h 7 2) ((x9).toNatClampNeg))) rfl ?_
        refine lv_iload hx hb dX0_add_183 (lv_at hl 3 rfl) ?_
        refine lv_i2l (v := (x7).toInt64) hx hb dX0_add_185 rfl ?_
        refine lv_lmul hx hb dX0_add_186 ?_
        refine lv_ladd hx hb dX0_add_187 ?_
        obtain ⟨hi_18, hF⟩ := ob_if hF
        refine va_last (D := G) hx hb hK hP hD hS 22 1 wC_at22 rfl (vp_in_iff.mpr hi_18) dX0_add_188 (fun H locs hP hD hS => ?_)
        rw [wC_sA22] at hP hD
        have hP : va_P G vwCl (wC q cI cJ cZ cB cT (sJ (sJ h 7 3 (vp_updL (eJ h 7 3) (((x9 ||| (x5 * 4))).toNatClampNeg) (((eJ h 7 3) (((x9 ||| (x5 * 4))).toNatClampNeg)) + (((eJ h 7 2) ((x9).toNatClampNeg)) * ((x8).toInt64))))) 7 3 (vp_updL (vp_updL (eJ h 7 3) (((x9 ||| (x5 * 4))).toNatClampNeg) (((eJ h 7 3) (((x9 ||| (x5 * 4))).toNatClampNeg)) + (((eJ h 7 2) ((x9).toNatClampNeg)) * ((x8).toInt64)))) (((x9 ||| x4)).toNatClampNeg) (((vp_updL (eJ h 7 3) (((x9 ||| (x5 * 4))).toNatClampNeg) (((eJ h 7 3) (((x9 ||| (x5 * 4))).toNatClampNeg)) + (((eJ h 7 2) ((x9).toNatClampNeg)) * ((x8).toInt64)))) (((x9 ||| x4)).toNatClampNeg)) + (((eJ h 7 2) ((x9).toNatClampNeg)) * ((x7).toInt64)))))) H := hP
        have hD : va_D A (wC q cI cJ cZ cB cT (sJ (sJ h 7 3 (vp_updL (eJ h 7 3) (((x9 ||| (x5 * 4))).toNatClampNeg) (((eJ h 7 3) (((x9 ||| (x5 * 4))).toNatClampNeg)) + (((eJ h 7 2) ((x9).toNatClampNeg)) * ((x8).toInt64))))) 7 3 (vp_updL (vp_updL (eJ h 7 3) (((x9 ||| (x5 * 4))).toNatClampNeg) (((eJ h 7 3) (((x9 ||| (x5 * 4))).toNatClampNeg)) + (((eJ h 7 2) ((x9).toNatClampNeg)) * ((x8).toInt64)))) (((x9 ||| x4)).toNatClampNeg) (((vp_updL (eJ h 7 3) (((x9 ||| (x5 * 4))).toNatClampNeg) (((eJ h 7 3) (((x9 ||| (x5 * 4))).toNatClampNeg)) + (((eJ h 7 2) ((x9).toNatClampNeg)) * ((x8).toInt64)))) (((x9 ||| x4)).toNatClampNeg)) + (((eJ h 7 2) ((x9).toNatClampNeg)) * ((x7).toInt64)))))) := hD
        refine lv_iinc (v := (x9 + 1)) (lv' := [(9, .int (x9 + 1)), (0, .ref (q 20)), (4, .int x4), (5, .int x5), (7, .int x7), (8, .int x8)]) hx hb dX0_add_189 hl (k := 5) rfl rfl (by decide) rfl (fun ls hl => ?_)
        refine lv_goto (tgt := 129) hx hb dX0_add_192 (by decide) ?_
        exact ih_129 (sJ (sJ h 7 3 (vp_updL (eJ h 7 3) (((x9 ||| (x5 * 4))).toNatClampNeg) (((eJ h 7 3) (((x9 ||| (x5 * 4))).toNatClampNeg)) + (((eJ h 7 2) ((x9).toNatClampNeg)) * ((x8).toInt64))))) 7 3 (vp_updL (vp_updL (eJ h 7 3) (((x9 ||| (x5 * 4))).toNatClampNeg) (((eJ h 7 3) (((x9 ||| (x5 * 4))).toNatClampNeg)) + (((eJ h 7 2) ((x9).toNatClampNeg)) * ((x8).toInt64)))) (((x9 ||| x4)).toNatClampNeg) (((vp_updL (eJ h 7 3) (((x9 ||| (x5 * 4))).toNatClampNeg) (((eJ h 7 3) (((x9 ||| (x5 * 4))).toNatClampNeg)) + (((eJ h 7 2) ((x9).toNatClampNeg)) * ((x8).toInt64)))) (((x9 ||| x4)).toNatClampNeg)) + (((eJ h 7 2) ((x9).toNatClampNeg)) * ((x7).toInt64))))) x4 x5 x7 x8 (x9 + 1) hF H _ ls hP hD hS (lv_sub hl [1, 2, 3, 4, 5, 0] rfl)
  have hJ_86 : ∀ (n_86 : Nat) (h : HS) (x4 : Int32) (x5 : Int32) (x7 : Int32) (x8 : Int32) (x9 : Int32), f_X0_add_86 n_86 h x4 x5 x7 x8 x9 = some hh → ∀ (H : Heap) (locs : List Loc) (ls : Array Slot), va_P G vwCl (wC q cI cJ cZ cB cT h) H → va_D A (wC q cI cJ cZ cB cT h) → va_S A s.heap H locs → lv_has ls 10 [(0, .ref (q 20)), (4, .int x4), (5, .int x5), (7, .int x7), (8, .int x8), (9, .int x9)] → W p l e (gRm 5) s m args below meth c H locs 0 0 (MQ below (va_Qv (fun (_ : Unit) => True) (gB G (fun (_ : Unit) => (wC q cI cJ cZ cB cT hh)) A) A) args s 0 0 A) (F0 m 86 ls []) := by
    intro n_86
    induction n_86 with
    | zero =>
      intro h x4 x5 x7 x8 x9 hF
      exact absurd hF (by simp [f_X0_add_86])
    | succ n_86 ih_86 =>
      intro h x4 x5 x7 x8 x9 hF H locs ls hP hD hS hl
      rw [f_X0_add_86_s] at hF
      refine lv_iload hx hb dX0_add_86 (lv_at hl 5 rfl) ?_
      refine lv_aload_n hx hb dX0_add_88 rfl (lv_at hl 0 rfl) ?_
      refine va_get (D := G) (ci := 0) (v := .ref (q 22)) (C := RX0) (T := TX0) (N := 4) hx hb hts iX0 hown hK hP 20 wC_at20 rfl 3 (by decide) (hts _ m_606) (fun _ h9 => h9) rfl dX0_add_89 ?_
      refine va_alen (D := G) hx hb hK hP 22 1 wC_at22 rfl (v := 16) rfl dX0_add_92 ?_
      refine lv_icmp_ge (tgt := 126) hx hb dX0_add_93 (by decide) (fun c_9 => ?_) (fun c_9 => ?_)
      · have hF := ob_pos c_9 hF
        refine lv_iconst (v := 0) hx hb dX0_add_126 (by decide) ?_
        refine lv_istore (lv' := [(9, .int 0), (0, .ref (q 20)), (4, .int x4), (5, .int x5), (7, .int x7), (8, .int x8)]) hx hb dX0_add_127 hl (by decide) rfl (fun ls hl => ?_)
        exact hJ_129 8589934592 h x4 x5 x7 x8 0 hF H _ ls hP hD hS (lv_sub hl [1, 2, 3, 4, 5, 0] rfl)
      · have hF := ob_neg c_9 hF
        refine lv_aload_n hx hb dX0_add_96 rfl (lv_at hl 0 rfl) ?_
        refine va_get (D := G) (ci := 0) (v := .ref (q 22)) (C := RX0) (T := TX0) (N := 4) hx hb hts iX0 hown hK hP 20 wC_at20 rfl 3 (by decide) (hts _ m_606) (fun _ h9 => h9) rfl dX0_add_97 ?_
        refine lv_iload hx hb dX0_add_100 (lv_at hl 5 rfl) ?_
        refine lv_aload_n hx hb dX0_add_102 rfl (lv_at hl 0 rfl) ?_
        refine va_get (D := G) (ci := 0) (v := .ref (q 21)) (C := RX0) (T := TX0) (N := 4) hx hb hts iX0 hown hK hP 20 wC_at20 rfl 2 (by decide) (hts _ m_467) (fun _ h9 => h9) rfl dX0_add_103 ?_
        refine lv_iload hx hb dX0_add_106 (lv_at hl 5 rfl) ?_
        obtain ⟨hi_10, hF⟩ := ob_if hF
        refine va_lald (D := G) hx hb hK hP 21 1 wC_at21 rfl (vp_in_iff.mpr hi_10) dX0_add_108 ?_
        refine gw_topl (y := ((eJ h 7 2) ((x9).toNatClampNeg))) rfl ?_
        refine lv_bipush (v := 100) hx hb dX0_add_109 (by decide) ?_
        refine lv_iload hx hb dX0_add_111 (lv_at hl 4 rfl) ?_
        refine lv_isub hx hb dX0_add_113 ?_
        refine lv_iload hx hb dX0_add_114 (lv_at hl 3 rfl) ?_
        refine lv_isub hx hb dX0_add_116 ?_
        refine lv_i2l (v := (((100 - x8) - x7)).toInt64) hx hb dX0_add_117 rfl ?_
        refine lv_lmul hx hb dX0_add_118 ?_
        obtain ⟨hi_11, hF⟩ := ob_if hF
        refine va_last (D := G) hx hb hK hP hD hS 22 1 wC_at22 rfl (vp_in_iff.mpr hi_11) dX0_add_119 (fun H locs hP hD hS => ?_)
        rw [wC_sA22] at hP hD
        have hP : va_P G vwCl (wC q cI cJ cZ cB cT (sJ h 7 3 (vp_updL (eJ h 7 3) ((x9).toNatClampNeg) (((eJ h 7 2) ((x9).toNatClampNeg)) * ((((100 - x8) - x7)).toInt64))))) H := hP
        have hD : va_D A (wC q cI cJ cZ cB cT (sJ h 7 3 (vp_updL (eJ h 7 3) ((x9).toNatClampNeg) (((eJ h 7 2) ((x9).toNatClampNeg)) * ((((100 - x8) - x7)).toInt64))))) := hD
        refine lv_iinc (v := (x9 + 1)) (lv' := [(9, .int (x9 + 1)), (0, .ref (q 20)), (4, .int x4), (5, .int x5), (7, .int x7), (8, .int x8)]) hx hb dX0_add_120 hl (k := 5) rfl rfl (by decide) rfl (fun ls hl => ?_)
        refine lv_goto (tgt := 86) hx hb dX0_add_123 (by decide) ?_
        exact ih_86 (sJ h 7 3 (vp_updL (eJ h 7 3) ((x9).toNatClampNeg) (((eJ h 7 2) ((x9).toNatClampNeg)) * ((((100 - x8) - x7)).toInt64)))) x4 x5 x7 x8 (x9 + 1) hF H _ ls hP hD hS (lv_sub hl [1, 2, 3, 4, 5, 0] rfl)
  have hJ_46 : ∀ (h : HS) (x3 : Int32) (x4 : Int32) (y0 : Int32), f_X0_add_46 h x3 x4 y0 = some hh → ∀ (H : Heap) (locs : List Loc) (ls : Array Slot), va_P G vwCl (wC q cI cJ cZ cB cT h) H → va_D A (wC q cI cJ cZ cB cT h) → va_S A s.heap H locs → lv_has ls 10 [(0, .ref (q 20)), (1, .ref (q 1)), (2, .ref (q 16)), (3, .int x3), (4, .int x4)] → W p l e (gRm 5) s m args below meth c H locs 0 0 (MQ below (va_Qv (fun (_ : Unit) => True) (gB G (fun (_ : Unit) => (wC q cI cJ cZ cB cT hh)) A) A) args s 0 0 A) (F0 m 46 ls [.int y0]) := by
    intro h x3 x4 y0 hF H locs ls hP hD hS hl
    unfold f_X0_add_46 at hF
    refine lv_istore (lv' := [(5, .int y0), (0, .ref (q 20)), (1, .ref (q 1)), (2, .ref (q 16)), (3, .int x3), (4, .int x4)]) hx hb dX0_add_46 hl (by decide) rfl (fun ls hl => ?_)
    refine lv_aload_n hx hb dX0_add_48 rfl (lv_at hl 3 rfl) ?_
    refine lv_aload_n hx hb dX0_add_49 rfl (lv_at hl 2 rfl) ?_
    refine lv_iload_n hx hb dX0_add_50 rfl (lv_at hl 4 rfl) ?_
    obtain ⟨h_6, e_6, hF⟩ := ob1_some hF
    refine gx_callv (gx_runV (As := [.ref (q 1), .int x3]) (rest := []) ⟨hx, hb, hml, hown, hts⟩ (c_X1_lookAtTraveller l G cI cJ cZ cB cT q h x3 h_6 e_6 H.size) (gG_V m_602 m_603 m_604 m_436 m_601) rfl e_X1_lookAtTraveller ⟨Nat.le_of_ble_eq_true rfl, Nat.le_of_ble_eq_true rfl⟩ hK hP hD hE hS hA 16 wC_at16 rfl rfl hl.1 rfl (Nat.le_of_ble_eq_true rfl) dX0_add_51 ⟨Nat.le_refl _, Nat.le_refl _⟩) hP hD hS hA (fun u_6 H locs hw_6 hP hD hS => ?_)
    refine lv_aload_n hx hb dX0_add_54 rfl (lv_at hl 3 rfl) ?_
    refine lv_aload_n hx hb dX0_add_55 rfl (lv_at hl 2 rfl) ?_
    refine lv_iconst (v := 0) hx hb dX0_add_56 (by decide) ?_
    obtain ⟨r_7, h_7, e_7, hF⟩ := ob2_some hF
    refine gx_calli (gx_runV (As := [.ref (q 1), .int 0]) (rest := []) ⟨hx, hb, hml, hown, hts⟩ (c_X1_rule l G cI cJ cZ cB cT q h_6 0 r_7 h_7 e_7 H.size) (gG_V m_605 m_592 m_593 m_436 m_590) rfl e_X1_rule ⟨Nat.le_of_ble_eq_true rfl, Nat.le_of_ble_eq_true rfl⟩ hK hP hD hE hS hA 16 wC_at16 rfl rfl hl.1 rfl (Nat.le_of_ble_eq_true rfl) dX0_add_57 ⟨Nat.le_refl _, Nat.le_refl _⟩) hP hD hS hA (fun x_7 u_7 H locs hw_7 hP hD hS => ?_)
    subst x_7
    refine lv_istore (lv' := [(6, .int r_7), (5, .int y0), (0, .ref (q 20)), (1, .ref (q 1)), (2, .ref (q 16)), (3, .int x3), (4, .int x4)]) hx hb dX0_add_60 hl (by decide) rfl (fun ls hl => ?_)
    refine lv_iload hx hb dX0_add_62 (lv_at hl 0 rfl) ?_
    refine lv_aload_n hx hb dX0_add_64 rfl (lv_at hl 4 rfl) ?_
    refine lv_aload_n hx hb dX0_add_65 rfl (lv_at hl 3 rfl) ?_
    refine lv_iconst (v := 1) hx hb dX0_add_66 (by decide) ?_
    obtain ⟨r_8, h_8, e_8, hF⟩ := ob2_some hF
    refine gx_calli (gx_runV (As := [.ref (q 1), .int 1]) (rest := [.int r_7]) ⟨hx, hb, hml, hown, hts⟩ (c_X1_rule l G cI cJ cZ cB cT q h_7 1 r_8 h_8 e_8 H.size) (gG_V m_605 m_592 m_593 m_436 m_590) rfl e_X1_rule ⟨Nat.le_of_ble_eq_true rfl, Nat.le_of_ble_eq_true rfl⟩ hK hP hD hE hS hA 16 wC_at16 rfl rfl hl.1 rfl (Nat.le_of_ble_eq_true rfl) dX0_add_67 ⟨Nat.le_refl _, Nat.le_refl _⟩) hP hD hS hA (fun x_8 u_8 H locs hw_8 hP hD hS => ?_)
    subst x_8
    refine lv_imul hx hb dX0_add_70 ?_
    refine lv_istore (lv' := [(7, .int (r_7 * r_8)), (6, .int r_7), (5, .int y0), (0, .ref (q 20)), (1, .ref (q 1)), (2, .ref (q 16)), (3, .int x3), (4, .int x4)]) hx hb dX0_add_71 hl (by decide) rfl (fun ls hl => ?_)
    refine lv_bipush (v := 10) hx hb dX0_add_73 (by decide) ?_
    refine lv_iload hx hb dX0_add_75 (lv_at hl 1 rfl) ?_
    refine lv_isub hx hb dX0_add_77 ?_
    refine lv_bipush (v := 10) hx hb dX0_add_78 (by decide) ?_
    refine lv_imul hx hb dX0_add_80 ?_
    refine lv_istore (lv' := [(8, .int ((10 - r_7) * 10)), (7, .int (r_7 * r_8)), (6, .int r_7), (5, .int y0), (0, .ref (q 20)), (1, .ref (q 1)), (2, .ref (q 16)), (3, .int x3), (4, .int x4)]) hx hb dX0_add_81 hl (by decide) rfl (fun ls hl => ?_)
    refine lv_iconst (v := 0) hx hb dX0_add_83 (by decide) ?_
    refine lv_istore (lv' := [(9, .int 0), (8, .int ((10 - r_7) * 10)), (7, .int (r_7 * r_8)), (6, .int r_7), (5, .int y0), (0, .ref (q 20)), (1, .ref (q 1)), (2, .ref (q 16)), (3, .int x3), (4, .int x4)]) hx hb dX0_add_84 hl (by decide) rfl (fun ls hl => ?_)
    exact hJ_86 8589934592 h_8 x4 y0 (r_7 * r_8) ((10 - r_7) * 10) 0 hF H _ ls hP hD hS (lv_sub hl [5, 9, 4, 2, 1, 0] rfl)
  unfold f_X0_add at hF
  refine lv_aload_n hx hb dX0_add_0 rfl (lv_at hl 0 rfl) ?_
  refine lv_dup hx hb dX0_add_1 rfl ?_
  refine va_get (D := G) (ci := 0) (v := .int (eI h 7 0)) (C := RX0) (T := TX0) (N := 4) hx hb hts iX0 hown hK hP 20 wC_at20 rfl 0 (by decide) (hts _ m_465) (fun _ h9 => h9) rfl dX0_add_2 ?_
  refine lv_iconst (v := 1) hx hb dX0_add_5 (by decide) ?_
  refine lv_iadd hx hb dX0_add_6 ?_
  refine va_put (D := G) (ci := 0) (v := .int ((eI h 7 0) + 1)) (ty := .int) (C := RX0) (T := TX0) (N := 4) hx hb hts iX0 tyX0 tyX0_ok nmX0 hown hK hP hD hS 20 wC_at20 rfl 0 (by decide) (hts _ m_465) (fun _ h9 => h9) rfl (tyX0_ok 0 (by decide)) rfl rfl (Nat.le_of_ble_eq_true rfl) dX0_add_7 (fun H locs hP hD hS => ?_)
  rw [wC_sI20_0] at hP hD
  refine lv_aload_n hx hb dX0_add_10 rfl (lv_at hl 0 rfl) ?_
  refine va_get (D := G) (ci := 0) (v := .int ((eI h 7 0) + 1)) (C := RX0) (T := TX0) (N := 4) hx hb hts iX0 hown hK hP 20 wC_at20 rfl 0 (by decide) (hts _ m_465) (fun _ h9 => h9) rfl dX0_add_11 ?_
  refine lv_bipush (v := 8) hx hb dX0_add_14 (by decide) ?_
  refine lv_icmp_le (tgt := 20) hx hb dX0_add_16 (by decide) (fun c_1 => ?_) (fun c_1 => ?_)
  · have hF := ob_pos c_1 hF
    refine lv_aload_n hx hb dX0_add_20 rfl (lv_at hl 1 rfl) ?_
    refine lv_iload_n hx hb dX0_add_21 rfl (lv_at hl 3 rfl) ?_
    refine lv_iconst (v := 3) hx hb dX0_add_22 (by decide) ?_
    obtain ⟨r_2, h_2, e_2, hF⟩ := ob2_some hF
    refine gx_calli (gx_runV (As := [.int p1, .int 3]) (rest := []) ⟨hx, hb, hml, hown, hts⟩ (c_X4_ofGoose l G cI cJ cZ cB cT q (sI h 7 0 ((eI h 7 0) + 1)) p1 3 r_2 h_2 e_2 H.size) (gG_V m_594 m_15 m_16 m_7 m_13) rfl e_X4_ofGoose ⟨Nat.le_of_ble_eq_true rfl, Nat.le_of_ble_eq_true rfl⟩ hK hP hD hE hS hA 1 wC_at1 rfl rfl hl.1 rfl (Nat.le_of_ble_eq_true rfl) dX0_add_23 ⟨Nat.le_refl _, Nat.le_refl _⟩) hP hD hS hA (fun x_2 u_2 H locs hw_2 hP hD hS => ?_)
    subst x_2
    obtain ⟨r_3, e_3, hF⟩ := ob1_some hF
    refine gx_calli0 (gx_runSN0 (host := "GooseLetters") (As := [.int r_2]) (rest := []) ⟨hx, hb, hml, hown, hts⟩ (c_X8_halvesOf l G cI cJ cZ cB cT   r_2 r_3 e_3 H.size) (gG_I m_595) rfl hE.1 (hts _ m_60) (hts _ m_596) ei_X8_halvesOf ⟨Nat.le_of_ble_eq_true rfl, Nat.le_of_ble_eq_true rfl⟩ hK hE hS hA rfl hl.1 rfl (Nat.le_of_ble_eq_true rfl) dX0_add_26 ⟨Nat.le_refl _, Nat.le_refl _⟩) hP hD hS hA (fun x_3 u_3 H locs hw_3 hP hD hS => ?_)
    subst x_3
    refine lv_istore (lv' := [(4, .int r_3), (0, .ref (q 20)), (1, .ref (q 1)), (2, .ref (q 16)), (3, .int p1)]) hx hb dX0_add_29 hl (by decide) rfl (fun ls hl => ?_)
    refine lv_aload_n hx hb dX0_add_31 rfl (lv_at hl 3 rfl) ?_
    refine lv_aload_n hx hb dX0_add_32 rfl (lv_at hl 2 rfl) ?_
    refine lv_iload_n hx hb dX0_add_33 rfl (lv_at hl 4 rfl) ?_
    obtain ⟨r_4, h_4, e_4, hF⟩ := ob2_some hF
    refine gx_calli (gx_runV (As := [.ref (q 1), .int p1]) (rest := []) ⟨hx, hb, hml, hown, hts⟩ (c_X1_isTrue l G cI cJ cZ cB cT q h_2 p1 r_4 h_4 e_4 H.size) (gG_V m_598 m_599 m_600 m_436 m_597) rfl e_X1_isTrue ⟨Nat.le_of_ble_eq_true rfl, Nat.le_of_ble_eq_true rfl⟩ hK hP hD hE hS hA 16 wC_at16 rfl rfl hl.1 rfl (Nat.le_of_ble_eq_true rfl) dX0_add_34 ⟨Nat.le_refl _, Nat.le_refl _⟩) hP hD hS hA (fun x_4 u_4 H locs hw_4 hP hD hS => ?_)
    subst x_4
    refine lv_if_eq (tgt := 45) hx hb dX0_add_37 (by decide) (fun c_5 => ?_) (fun c_5 => ?_)
    · have hF := ob_pos c_5 hF
      refine lv_iconst (v := 0) hx hb dX0_add_45 (by decide) ?_
      exact hJ_46 h_4 p1 r_3 0 hF H _ ls hP hD hS (lv_sub hl [1, 2, 3, 4, 0] rfl)
    · have hF := ob_neg c_5 hF
      refine lv_iload hx hb dX0_add_40 (lv_at hl 0 rfl) ?_
      refine lv_goto (tgt := 46) hx hb dX0_add_42 (by decide) ?_
      exact hJ_46 h_4 p1 r_3 r_3 hF H _ ls hP hD hS (lv_sub hl [1, 2, 3, 4, 0] rfl)
  · have hF := ob_neg c_1 hF
    obtain rfl := ob_one hF
    exact gw_vret () hx hb hr hlocks hP hD hS trivial dX0_add_19
def f_X3_tryMarkets_13 (kR_X3_tryMarkets : HS → Int32 → Option HS) (h : HS) : Option HS := (ob1 (f_X3_compare h) (fun h_3 => (some h_3)))
def f_X3_tryMarkets_20 (kR_X3_tryMarkets : HS → Int32 → Option HS) : Nat → HS → Int32 → Int32 → Option HS
  | 0, _, _, _ => none
  | n + 1, h, x1, x2 => (if (eI h 8 11) ≤ x2 then (some h) else (if 0 ≤ (x1).toInt ∧ (x1).toInt < 3 then (ob1 (kR_X3_tryMarkets (sA h 8 5 (upd (eA h 8 5) ((x1).toNatClampNeg) x2)) (x1 + 1)) (fun h_6 => ((f_X3_tryMarkets_20 kR_X3_tryMarkets n) h_6 x1 (x2 + 1)))) else none))
theorem f_X3_tryMarkets_20_s (kR_X3_tryMarkets : HS → Int32 → Option HS) (n : Nat) (h : HS) (x1 : Int32) (x2 : Int32) : f_X3_tryMarkets_20 kR_X3_tryMarkets (n + 1) h x1 x2 = (if (eI h 8 11) ≤ x2 then (some h) else (if 0 ≤ (x1).toInt ∧ (x1).toInt < 3 then (ob1 (kR_X3_tryMarkets (sA h 8 5 (upd (eA h 8 5) ((x1).toNatClampNeg) x2)) (x1 + 1)) (fun h_6 => ((f_X3_tryMarkets_20 kR_X3_tryMarkets n) h_6 x1 (x2 + 1)))) else none)) := rfl
def f_X3_tryMarkets_b (kR_X3_tryMarkets : HS → Int32 → Option HS) (h : HS) (p1 : Int32) : Option HS := (if (eI h 8 8) ≤ p1 then (f_X3_tryMarkets_13 kR_X3_tryMarkets h) else (if p1 < 3 then (f_X3_tryMarkets_20 kR_X3_tryMarkets 8589934592 h p1 0) else (f_X3_tryMarkets_13 kR_X3_tryMarkets h)))
theorem e_X3_compare : yX3_compare.cls = RX3 ∧ yX3_compare.cls ≠ "java/lang/invoke/MethodHandle" ∧ yX3_compare.cls ≠ "java/lang/invoke/VarHandle" ∧ (parseMethodDescriptor yX3_compare.desc).map (fun d => d.parameters.length) = some 0 := by decide +kernel
theorem e_X3_tryMarkets : yX3_tryMarkets.cls = RX3 ∧ yX3_tryMarkets.cls ≠ "java/lang/invoke/MethodHandle" ∧ yX3_tryMarkets.cls ≠ "java/lang/invoke/VarHandle" ∧ (parseMethodDescriptor yX3_tryMarkets.desc).map (fun d => d.parameters.length) = some 1 := by decide +kernel
def G_tryMarkets : Nat → Nat → HS → Int32 → Option HS
  | 0, _, _, _ => none
  | n_R + 1, _, h, p1 => f_X3_tryMarkets_b (fun h p1 => G_tryMarkets n_R 0 h p1) h p1
set_option maxHeartbeats 8000000 in
set_option maxRecDepth 100000 in
theorem c_G_tryMarkets (l : Launch) (G : va_G) (cI cJ cZ cB cT : ClassId) (q : Nat → Nat) : ∀ n_R : Nat, (∀ (h : HS) (p1 : Int32) (hh : HS), G_tryMarkets n_R 0 h p1 = some hh → gMv l yX3_tryMarkets (gws yX3_tryMarkets cX3_tryMarkets 3 none) (3 + n_R) G (gT cI cJ cZ cB cT) [.ref (q 23), .int p1] (wC q cI cJ cZ cB cT h) (fun (_ : Unit) => True) (fun (_ : Unit) => (wC q cI cJ cZ cB cT hh))) := by
  intro n_R
  induction n_R with
  | zero =>
    exact fun h p1 hh hF => absurd hF (by simp [G_tryMarkets])
  | succ n_R ih =>
    have ihR_X3_tryMarkets := ih
    refine ?_
    · intro h p1 hh hF
      have hF : f_X3_tryMarkets_b (fun h p1 => G_tryMarkets n_R 0 h p1) h p1 = some hh := hF
      intro sz
      refine gM_start (y := yX3_tryMarkets) (av := [.ref (q 23), .int p1]) (ws := (wC q cI cJ cZ cB cT h)) (Qf := fun A => va_Qv (fun (_ : Unit) => True) (gB G (fun (_ : Unit) => (wC q cI cJ cZ cB cT hh)) A) A) (cc := cX3_tryMarkets) (maxL := 3) (ret := none) (by decide) (Nat.le_of_ble_eq_true rfl) ?_
      intro p e s m args below meth c A ls H hx hb hr hts hown hin hlocks hml hP hK hD hA hS hl hE
      have hl : lv_has ls 3 [(0, .ref (q 23)), (1, .int p1)] := hl
      have hJ_13 : ∀ (h : HS), f_X3_tryMarkets_13 (fun h p1 => G_tryMarkets n_R 0 h p1) h = some hh → ∀ (H : Heap) (locs : List Loc) (ls : Array Slot), va_P G vwCl (wC q cI cJ cZ cB cT h) H → va_D A (wC q cI cJ cZ cB cT h) → va_S A s.heap H locs → lv_has ls 3 [(0, .ref (q 23))] → W p l e (gRm (3 + (n_R + 1))) s m args below meth c H locs 0 0 (MQ below (va_Qv (fun (_ : Unit) => True) (gB G (fun (_ : Unit) => (wC q cI cJ cZ cB cT hh)) A) A) args s 0 0 A) (F0 m 13 ls []) := by
        intro h hF H locs ls hP hD hS hl
        unfold f_X3_tryMarkets_13 at hF
        refine lv_aload_n hx hb dX3_tryMarkets_13 rfl (lv_at hl 0 rfl) ?_
        obtain ⟨h_3, e_3, hF⟩ := ob1_some hF
        refine gx_callv (gx_runV (As := []) (rest := []) ⟨hx, hb, hml, hown, hts⟩ (c_X3_compare l G cI cJ cZ cB cT q h  h_3 e_3 H.size) (gG_V m_610 m_611 m_612 m_486 m_609) rfl e_X3_compare ⟨by show _ ≤ (3 + (n_R + 1)); omega, by show _ ≤ 100 * (3 + (n_R + 1)); omega⟩ hK hP hD hE hS hA 23 wC_at23 rfl rfl hl.1 rfl (Nat.le_of_ble_eq_true rfl) dX3_tryMarkets_14 ⟨Nat.le_refl _, Nat.le_refl _⟩) hP hD hS hA (fun u_3 H locs hw_3 hP hD hS => ?_)
        obtain rfl := ob_one hF
        exact gw_vret () hx hb hr hlocks hP hD hS trivial dX3_tryMarkets_17
      have hJ_20 : ∀ (n_20 : Nat) (h : HS) (x1 : Int32) (x2 : Int32), f_X3_tryMarkets_20 (fun h p1 => G_tryMarkets n_R 0 h p1) n_20 h x1 x2 = some hh → ∀ (H : Heap) (locs : List Loc) (ls : Array Slot), va_P G vwCl (wC q cI cJ cZ cB cT h) H → va_D A (wC q cI cJ cZ cB cT h) → va_S A s.heap H locs → lv_has ls 3 [(0, .ref (q 23)), (1, .int x1), (2, .int x2)] → W p l e (gRm (3 + (n_R + 1))) s m args below meth c H locs 0 0 (MQ below (va_Qv (fun (_ : Unit) => True) (gB G (fun (_ : Unit) => (wC q cI cJ cZ cB cT hh)) A) A) args s 0 0 A) (F0 m 20 ls []) := by
        intro n_20
        induction n_20 with
        | zero =>
          intro h x1 x2 hF
          exact absurd hF (by simp [f_X3_tryMarkets_20])
        | succ n_20 ih_20 =>
          intro h x1 x2 hF H locs ls hP hD hS hl
          rw [f_X3_tryMarkets_20_s] at hF
          refine lv_iload_n hx hb dX3_tryMarkets_20 rfl (lv_at hl 2 rfl) ?_
          refine lv_aload_n hx hb dX3_tryMarkets_21 rfl (lv_at hl 0 rfl) ?_
          refine va_get (D := G) (ci := 3) (v := .int (eI h 8 11)) (C := RX3) (T := TX3) (N := 16) hx hb hts iX3 hown hK hP 23 wC_at23 rfl 11 (by decide) (hts _ m_613) (fun _ h9 => h9) rfl dX3_tryMarkets_22 ?_
          refine lv_icmp_ge (tgt := 48) hx hb dX3_tryMarkets_25 (by decide) (fun c_4 => ?_) (fun c_4 => ?_)
          · have hF := ob_pos c_4 hF
            obtain rfl := ob_one hF
            exact gw_vret () hx hb hr hlocks hP hD hS trivial dX3_tryMarkets_48
          · have hF := ob_neg c_4 hF
            refine lv_aload_n hx hb dX3_tryMarkets_28 rfl (lv_at hl 0 rfl) ?_
            refine va_get (D := G) (ci := 3) (v := .ref (q 29)) (C := RX3) (T := TX3) (N := 16) hx hb hts iX3 hown hK hP 23 wC_at23 rfl 5 (by decide) (hts _ m_479) (fun _ h9 => h9) rfl dX3_tryMarkets_29 ?_
            refine lv_iload_n hx hb dX3_tryMarkets_32 rfl (lv_at hl 1 rfl) ?_
            refine lv_iload_n hx hb dX3_tryMarkets_33 rfl (lv_at hl 2 rfl) ?_
            obtain ⟨hi_5, hF⟩ := ob_if hF
            refine va_iast (D := G) hx hb hK hP hD hS 29 0 wC_at29 rfl (vp_in_iff.mpr hi_5) dX3_tryMarkets_34 (fun H locs hP hD hS => ?_)
            rw [wC_sA29] at hP hD
            have hP : va_P G vwCl (wC q cI cJ cZ cB cT (sA h 8 5 (upd (eA h 8 5) ((x1).toNatClampNeg) x2))) H := hP
            have hD : va_D A (wC q cI cJ cZ cB cT (sA h 8 5 (upd (eA h 8 5) ((x1).toNatClampNeg) x2))) := hD
            refine lv_aload_n hx hb dX3_tryMarkets_35 rfl (lv_at hl 0 rfl) ?_
            refine lv_iload_n hx hb dX3_tryMarkets_36 rfl (lv_at hl 1 rfl) ?_
            refine lv_iconst (v := 1) hx hb dX3_tryMarkets_37 (by decide) ?_
            refine lv_iadd hx hb dX3_tryMarkets_38 ?_
            obtain ⟨h_6, e_6, hF⟩ := ob1_some hF
            refine gx_callv (gx_runV (As := [.int (x1 + 1)]) (rest := []) ⟨hx, hb, hml, hown, hts⟩ (ihR_X3_tryMarkets (sA h 8 5 (upd (eA h 8 5) ((x1).toNatClampNeg) x2)) (x1 + 1) h_6 e_6 H.size) (gG_V m_614 m_615 m_616 m_486 m_617) rfl e_X3_tryMarkets ⟨by show _ ≤ (3 + (n_R + 1)); omega, by show _ ≤ 100 * (3 + (n_R + 1)); omega⟩ hK hP hD hE hS hA 23 wC_at23 rfl rfl hl.1 rfl (Nat.le_of_ble_eq_true rfl) dX3_tryMarkets_39 ⟨Nat.le_refl _, Nat.le_refl _⟩) hP hD hS hA (fun u_6 H locs hw_6 hP hD hS => ?_)
            refine lv_iinc (v := (x2 + 1)) (lv' := [(2, .int (x2 + 1)), (0, .ref (q 23)), (1, .int x1)]) hx hb dX3_tryMarkets_42 hl (k := 2) rfl rfl (by decide) rfl (fun ls hl => ?_)
            refine lv_goto (tgt := 20) hx hb dX3_tryMarkets_45 (by decide) ?_
            exact ih_20 h_6 x1 (x2 + 1) hF H _ ls hP hD hS (lv_sub hl [1, 2, 0] rfl)
      unfold f_X3_tryMarkets_b at hF
      refine lv_iload_n hx hb dX3_tryMarkets_0 rfl (lv_at hl 1 rfl) ?_
      refine lv_aload_n hx hb dX3_tryMarkets_1 rfl (lv_at hl 0 rfl) ?_
      refine va_get (D := G) (ci := 3) (v := .int (eI h 8 8)) (C := RX3) (T := TX3) (N := 16) hx hb hts iX3 hown hK hP 23 wC_at23 rfl 8 (by decide) (hts _ m_475) (fun _ h9 => h9) rfl dX3_tryMarkets_2 ?_
      refine lv_icmp_ge (tgt := 13) hx hb dX3_tryMarkets_5 (by decide) (fun c_1 => ?_) (fun c_1 => ?_)
      · have hF := ob_pos c_1 hF
        exact hJ_13 h hF H _ ls hP hD hS (lv_sub hl [0] rfl)
      · have hF := ob_neg c_1 hF
        refine lv_iload_n hx hb dX3_tryMarkets_8 rfl (lv_at hl 1 rfl) ?_
        refine lv_iconst (v := 3) hx hb dX3_tryMarkets_9 (by decide) ?_
        refine lv_icmp_lt (tgt := 18) hx hb dX3_tryMarkets_10 (by decide) (fun c_2 => ?_) (fun c_2 => ?_)
        · have hF := ob_pos c_2 hF
          refine lv_iconst (v := 0) hx hb dX3_tryMarkets_18 (by decide) ?_
          refine lv_istore_n (lv' := [(2, .int 0), (0, .ref (q 23)), (1, .int p1)]) hx hb dX3_tryMarkets_19 rfl hl (by decide) rfl (fun ls hl => ?_)
          exact hJ_20 8589934592 h p1 0 hF H _ ls hP hD hS (lv_sub hl [1, 2, 0] rfl)
        · have hF := ob_neg c_2 hF
          exact hJ_13 h hF H _ ls hP hD hS (lv_sub hl [0] rfl)
def f_X3_tryPatterns_152 (h : HS) : Option HS := (some h)
def f_X3_tryPatterns_146 (k38 : HS → Int32 → Int32 → Option HS) (h : HS) (x1 : Int32) (x2 : Int32) : Option HS := (k38 h x1 (x2 + 1))
def f_X3_tryPatterns_141 (k38 : HS → Int32 → Int32 → Option HS) (h : HS) (x1 : Int32) (x2 : Int32) : Option HS := (ob1 (G_tryMarkets 6 0 h 0) (fun h_17 => (f_X3_tryPatterns_146 k38 h_17 x1 x2)))
def f_X3_tryPatterns_69 (k38 : HS → Int32 → Int32 → Option HS) : Nat → HS → Int32 → Int32 → Int32 → Int32 → Option HS
  | 0, _, _, _, _, _ => none
  | n + 1, h, x1, x2, x3, x4 => (if x4 < 0 then (ob2 (f_X3_missOf_f h) (fun r_8 h_8 => (ob2 (f_X3_isEnough h_8 r_8) (fun r_9 h_9 => (if r_9 = 0 then (f_X3_tryPatterns_146 k38 h_9 x1 x2) else (if (eI h_9 8 13) = 0 then (ob2 (f_X3_missOf_r h_9) (fun r_12 h_12 => (ob2 (f_X3_isBetter h_12 r_12) (fun r_13 h_13 => (if r_13 = 0 then (f_X3_tryPatterns_146 k38 h_13 x1 x2) else (f_X3_tryPatterns_141 k38 h_13 x1 x2)))))) else (f_X3_tryPatterns_141 k38 h_9 x1 x2))))))) else (if 0 ≤ (x4).toInt ∧ (x4).toInt < 3 then (if 0 ≤ (x4).toInt ∧ (x4).toInt < 3 then ((f_X3_tryPatterns_69 k38 n) (sA (sA h 8 4 (upd (eA h 8 4) ((x4).toNatClampNeg) (x3 - x3 / 10 * 10))) 8 5 (upd (eA h 8 5) ((x4).toNatClampNeg) 4)) x1 x2 (x3 / 10) (x4 + (-1))) else none) else none))
theorem f_X3_tryPatterns_69_s (k38 : HS → Int32 → Int32 → Option HS) (n : Nat) (h : HS) (x1 : Int32) (x2 : Int32) (x3 : Int32) (x4 : Int32) : f_X3_tryPatterns_69 k38 (n + 1) h x1 x2 x3 x4 = (if x4 < 0 then (ob2 (f_X3_missOf_f h) (fun r_8 h_8 => (ob2 (f_X3_isEnough h_8 r_8) (fun r_9 h_9 => (if r_9 = 0 then (f_X3_tryPatterns_146 k38 h_9 x1 x2) else (if (eI h_9 8 13) = 0 then (ob2 (f_X3_missOf_r h_9) (fun r_12 h_12 => (ob2 (f_X3_isBetter h_12 r_12) (fun r_13 h_13 => (if r_13 = 0 then (f_X3_tryPatterns_146 k38 h_13 x1 x2) else (f_X3_tryPatterns_141 k38 h_13 x1 x2)))))) else (f_X3_tryPatterns_141 k38 h_9 x1 x2))))))) else (if 0 ≤ (x4).toInt ∧ (x4).toInt < 3 then (if 0 ≤ (x4).toInt ∧ (x4).toInt < 3 then ((f_X3_tryPatterns_69 k38 n) (sA (sA h 8 4 (upd (eA h 8 4) ((x4).toNatClampNeg) (x3 - x3 / 10 * 10))) 8 5 (upd (eA h 8 5) ((x4).toNatClampNeg) 4)) x1 x2 (x3 / 10) (x4 + (-1))) else none) else none)) := rfl
def f_X3_tryPatterns_38 : Nat → HS → Int32 → Int32 → Option HS
  | 0, _, _, _ => none
  | n + 1, h, x1, x2 => (if x1 ≤ x2 then (f_X3_tryPatterns_152 h) else (if 13 ≤ x2 then (f_X3_tryPatterns_152 h) else (if 0 ≤ (x2).toInt ∧ (x2).toInt < 13 then (f_X3_tryPatterns_69 (f_X3_tryPatterns_38 n) 8589934592 h x1 x2 (gPat ((x2).toNatClampNeg)) ((if 3 < (eI h 8 8) then 3 else (eI h 8 8)) - 1)) else none)))
theorem f_X3_tryPatterns_38_s (n : Nat) (h : HS) (x1 : Int32) (x2 : Int32) : f_X3_tryPatterns_38 (n + 1) h x1 x2 = (if x1 ≤ x2 then (f_X3_tryPatterns_152 h) else (if 13 ≤ x2 then (f_X3_tryPatterns_152 h) else (if 0 ≤ (x2).toInt ∧ (x2).toInt < 13 then (f_X3_tryPatterns_69 (f_X3_tryPatterns_38 n) 8589934592 h x1 x2 (gPat ((x2).toNatClampNeg)) ((if 3 < (eI h 8 8) then 3 else (eI h 8 8)) - 1)) else none))) := rfl
def f_X3_tryPatterns_35 (h : HS) (y0 : Int32) : Option HS := (f_X3_tryPatterns_38 8589934592 h y0 0)
def f_X3_tryPatterns_34 (h : HS) : Option HS := (f_X3_tryPatterns_35 h 0)
def f_X3_tryPatterns (h : HS) : Option HS := (if (eI h 8 8) < 0 then (f_X3_tryPatterns_34 (sI h 8 13 0)) else (if 4 ≤ (eI h 8 8) then (f_X3_tryPatterns_34 (sI h 8 13 0)) else (if 0 ≤ ((eI h 8 8)).toInt ∧ ((eI h 8 8)).toInt < 4 then (f_X3_tryPatterns_35 (sI h 8 13 0) (gCnt (((eI h 8 8)).toNatClampNeg))) else none)))
set_option maxHeartbeats 4000000 in
set_option maxRecDepth 100000 in
theorem c_X3_tryPatterns (l : Launch) (G : va_G) (cI cJ cZ cB cT : ClassId) (q : Nat → Nat) (h : HS)  (hh : HS) (hF : f_X3_tryPatterns h = some hh) : gMv l yX3_tryPatterns (gws yX3_tryPatterns cX3_tryPatterns 5 none) 10 G (gT cI cJ cZ cB cT) [.ref (q 23)] (wC q cI cJ cZ cB cT h) (fun (_ : Unit) => True) (fun (_ : Unit) => (wC q cI cJ cZ cB cT hh)) := by
  intro sz
  refine gM_start (y := yX3_tryPatterns) (av := [.ref (q 23)]) (ws := (wC q cI cJ cZ cB cT h)) (Qf := fun A => va_Qv (fun (_ : Unit) => True) (gB G (fun (_ : Unit) => (wC q cI cJ cZ cB cT hh)) A) A) (cc := cX3_tryPatterns) (maxL := 5) (ret := none) (by decide) (Nat.le_of_ble_eq_true rfl) ?_
  intro p e s m args below meth c A ls H hx hb hr hts hown hin hlocks hml hP hK hD hA hS hl hE
  have hl : lv_has ls 5 [(0, .ref (q 23))] := hl
  have hJ_152 : ∀ (h : HS), f_X3_tryPatterns_152 h = some hh → ∀ (H : Heap) (locs : List Loc) (ls : Array Slot), va_P G vwCl (wC q cI cJ cZ cB cT h) H → va_D A (wC q cI cJ cZ cB cT h) → va_S A s.heap H locs → lv_has ls 5 [] → W p l e (gRm 10) s m args below meth c H locs 0 0 (MQ below (va_Qv (fun (_ : Unit) => True) (gB G (fun (_ : Unit) => (wC q cI cJ cZ cB cT hh)) A) A) args s 0 0 A) (F0 m 152 ls []) := by
    intro h hF H locs ls hP hD hS hl
    unfold f_X3_tryPatterns_152 at hF
    obtain rfl := ob_one hF
    exact gw_vret () hx hb hr hlocks hP hD hS trivial dX3_tryPatterns_152
  have hJ_38 : ∀ (n_38 : Nat) (h : HS) (x1 : Int32) (x2 : Int32), f_X3_tryPatterns_38 n_38 h x1 x2 = some hh → ∀ (H : Heap) (locs : List Loc) (ls : Array Slot), va_P G vwCl (wC q cI cJ cZ cB cT h) H → va_D A (wC q cI cJ cZ cB cT h) → va_S A s.heap H locs → lv_has ls 5 [(0, .ref (q 23)), (1, .int x1), (2, .int x2)] → W p l e (gRm 10) s m args below meth c H locs 0 0 (MQ below (va_Qv (fun (_ : Unit) => True) (gB G (fun (_ : Unit) => (wC q cI cJ cZ cB cT hh)) A) A) args s 0 0 A) (F0 m 38 ls []) := by
    intro n_38
    induction n_38 with
    | zero =>
      intro h x1 x2 hF
      exact absurd hF (by simp [f_X3_tryPatterns_38])
    | succ n_38 ih_38 =>
      have hJ_146 : ∀ (h : HS) (x1 : Int32) (x2 : Int32), f_X3_tryPatterns_146 (f_X3_tryPatterns_38 n_38) h x1 x2 = some hh → ∀ (H : Heap) (locs : List Loc) (ls : Array Slot), va_P G vwCl (wC q cI cJ cZ cB cT h) H → va_D A (wC q cI cJ cZ cB cT h) → va_S A s.heap H locs → lv_has ls 5 [(0, .ref (q 23)), (1, .int x1), (2, .int x2)] → W p l e (gRm 10) s m args below meth c H locs 0 0 (MQ below (va_Qv (fun (_ : Unit) => True) (gB G (fun (_ : Unit) => (wC q cI cJ cZ cB cT hh)) A) A) args s 0 0 A) (F0 m 146 ls []) := by
        intro h x1 x2 hF H locs ls hP hD hS hl
        unfold f_X3_tryPatterns_146 at hF
        refine lv_iinc (v := (x2 + 1)) (lv' := [(2, .int (x2 + 1)), (0, .ref (q 23)), (1, .int x1)]) hx hb dX3_tryPatterns_146 hl (k := 2) rfl rfl (by decide) rfl (fun ls hl => ?_)
        refine lv_goto (tgt := 38) hx hb dX3_tryPatterns_149 (by decide) ?_
        exact ih_38 h x1 (x2 + 1) hF H _ ls hP hD hS (lv_sub hl [1, 2, 0] rfl)
      have hJ_141 : ∀ (h : HS) (x1 : Int32) (x2 : Int32), f_X3_tryPatterns_141 (f_X3_tryPatterns_38 n_38) h x1 x2 = some hh → ∀ (H : Heap) (locs : List Loc) (ls : Array Slot), va_P G vwCl (wC q cI cJ cZ cB cT h) H → va_D A (wC q cI cJ cZ cB cT h) → va_S A s.heap H locs → lv_has ls 5 [(0, .ref (q 23)), (1, .int x1), (2, .int x2)] → W p l e (gRm 10) s m args below meth c H locs 0 0 (MQ below (va_Qv (fun (_ : Unit) => True) (gB G (fun (_ : Unit) => (wC q cI cJ cZ cB cT hh)) A) A) args s 0 0 A) (F0 m 141 ls []) := by
        intro h x1 x2 hF H locs ls hP hD hS hl
        unfold f_X3_tryPatterns_141 at hF
        refine lv_aload_n hx hb dX3_tryPatterns_141 rfl (lv_at hl 0 rfl) ?_
        refine lv_iconst (v := 0) hx hb dX3_tryPatterns_142 (by decide) ?_
        obtain ⟨h_17, e_17, hF⟩ := ob1_some hF
        refine gx_callv (gx_runV (As := [.int 0]) (rest := []) ⟨hx, hb, hml, hown, hts⟩ ((c_G_tryMarkets l G cI cJ cZ cB cT q 6) h 0 h_17 e_17 H.size) (gG_V m_614 m_615 m_616 m_486 m_617) rfl e_X3_tryMarkets ⟨Nat.le_of_ble_eq_true rfl, Nat.le_of_ble_eq_true rfl⟩ hK hP hD hE hS hA 23 wC_at23 rfl rfl hl.1 rfl (Nat.le_of_ble_eq_true rfl) dX3_tryPatterns_143 ⟨Nat.le_refl _, Nat.le_refl _⟩) hP hD hS hA (fun u_17 H locs hw_17 hP hD hS => ?_)
        exact hJ_146 h_17 x1 x2 hF H _ ls hP hD hS (lv_sub hl [0, 1, 2] rfl)
      have hJ_69 : ∀ (n_69 : Nat) (h : HS) (x1 : Int32) (x2 : Int32) (x3 : Int32) (x4 : Int32), f_X3_tryPatterns_69 (f_X3_tryPatterns_38 n_38) n_69 h x1 x2 x3 x4 = some hh → ∀ (H : Heap) (locs : List Loc) (ls : Array Slot), va_P G vwCl (wC q cI cJ cZ cB cT h) H → va_D A (wC q cI cJ cZ cB cT h) → va_S A s.heap H locs → lv_has ls 5 [(0, .ref (q 23)), (1, .int x1), (2, .int x2), (3, .int x3), (4, .int x4)] → W p l e (gRm 10) s m args below meth c H locs 0 0 (MQ below (va_Qv (fun (_ : Unit) => True) (gB G (fun (_ : Unit) => (wC q cI cJ cZ cB cT hh)) A) A) args s 0 0 A) (F0 m 69 ls []) := by
        intro n_69
        induction n_69 with
        | zero =>
          intro h x1 x2 x3 x4 hF
          exact absurd hF (by simp [f_X3_tryPatterns_69])
        | succ n_69 ih_69 =>
          intro h x1 x2 x3 x4 hF H locs ls hP hD hS hl
          rw [f_X3_tryPatterns_69_s] at hF
          refine lv_iload hx hb dX3_tryPatterns_69 (lv_at hl 4 rfl) ?_
          refine lv_if_lt (tgt := 104) hx hb dX3_tryPatterns_71 (by decide) (fun c_7 => ?_) (fun c_7 => ?_)
          · have hF := ob_pos c_7 hF
            refine lv_aload_n hx hb dX3_tryPatterns_104 rfl (lv_at hl 0 rfl) ?_
            refine lv_aload_n hx hb dX3_tryPatterns_105 rfl (lv_at hl 0 rfl) ?_
            refine lv_aload_n hx hb dX3_tryPatterns_106 rfl (lv_at hl 0 rfl) ?_
            refine va_get (D := G) (ci := 3) (v := .ref (q 24)) (C := RX3) (T := TX3) (N := 16) hx hb hts iX3 hown hK hP 23 wC_at23 rfl 0 (by decide) (hts _ m_481) (fun _ h9 => h9) rfl dX3_tryPatterns_107 ?_
            obtain ⟨r_8, h_8, e_8, hF⟩ := ob2_some hF
            refine gx_calll (gx_runV (As := [.ref (q 24)]) (rest := [.ref (q 23)]) ⟨hx, hb, hml, hown, hts⟩ (c_X3_missOf_f l G cI cJ cZ cB cT q h  r_8 h_8 e_8 H.size) (gG_V m_483 m_484 m_485 m_486 m_482) rfl e_X3_missOf ⟨Nat.le_of_ble_eq_true rfl, Nat.le_of_ble_eq_true rfl⟩ hK hP hD hE hS hA 23 wC_at23 rfl rfl hl.1 rfl (Nat.le_of_ble_eq_true rfl) dX3_tryPatterns_110 ⟨Nat.le_refl _, Nat.le_refl _⟩) hP hD hS hA (fun x_8 u_8 H locs hw_8 hP hD hS => ?_)
            subst x_8
            obtain ⟨r_9, h_9, e_9, hF⟩ := ob2_some hF
            refine gx_calli (gx_runV (As := [.long r_8]) (rest := []) ⟨hx, hb, hml, hown, hts⟩ (c_X3_isEnough l G cI cJ cZ cB cT q h_8 r_8 r_9 h_9 e_9 H.size) (gG_V m_488 m_489 m_490 m_486 m_487) rfl e_X3_isEnough ⟨Nat.le_of_ble_eq_true rfl, Nat.le_of_ble_eq_true rfl⟩ hK hP hD hE hS hA 23 wC_at23 rfl rfl hl.1 rfl (Nat.le_of_ble_eq_true rfl) dX3_tryPatterns_113 ⟨Nat.le_refl _, Nat.le_refl _⟩) hP hD hS hA (fun x_9 u_9 H locs hw_9 hP hD hS => ?_)
            subst x_9
            refine lv_if_eq (tgt := 146) hx hb dX3_tryPatterns_116 (by decide) (fun c_10 => ?_) (fun c_10 => ?_)
            · have hF := ob_pos c_10 hF
              exact hJ_146 h_9 x1 x2 hF H _ ls hP hD hS (lv_sub hl [0, 1, 2] rfl)
            · have hF := ob_neg c_10 hF
              refine lv_aload_n hx hb dX3_tryPatterns_119 rfl (lv_at hl 0 rfl) ?_
              refine va_get (D := G) (ci := 3) (v := .int (eI h_9 8 13)) (C := RX3) (T := TX3) (N := 16) hx hb hts iX3 hown hK hP 23 wC_at23 rfl 13 (by decide) (hts _ m_473) (fun _ h9 => h9) rfl dX3_tryPatterns_120 ?_
              refine lv_if_ne (tgt := 141) hx hb dX3_tryPatterns_123 (by decide) (fun c_11 => ?_) (fun c_11 => ?_)
              · have hF := ob_neg c_11 hF
                exact hJ_141 h_9 x1 x2 hF H _ ls hP hD hS (lv_sub hl [0, 1, 2] rfl)
              · have hF := ob_pos c_11 hF
                refine lv_aload_n hx hb dX3_tryPatterns_126 rfl (lv_at hl 0 rfl) ?_
                refine lv_aload_n hx hb dX3_tryPatterns_127 rfl (lv_at hl 0 rfl) ?_
                refine lv_aload_n hx hb dX3_tryPatterns_128 rfl (lv_at hl 0 rfl) ?_
                refine va_get (D := G) (ci := 3) (v := .ref (q 25)) (C := RX3) (T := TX3) (N := 16) hx hb hts iX3 hown hK hP 23 wC_at23 rfl 1 (by decide) (hts _ m_491) (fun _ h9 => h9) rfl dX3_tryPatterns_129 ?_
                obtain ⟨r_12, h_12, e_12, hF⟩ := ob2_some hF
                refine gx_calll (gx_runV (As := [.ref (q 25)]) (rest := [.ref (q 23)]) ⟨hx, hb, hml, hown, hts⟩ (c_X3_missOf_r l G cI cJ cZ cB cT q h_9  r_12 h_12 e_12 H.size) (gG_V m_483 m_484 m_485 m_486 m_482) rfl e_X3_missOf ⟨Nat.le_of_ble_eq_true rfl, Nat.le_of_ble_eq_true rfl⟩ hK hP hD hE hS hA 23 wC_at23 rfl rfl hl.1 rfl (Nat.le_of_ble_eq_true rfl) dX3_tryPatterns_132 ⟨Nat.le_refl _, Nat.le_refl _⟩) hP hD hS hA (fun x_12 u_12 H locs hw_12 hP hD hS => ?_)
                subst x_12
                obtain ⟨r_13, h_13, e_13, hF⟩ := ob2_some hF
                refine gx_calli (gx_runV (As := [.long r_12]) (rest := []) ⟨hx, hb, hml, hown, hts⟩ (c_X3_isBetter l G cI cJ cZ cB cT q h_12 r_12 r_13 h_13 e_13 H.size) (gG_V m_493 m_494 m_495 m_486 m_492) rfl e_X3_isBetter ⟨Nat.le_of_ble_eq_true rfl, Nat.le_of_ble_eq_true rfl⟩ hK hP hD hE hS hA 23 wC_at23 rfl rfl hl.1 rfl (Nat.le_of_ble_eq_true rfl) dX3_tryPatterns_135 ⟨Nat.le_refl _, Nat.le_refl _⟩) hP hD hS hA (fun x_13 u_13 H locs hw_13 hP hD hS => ?_)
                subst x_13
                refine lv_if_eq (tgt := 146) hx hb dX3_tryPatterns_138 (by decide) (fun c_14 => ?_) (fun c_14 => ?_)
                · have hF := ob_pos c_14 hF
                  exact hJ_146 h_13 x1 x2 hF H _ ls hP hD hS (lv_sub hl [0, 1, 2] rfl)
                · have hF := ob_neg c_14 hF
                  exact hJ_141 h_13 x1 x2 hF H _ ls hP hD hS (lv_sub hl [0, 1, 2] rfl)
          · have hF := ob_neg c_7 hF
            refine lv_aload_n hx hb dX3_tryPatterns_74 rfl (lv_at hl 0 rfl) ?_
            refine va_get (D := G) (ci := 3) (v := .ref (q 28)) (C := RX3) (T := TX3) (N := 16) hx hb hts iX3 hown hK hP 23 wC_at23 rfl 4 (by decide) (hts _ m_480) (fun _ h9 => h9) rfl dX3_tryPatterns_75 ?_
            refine lv_iload hx hb dX3_tryPatterns_78 (lv_at hl 4 rfl) ?_
            refine lv_iload_n hx hb dX3_tryPatterns_80 rfl (lv_at hl 3 rfl) ?_
            refine lv_bipush (v := 10) hx hb dX3_tryPatterns_81 (by decide) ?_
            refine lv_irem hx hb dX3_tryPatterns_83 (by decide) ?_
            obtain ⟨hi_15, hF⟩ := ob_if hF
            refine va_iast (D := G) hx hb hK hP hD hS 28 0 wC_at28 rfl (vp_in_iff.mpr hi_15) dX3_tryPatterns_84 (fun H locs hP hD hS => ?_)
            rw [wC_sA28] at hP hD
            have hP : va_P G vwCl (wC q cI cJ cZ cB cT (sA h 8 4 (upd (eA h 8 4) ((x4).toNatClampNeg) (x3 - x3 / 10 * 10)))) H := hP
            have hD : va_D A (wC q cI cJ cZ cB cT (sA h 8 4 (upd (eA h 8 4) ((x4).toNatClampNeg) (x3 - x3 / 10 * 10)))) := hD
            refine lv_iload_n hx hb dX3_tryPatterns_85 rfl (lv_at hl 3 rfl) ?_
            refine lv_bipush (v := 10) hx hb dX3_tryPatterns_86 (by decide) ?_
            refine lv_idiv hx hb dX3_tryPatterns_88 (by decide) ?_
            refine lv_istore_n (lv' := [(3, .int (x3 / 10)), (0, .ref (q 23)), (1, .int x1), (2, .int x2), (4, .int x4)]) hx hb dX3_tryPatterns_89 rfl hl (by decide) rfl (fun ls hl => ?_)
            refine lv_aload_n hx hb dX3_tryPatterns_90 rfl (lv_at hl 1 rfl) ?_
            refine va_get (D := G) (ci := 3) (v := .ref (q 29)) (C := RX3) (T := TX3) (N := 16) hx hb hts iX3 hown hK hP 23 wC_at23 rfl 5 (by decide) (hts _ m_479) (fun _ h9 => h9) rfl dX3_tryPatterns_91 ?_
            refine lv_iload hx hb dX3_tryPatterns_94 (lv_at hl 4 rfl) ?_
            refine lv_iconst (v := 4) hx hb dX3_tryPatterns_96 (by decide) ?_
            obtain ⟨hi_16, hF⟩ := ob_if hF
            refine va_iast (D := G) hx hb hK hP hD hS 29 0 wC_at29 rfl (vp_in_iff.mpr hi_16) dX3_tryPatterns_97 (fun H locs hP hD hS => ?_)
            rw [wC_sA29] at hP hD
            have hP : va_P G vwCl (wC q cI cJ cZ cB cT (sA (sA h 8 4 (upd (eA h 8 4) ((x4).toNatClampNeg) (x3 - x3 / 10 * 10))) 8 5 (upd (eA h 8 5) ((x4).toNatClampNeg) 4))) H := hP
            have hD : va_D A (wC q cI cJ cZ cB cT (sA (sA h 8 4 (upd (eA h 8 4) ((x4).toNatClampNeg) (x3 - x3 / 10 * 10))) 8 5 (upd (eA h 8 5) ((x4).toNatClampNeg) 4))) := hD
            refine lv_iinc (v := (x4 + (-1))) (lv' := [(4, .int (x4 + (-1))), (3, .int (x3 / 10)), (0, .ref (q 23)), (1, .int x1), (2, .int x2)]) hx hb dX3_tryPatterns_98 hl (k := 4) rfl rfl (by decide) rfl (fun ls hl => ?_)
            refine lv_goto (tgt := 69) hx hb dX3_tryPatterns_101 (by decide) ?_
            exact ih_69 (sA (sA h 8 4 (upd (eA h 8 4) ((x4).toNatClampNeg) (x3 - x3 / 10 * 10))) 8 5 (upd (eA h 8 5) ((x4).toNatClampNeg) 4)) x1 x2 (x3 / 10) (x4 + (-1)) hF H _ ls hP hD hS (lv_sub hl [2, 3, 4, 1, 0] rfl)
      intro h x1 x2 hF H locs ls hP hD hS hl
      rw [f_X3_tryPatterns_38_s] at hF
      refine lv_iload_n hx hb dX3_tryPatterns_38 rfl (lv_at hl 2 rfl) ?_
      refine lv_iload_n hx hb dX3_tryPatterns_39 rfl (lv_at hl 1 rfl) ?_
      refine lv_icmp_ge (tgt := 152) hx hb dX3_tryPatterns_40 (by decide) (fun c_4 => ?_) (fun c_4 => ?_)
      · have hF := ob_pos c_4 hF
        exact hJ_152 h hF H _ ls hP hD hS (lv_sub hl [] rfl)
      · have hF := ob_neg c_4 hF
        refine lv_iload_n hx hb dX3_tryPatterns_43 rfl (lv_at hl 2 rfl) ?_
        refine va_gets hx hb hE.2.1.1 hS hown (hts _ m_619) (fun _ h9 => h9) dX3_tryPatterns_44 ?_
        refine va_tlen hx hb hE.2.1.2 hS (v := 13) rfl dX3_tryPatterns_47 ?_
        refine lv_icmp_ge (tgt := 152) hx hb dX3_tryPatterns_48 (by decide) (fun c_5 => ?_) (fun c_5 => ?_)
        · have hF := ob_pos c_5 hF
          exact hJ_152 h hF H _ ls hP hD hS (lv_sub hl [] rfl)
        · have hF := ob_neg c_5 hF
          refine va_gets hx hb hE.2.1.1 hS hown (hts _ m_619) (fun _ h9 => h9) dX3_tryPatterns_51 ?_
          refine lv_iload_n hx hb dX3_tryPatterns_54 rfl (lv_at hl 2 rfl) ?_
          obtain ⟨hi_6, hF⟩ := ob_if hF
          refine va_ti hx hb hE.2.1.2 hS (vp_in_iff.mpr hi_6) (v := .int (gPat ((x2).toNatClampNeg))) rfl dX3_tryPatterns_55 ?_
          refine lv_istore_n (lv' := [(3, .int (gPat ((x2).toNatClampNeg))), (0, .ref (q 23)), (1, .int x1), (2, .int x2)]) hx hb dX3_tryPatterns_56 rfl hl (by decide) rfl (fun ls hl => ?_)
          refine lv_aload_n hx hb dX3_tryPatterns_57 rfl (lv_at hl 1 rfl) ?_
          refine va_get (D := G) (ci := 3) (v := .int (eI h 8 8)) (C := RX3) (T := TX3) (N := 16) hx hb hts iX3 hown hK hP 23 wC_at23 rfl 8 (by decide) (hts _ m_475) (fun _ h9 => h9) rfl dX3_tryPatterns_58 ?_
          refine lv_iconst (v := 3) hx hb dX3_tryPatterns_61 (by decide) ?_
          refine va_mmin hx hb (by rw [hml]; exact hl.1.symm) hown (hts _ m_620) (hts _ m_53) (hts _ m_50) (hts _ m_54) (Nat.le_of_ble_eq_true rfl) (Nat.le_of_ble_eq_true rfl) (Nat.le_of_ble_eq_true rfl) (Nat.le_of_ble_eq_true rfl) dX3_tryPatterns_62 ?_
          refine lv_iconst (v := 1) hx hb dX3_tryPatterns_65 (by decide) ?_
          refine lv_isub hx hb dX3_tryPatterns_66 ?_
          refine lv_istore (lv' := [(4, .int ((if 3 < (eI h 8 8) then 3 else (eI h 8 8)) - 1)), (3, .int (gPat ((x2).toNatClampNeg))), (0, .ref (q 23)), (1, .int x1), (2, .int x2)]) hx hb dX3_tryPatterns_67 hl (by decide) rfl (fun ls hl => ?_)
          exact hJ_69 8589934592 h x1 x2 (gPat ((x2).toNatClampNeg)) ((if 3 < (eI h 8 8) then 3 else (eI h 8 8)) - 1) hF H _ ls hP hD hS (lv_sub hl [2, 3, 4, 1, 0] rfl)
  have hJ_35 : ∀ (h : HS) (y0 : Int32), f_X3_tryPatterns_35 h y0 = some hh → ∀ (H : Heap) (locs : List Loc) (ls : Array Slot), va_P G vwCl (wC q cI cJ cZ cB cT h) H → va_D A (wC q cI cJ cZ cB cT h) → va_S A s.heap H locs → lv_has ls 5 [(0, .ref (q 23))] → W p l e (gRm 10) s m args below meth c H locs 0 0 (MQ below (va_Qv (fun (_ : Unit) => True) (gB G (fun (_ : Unit) => (wC q cI cJ cZ cB cT hh)) A) A) args s 0 0 A) (F0 m 35 ls [.int y0]) := by
    intro h y0 hF H locs ls hP hD hS hl
    unfold f_X3_tryPatterns_35 at hF
    refine lv_istore_n (lv' := [(1, .int y0), (0, .ref (q 23))]) hx hb dX3_tryPatterns_35 rfl hl (by decide) rfl (fun ls hl => ?_)
    refine lv_iconst (v := 0) hx hb dX3_tryPatterns_36 (by decide) ?_
    refine lv_istore_n (lv' := [(2, .int 0), (1, .int y0), (0, .ref (q 23))]) hx hb dX3_tryPatterns_37 rfl hl (by decide) rfl (fun ls hl => ?_)
    exact hJ_38 8589934592 h y0 0 hF H _ ls hP hD hS (lv_sub hl [2, 1, 0] rfl)
  have hJ_34 : ∀ (h : HS), f_X3_tryPatterns_34 h = some hh → ∀ (H : Heap) (locs : List Loc) (ls : Array Slot), va_P G vwCl (wC q cI cJ cZ cB cT h) H → va_D A (wC q cI cJ cZ cB cT h) → va_S A s.heap H locs → lv_has ls 5 [(0, .ref (q 23))] → W p l e (gRm 10) s m args below meth c H locs 0 0 (MQ below (va_Qv (fun (_ : Unit) => True) (gB G (fun (_ : Unit) => (wC q cI cJ cZ cB cT hh)) A) A) args s 0 0 A) (F0 m 34 ls []) := by
    intro h hF H locs ls hP hD hS hl
    unfold f_X3_tryPatterns_34 at hF
    refine lv_iconst (v := 0) hx hb dX3_tryPatterns_34 (by decide) ?_
    exact hJ_35 h 0 hF H _ ls hP hD hS (lv_sub hl [0] rfl)
  unfold f_X3_tryPatterns at hF
  refine lv_aload_n hx hb dX3_tryPatterns_0 rfl (lv_at hl 0 rfl) ?_
  refine lv_iconst (v := 0) hx hb dX3_tryPatterns_1 (by decide) ?_
  refine va_put (D := G) (ci := 3) (v := .int 0) (ty := .boolean) (C := RX3) (T := TX3) (N := 16) hx hb hts iX3 tyX3 tyX3_ok nmX3 hown hK hP hD hS 23 wC_at23 rfl 13 (by decide) (hts _ m_473) (fun _ h9 => h9) rfl (tyX3_ok 13 (by decide)) rfl rfl (Nat.le_of_ble_eq_true rfl) dX3_tryPatterns_2 (fun H locs hP hD hS => ?_)
  rw [wC_sI23_13] at hP hD
  refine lv_aload_n hx hb dX3_tryPatterns_5 rfl (lv_at hl 0 rfl) ?_
  refine va_get (D := G) (ci := 3) (v := .int (eI h 8 8)) (C := RX3) (T := TX3) (N := 16) hx hb hts iX3 hown hK hP 23 wC_at23 rfl 8 (by decide) (hts _ m_475) (fun _ h9 => h9) rfl dX3_tryPatterns_6 ?_
  refine lv_if_lt (tgt := 34) hx hb dX3_tryPatterns_9 (by decide) (fun c_1 => ?_) (fun c_1 => ?_)
  · have hF := ob_pos c_1 hF
    exact hJ_34 (sI h 8 13 0) hF H _ ls hP hD hS (lv_sub hl [0] rfl)
  · have hF := ob_neg c_1 hF
    refine lv_aload_n hx hb dX3_tryPatterns_12 rfl (lv_at hl 0 rfl) ?_
    refine va_get (D := G) (ci := 3) (v := .int (eI h 8 8)) (C := RX3) (T := TX3) (N := 16) hx hb hts iX3 hown hK hP 23 wC_at23 rfl 8 (by decide) (hts _ m_475) (fun _ h9 => h9) rfl dX3_tryPatterns_13 ?_
    refine va_gets hx hb hE.2.2.1.1 hS hown (hts _ m_618) (fun _ h9 => h9) dX3_tryPatterns_16 ?_
    refine va_tlen hx hb hE.2.2.1.2 hS (v := 4) rfl dX3_tryPatterns_19 ?_
    refine lv_icmp_ge (tgt := 34) hx hb dX3_tryPatterns_20 (by decide) (fun c_2 => ?_) (fun c_2 => ?_)
    · have hF := ob_pos c_2 hF
      exact hJ_34 (sI h 8 13 0) hF H _ ls hP hD hS (lv_sub hl [0] rfl)
    · have hF := ob_neg c_2 hF
      refine va_gets hx hb hE.2.2.1.1 hS hown (hts _ m_618) (fun _ h9 => h9) dX3_tryPatterns_23 ?_
      refine lv_aload_n hx hb dX3_tryPatterns_26 rfl (lv_at hl 0 rfl) ?_
      refine va_get (D := G) (ci := 3) (v := .int (eI h 8 8)) (C := RX3) (T := TX3) (N := 16) hx hb hts iX3 hown hK hP 23 wC_at23 rfl 8 (by decide) (hts _ m_475) (fun _ h9 => h9) rfl dX3_tryPatterns_27 ?_
      obtain ⟨hi_3, hF⟩ := ob_if hF
      refine va_ti hx hb hE.2.2.1.2 hS (vp_in_iff.mpr hi_3) (v := .int (gCnt (((eI h 8 8)).toNatClampNeg))) rfl dX3_tryPatterns_30 ?_
      refine lv_goto (tgt := 35) hx hb dX3_tryPatterns_31 (by decide) ?_
      exact hJ_35 (sI h 8 13 0) (gCnt (((eI h 8 8)).toNatClampNeg)) hF H _ ls hP hD hS (lv_sub hl [0] rfl)
def f_X3_tryGeese_13 (kR_X3_tryGeese : HS → Int32 → Int32 → Option HS) (h : HS) : Option HS := (ob1 (f_X3_tryPatterns h) (fun h_3 => (some h_3)))
def f_X3_tryGeese_52 (kR_X3_tryGeese : HS → Int32 → Int32 → Option HS) (k20 : HS → Int32 → Int32 → Option HS) (h : HS) (x1 : Int32) (x3 : Int32) : Option HS := (k20 h x1 (x3 + 1))
def f_X3_tryGeese_20 (kR_X3_tryGeese : HS → Int32 → Int32 → Option HS) : Nat → HS → Int32 → Int32 → Option HS
  | 0, _, _, _ => none
  | n + 1, h, x1, x3 => (if 10 ≤ x3 then (some h) else (if 0 ≤ (x3).toInt ∧ (x3).toInt < 10 then (if ((eA h 8 2) ((x3).toNatClampNeg)) = 0 then (f_X3_tryGeese_52 kR_X3_tryGeese (f_X3_tryGeese_20 kR_X3_tryGeese n) h x1 x3) else (if 0 ≤ (x1).toInt ∧ (x1).toInt < 3 then (ob1 (kR_X3_tryGeese (sA h 8 3 (upd (eA h 8 3) ((x1).toNatClampNeg) x3)) (x1 + 1) (x3 + 1)) (fun h_8 => (f_X3_tryGeese_52 kR_X3_tryGeese (f_X3_tryGeese_20 kR_X3_tryGeese n) h_8 x1 x3))) else none)) else none))
theorem f_X3_tryGeese_20_s (kR_X3_tryGeese : HS → Int32 → Int32 → Option HS) (n : Nat) (h : HS) (x1 : Int32) (x3 : Int32) : f_X3_tryGeese_20 kR_X3_tryGeese (n + 1) h x1 x3 = (if 10 ≤ x3 then (some h) else (if 0 ≤ (x3).toInt ∧ (x3).toInt < 10 then (if ((eA h 8 2) ((x3).toNatClampNeg)) = 0 then (f_X3_tryGeese_52 kR_X3_tryGeese (f_X3_tryGeese_20 kR_X3_tryGeese n) h x1 x3) else (if 0 ≤ (x1).toInt ∧ (x1).toInt < 3 then (ob1 (kR_X3_tryGeese (sA h 8 3 (upd (eA h 8 3) ((x1).toNatClampNeg) x3)) (x1 + 1) (x3 + 1)) (fun h_8 => (f_X3_tryGeese_52 kR_X3_tryGeese (f_X3_tryGeese_20 kR_X3_tryGeese n) h_8 x1 x3))) else none)) else none)) := rfl
def f_X3_tryGeese_b (kR_X3_tryGeese : HS → Int32 → Int32 → Option HS) (h : HS) (p1 : Int32) (p2 : Int32) : Option HS := (if (eI h 8 8) ≤ p1 then (f_X3_tryGeese_13 kR_X3_tryGeese h) else (if p1 < 3 then (f_X3_tryGeese_20 kR_X3_tryGeese 8589934592 h p1 p2) else (f_X3_tryGeese_13 kR_X3_tryGeese h)))
theorem e_X3_tryGeese : yX3_tryGeese.cls = RX3 ∧ yX3_tryGeese.cls ≠ "java/lang/invoke/MethodHandle" ∧ yX3_tryGeese.cls ≠ "java/lang/invoke/VarHandle" ∧ (parseMethodDescriptor yX3_tryGeese.desc).map (fun d => d.parameters.length) = some 2 := by decide +kernel
theorem e_X3_tryPatterns : yX3_tryPatterns.cls = RX3 ∧ yX3_tryPatterns.cls ≠ "java/lang/invoke/MethodHandle" ∧ yX3_tryPatterns.cls ≠ "java/lang/invoke/VarHandle" ∧ (parseMethodDescriptor yX3_tryPatterns.desc).map (fun d => d.parameters.length) = some 0 := by decide +kernel
def G_tryGeese : Nat → Nat → HS → Int32 → Int32 → Option HS
  | 0, _, _, _, _ => none
  | n_R + 1, _, h, p1, p2 => f_X3_tryGeese_b (fun h p1 p2 => G_tryGeese n_R 0 h p1 p2) h p1 p2
set_option maxHeartbeats 8000000 in
set_option maxRecDepth 100000 in
theorem c_G_tryGeese (l : Launch) (G : va_G) (cI cJ cZ cB cT : ClassId) (q : Nat → Nat) : ∀ n_R : Nat, (∀ (h : HS) (p1 : Int32) (p2 : Int32) (hh : HS), G_tryGeese n_R 0 h p1 p2 = some hh → gMv l yX3_tryGeese (gws yX3_tryGeese cX3_tryGeese 4 none) (11 + n_R) G (gT cI cJ cZ cB cT) [.ref (q 23), .int p1, .int p2] (wC q cI cJ cZ cB cT h) (fun (_ : Unit) => True) (fun (_ : Unit) => (wC q cI cJ cZ cB cT hh))) := by
  intro n_R
  induction n_R with
  | zero =>
    exact fun h p1 p2 hh hF => absurd hF (by simp [G_tryGeese])
  | succ n_R ih =>
    have ihR_X3_tryGeese := ih
    refine ?_
    · intro h p1 p2 hh hF
      have hF : f_X3_tryGeese_b (fun h p1 p2 => G_tryGeese n_R 0 h p1 p2) h p1 p2 = some hh := hF
      intro sz
      refine gM_start (y := yX3_tryGeese) (av := [.ref (q 23), .int p1, .int p2]) (ws := (wC q cI cJ cZ cB cT h)) (Qf := fun A => va_Qv (fun (_ : Unit) => True) (gB G (fun (_ : Unit) => (wC q cI cJ cZ cB cT hh)) A) A) (cc := cX3_tryGeese) (maxL := 4) (ret := none) (by decide) (Nat.le_of_ble_eq_true rfl) ?_
      intro p e s m args below meth c A ls H hx hb hr hts hown hin hlocks hml hP hK hD hA hS hl hE
      have hl : lv_has ls 4 [(0, .ref (q 23)), (1, .int p1), (2, .int p2)] := hl
      have hJ_13 : ∀ (h : HS), f_X3_tryGeese_13 (fun h p1 p2 => G_tryGeese n_R 0 h p1 p2) h = some hh → ∀ (H : Heap) (locs : List Loc) (ls : Array Slot), va_P G vwCl (wC q cI cJ cZ cB cT h) H → va_D A (wC q cI cJ cZ cB cT h) → va_S A s.heap H locs → lv_has ls 4 [(0, .ref (q 23))] → W p l e (gRm (11 + (n_R + 1))) s m args below meth c H locs 0 0 (MQ below (va_Qv (fun (_ : Unit) => True) (gB G (fun (_ : Unit) => (wC q cI cJ cZ cB cT hh)) A) A) args s 0 0 A) (F0 m 13 ls []) := by
        intro h hF H locs ls hP hD hS hl
        unfold f_X3_tryGeese_13 at hF
        refine lv_aload_n hx hb dX3_tryGeese_13 rfl (lv_at hl 0 rfl) ?_
        obtain ⟨h_3, e_3, hF⟩ := ob1_some hF
        refine gx_callv (gx_runV (As := []) (rest := []) ⟨hx, hb, hml, hown, hts⟩ (c_X3_tryPatterns l G cI cJ cZ cB cT q h  h_3 e_3 H.size) (gG_V m_622 m_623 m_624 m_486 m_621) rfl e_X3_tryPatterns ⟨by show _ ≤ (11 + (n_R + 1)); omega, by show _ ≤ 100 * (11 + (n_R + 1)); omega⟩ hK hP hD hE hS hA 23 wC_at23 rfl rfl hl.1 rfl (Nat.le_of_ble_eq_true rfl) dX3_tryGeese_14 ⟨Nat.le_refl _, Nat.le_refl _⟩) hP hD hS hA (fun u_3 H locs hw_3 hP hD hS => ?_)
        obtain rfl := ob_one hF
        exact gw_vret () hx hb hr hlocks hP hD hS trivial dX3_tryGeese_17
      have hJ_20 : ∀ (n_20 : Nat) (h : HS) (x1 : Int32) (x3 : Int32), f_X3_tryGeese_20 (fun h p1 p2 => G_tryGeese n_R 0 h p1 p2) n_20 h x1 x3 = some hh → ∀ (H : Heap) (locs : List Loc) (ls : Array Slot), va_P G vwCl (wC q cI cJ cZ cB cT h) H → va_D A (wC q cI cJ cZ cB cT h) → va_S A s.heap H locs → lv_has ls 4 [(0, .ref (q 23)), (1, .int x1), (3, .int x3)] → W p l e (gRm (11 + (n_R + 1))) s m args below meth c H locs 0 0 (MQ below (va_Qv (fun (_ : Unit) => True) (gB G (fun (_ : Unit) => (wC q cI cJ cZ cB cT hh)) A) A) args s 0 0 A) (F0 m 20 ls []) := by
        intro n_20
        induction n_20 with
        | zero =>
          intro h x1 x3 hF
          exact absurd hF (by simp [f_X3_tryGeese_20])
        | succ n_20 ih_20 =>
          have hJ_52 : ∀ (h : HS) (x1 : Int32) (x3 : Int32), f_X3_tryGeese_52 (fun h p1 p2 => G_tryGeese n_R 0 h p1 p2) (f_X3_tryGeese_20 (fun h p1 p2 => G_tryGeese n_R 0 h p1 p2) n_20) h x1 x3 = some hh → ∀ (H : Heap) (locs : List Loc) (ls : Array Slot), va_P G vwCl (wC q cI cJ cZ cB cT h) H → va_D A (wC q cI cJ cZ cB cT h) → va_S A s.heap H locs → lv_has ls 4 [(0, .ref (q 23)), (1, .int x1), (3, .int x3)] → W p l e (gRm (11 + (n_R + 1))) s m args below meth c H locs 0 0 (MQ below (va_Qv (fun (_ : Unit) => True) (gB G (fun (_ : Unit) => (wC q cI cJ cZ cB cT hh)) A) A) args s 0 0 A) (F0 m 52 ls []) := by
            intro h x1 x3 hF H locs ls hP hD hS hl
            unfold f_X3_tryGeese_52 at hF
            refine lv_iinc (v := (x3 + 1)) (lv' := [(3, .int (x3 + 1)), (0, .ref (q 23)), (1, .int x1)]) hx hb dX3_tryGeese_52 hl (k := 2) rfl rfl (by decide) rfl (fun ls hl => ?_)
            refine lv_goto (tgt := 20) hx hb dX3_tryGeese_55 (by decide) ?_
            exact ih_20 h x1 (x3 + 1) hF H _ ls hP hD hS (lv_sub hl [1, 2, 0] rfl)
          intro h x1 x3 hF H locs ls hP hD hS hl
          rw [f_X3_tryGeese_20_s] at hF
          refine lv_iload_n hx hb dX3_tryGeese_20 rfl (lv_at hl 2 rfl) ?_
          refine lv_bipush (v := 10) hx hb dX3_tryGeese_21 (by decide) ?_
          refine lv_icmp_ge (tgt := 58) hx hb dX3_tryGeese_23 (by decide) (fun c_4 => ?_) (fun c_4 => ?_)
          · have hF := ob_pos c_4 hF
            obtain rfl := ob_one hF
            exact gw_vret () hx hb hr hlocks hP hD hS trivial dX3_tryGeese_58
          · have hF := ob_neg c_4 hF
            refine lv_aload_n hx hb dX3_tryGeese_26 rfl (lv_at hl 0 rfl) ?_
            refine va_get (D := G) (ci := 3) (v := .ref (q 26)) (C := RX3) (T := TX3) (N := 16) hx hb hts iX3 hown hK hP 23 wC_at23 rfl 2 (by decide) (hts _ m_625) (fun _ h9 => h9) rfl dX3_tryGeese_27 ?_
            refine lv_iload_n hx hb dX3_tryGeese_30 rfl (lv_at hl 2 rfl) ?_
            obtain ⟨hi_5, hF⟩ := ob_if hF
            refine va_zald (D := G) hx hb hK hP 26 2 wC_at26 rfl (vp_in_iff.mpr hi_5) dX3_tryGeese_31 ?_
            refine gw_topi (y := ((eA h 8 2) ((x3).toNatClampNeg))) rfl ?_
            refine lv_if_eq (tgt := 52) hx hb dX3_tryGeese_32 (by decide) (fun c_6 => ?_) (fun c_6 => ?_)
            · have hF := ob_pos c_6 hF
              exact hJ_52 h x1 x3 hF H _ ls hP hD hS (lv_sub hl [0, 1, 2] rfl)
            · have hF := ob_neg c_6 hF
              refine lv_aload_n hx hb dX3_tryGeese_35 rfl (lv_at hl 0 rfl) ?_
              refine va_get (D := G) (ci := 3) (v := .ref (q 27)) (C := RX3) (T := TX3) (N := 16) hx hb hts iX3 hown hK hP 23 wC_at23 rfl 3 (by decide) (hts _ m_477) (fun _ h9 => h9) rfl dX3_tryGeese_36 ?_
              refine lv_iload_n hx hb dX3_tryGeese_39 rfl (lv_at hl 1 rfl) ?_
              refine lv_iload_n hx hb dX3_tryGeese_40 rfl (lv_at hl 2 rfl) ?_
              obtain ⟨hi_7, hF⟩ := ob_if hF
              refine va_iast (D := G) hx hb hK hP hD hS 27 0 wC_at27 rfl (vp_in_iff.mpr hi_7) dX3_tryGeese_41 (fun H locs hP hD hS => ?_)
              rw [wC_sA27] at hP hD
              have hP : va_P G vwCl (wC q cI cJ cZ cB cT (sA h 8 3 (upd (eA h 8 3) ((x1).toNatClampNeg) x3))) H := hP
              have hD : va_D A (wC q cI cJ cZ cB cT (sA h 8 3 (upd (eA h 8 3) ((x1).toNatClampNeg) x3))) := hD
              refine lv_aload_n hx hb dX3_tryGeese_42 rfl (lv_at hl 0 rfl) ?_
              refine lv_iload_n hx hb dX3_tryGeese_43 rfl (lv_at hl 1 rfl) ?_
              refine lv_iconst (v := 1) hx hb dX3_tryGeese_44 (by decide) ?_
              refine lv_iadd hx hb dX3_tryGeese_45 ?_
              refine lv_iload_n hx hb dX3_tryGeese_46 rfl (lv_at hl 2 rfl) ?_
              refine lv_iconst (v := 1) hx hb dX3_tryGeese_47 (by decide) ?_
              refine lv_iadd hx hb dX3_tryGeese_48 ?_
              obtain ⟨h_8, e_8, hF⟩ := ob1_some hF
              refine gx_callv (gx_runV (As := [.int (x1 + 1), .int (x3 + 1)]) (rest := []) ⟨hx, hb, hml, hown, hts⟩ (ihR_X3_tryGeese (sA h 8 3 (upd (eA h 8 3) ((x1).toNatClampNeg) x3)) (x1 + 1) (x3 + 1) h_8 e_8 H.size) (gG_V m_626 m_627 m_628 m_486 m_629) rfl e_X3_tryGeese ⟨by show _ ≤ (11 + (n_R + 1)); omega, by show _ ≤ 100 * (11 + (n_R + 1)); omega⟩ hK hP hD hE hS hA 23 wC_at23 rfl rfl hl.1 rfl (Nat.le_of_ble_eq_true rfl) dX3_tryGeese_49 ⟨Nat.le_refl _, Nat.le_refl _⟩) hP hD hS hA (fun u_8 H locs hw_8 hP hD hS => ?_)
              exact hJ_52 h_8 x1 x3 hF H _ ls hP hD hS (lv_sub hl [0, 1, 2] rfl)
      unfold f_X3_tryGeese_b at hF
      refine lv_iload_n hx hb dX3_tryGeese_0 rfl (lv_at hl 1 rfl) ?_
      refine lv_aload_n hx hb dX3_tryGeese_1 rfl (lv_at hl 0 rfl) ?_
      refine va_get (D := G) (ci := 3) (v := .int (eI h 8 8)) (C := RX3) (T := TX3) (N := 16) hx hb hts iX3 hown hK hP 23 wC_at23 rfl 8 (by decide) (hts _ m_475) (fun _ h9 => h9) rfl dX3_tryGeese_2 ?_
      refine lv_icmp_ge (tgt := 13) hx hb dX3_tryGeese_5 (by decide) (fun c_1 => ?_) (fun c_1 => ?_)
      · have hF := ob_pos c_1 hF
        exact hJ_13 h hF H _ ls hP hD hS (lv_sub hl [0] rfl)
      · have hF := ob_neg c_1 hF
        refine lv_iload_n hx hb dX3_tryGeese_8 rfl (lv_at hl 1 rfl) ?_
        refine lv_iconst (v := 3) hx hb dX3_tryGeese_9 (by decide) ?_
        refine lv_icmp_lt (tgt := 18) hx hb dX3_tryGeese_10 (by decide) (fun c_2 => ?_) (fun c_2 => ?_)
        · have hF := ob_pos c_2 hF
          refine lv_iload_n hx hb dX3_tryGeese_18 rfl (lv_at hl 2 rfl) ?_
          refine lv_istore_n (lv' := [(3, .int p2), (0, .ref (q 23)), (1, .int p1), (2, .int p2)]) hx hb dX3_tryGeese_19 rfl hl (by decide) rfl (fun ls hl => ?_)
          exact hJ_20 8589934592 h p1 p2 hF H _ ls hP hD hS (lv_sub hl [1, 2, 0] rfl)
        · have hF := ob_neg c_2 hF
          exact hJ_13 h hF H _ ls hP hD hS (lv_sub hl [0] rfl)
def f_X3_weighGoose_133 (k3 : HS → Int32 → Int32 → Int32 → Option HS) (k64 : HS → Int32 → Int32 → Int32 → Int32 → Int32 → Int32 → Option HS) (h : HS) (x3 : Int32) (x4 : Int32) (x5 : Int32) (x6 : Int32) (x7 : Int32) (x8 : Int32) (x9 : Int32) (x10 : Int32) (y0 : Int32) (y1 : Int32) : Option HS := (if 0 ≤ (y1).toInt ∧ (y1).toInt < 150 then (ob2 (f_X1_rule (sA h 8 0 (upd (eA h 8 0) ((y1).toNatClampNeg) y0)) 1) (fun r_15 h_15 => (if 0 ≤ (x10).toInt ∧ (x10).toInt < 150 then (if 0 ≤ (x7).toInt ∧ (x7).toInt < 150 then (if 0 ≤ (x10).toInt ∧ (x10).toInt < 150 then (if 0 ≤ (x7).toInt ∧ (x7).toInt < 150 then (if 0 ≤ (x7).toInt ∧ (x7).toInt < 150 then (if 0 ≤ (x10).toInt ∧ (x10).toInt < 150 then (if 0 ≤ (x7).toInt ∧ (x7).toInt < 150 then (k64 (sA (sA (sA h_15 8 1 (upd (eA h_15 8 1) ((x10).toNatClampNeg) (x9 * r_15))) 8 0 (upd (eA h_15 8 0) ((x7).toNatClampNeg) (if ((eA h_15 8 0) ((x7).toNatClampNeg)) < ((eA h_15 8 0) ((x10).toNatClampNeg)) then ((eA h_15 8 0) ((x10).toNatClampNeg)) else ((eA h_15 8 0) ((x7).toNatClampNeg))))) 8 1 (upd (upd (eA h_15 8 1) ((x10).toNatClampNeg) (x9 * r_15)) ((x7).toNatClampNeg) (if ((upd (eA h_15 8 1) ((x10).toNatClampNeg) (x9 * r_15)) ((x10).toNatClampNeg)) < ((upd (eA h_15 8 1) ((x10).toNatClampNeg) (x9 * r_15)) ((x7).toNatClampNeg)) then ((upd (eA h_15 8 1) ((x10).toNatClampNeg) (x9 * r_15)) ((x10).toNatClampNeg)) else ((upd (eA h_15 8 1) ((x10).toNatClampNeg) (x9 * r_15)) ((x7).toNatClampNeg))))) x3 x4 x5 x6 x7 (x8 + 1)) else none) else none) else none) else none) else none) else none) else none))) else none)
def f_X3_weighGoose_64 (k3 : HS → Int32 → Int32 → Int32 → Option HS) : Nat → HS → Int32 → Int32 → Int32 → Int32 → Int32 → Int32 → Option HS
  | 0, _, _, _, _, _, _, _ => none
  | n + 1, h, x3, x4, x5, x6, x7, x8 => (if (eI h 8 11) ≤ x8 then (k3 h x3 x4 (x5 + 1)) else (ob2 (f_X4_ofMarket h x8 0) (fun r_9 h_9 => (ob1 (f_X1_lookAtMarket h_9 x8 ((eI h 1 7) + r_9)) (fun h_10 => (ob2 (f_X1_rule h_10 0) (fun r_11 h_11 => (ob1 (f_X3_cell x3 x5 x8) (fun r_12 => (if x6 = 0 then (f_X3_weighGoose_133 k3 (f_X3_weighGoose_64 k3 n) h_11 x3 x4 x5 x6 x7 x8 r_11 r_12 0 r_12) else (f_X3_weighGoose_133 k3 (f_X3_weighGoose_64 k3 n) h_11 x3 x4 x5 x6 x7 x8 r_11 r_12 ((10 - r_11) * 10) r_12)))))))))))
theorem f_X3_weighGoose_64_s (k3 : HS → Int32 → Int32 → Int32 → Option HS) (n : Nat) (h : HS) (x3 : Int32) (x4 : Int32) (x5 : Int32) (x6 : Int32) (x7 : Int32) (x8 : Int32) : f_X3_weighGoose_64 k3 (n + 1) h x3 x4 x5 x6 x7 x8 = (if (eI h 8 11) ≤ x8 then (k3 h x3 x4 (x5 + 1)) else (ob2 (f_X4_ofMarket h x8 0) (fun r_9 h_9 => (ob1 (f_X1_lookAtMarket h_9 x8 ((eI h 1 7) + r_9)) (fun h_10 => (ob2 (f_X1_rule h_10 0) (fun r_11 h_11 => (ob1 (f_X3_cell x3 x5 x8) (fun r_12 => (if x6 = 0 then (f_X3_weighGoose_133 k3 (f_X3_weighGoose_64 k3 n) h_11 x3 x4 x5 x6 x7 x8 r_11 r_12 0 r_12) else (f_X3_weighGoose_133 k3 (f_X3_weighGoose_64 k3 n) h_11 x3 x4 x5 x6 x7 x8 r_11 r_12 ((10 - r_11) * 10) r_12))))))))))) := rfl
def f_X3_weighGoose_33 (k3 : HS → Int32 → Int32 → Int32 → Option HS) (h : HS) (x3 : Int32) (x4 : Int32) (x5 : Int32) (y0 : Int32) : Option HS := (ob1 (f_X3_cell x3 x5 4) (fun r_5 => (if 0 ≤ (r_5).toInt ∧ (r_5).toInt < 150 then (if 0 ≤ (r_5).toInt ∧ (r_5).toInt < 150 then (f_X3_weighGoose_64 k3 8589934592 (sA (sA h 8 0 (upd (eA h 8 0) ((r_5).toNatClampNeg) 0)) 8 1 (upd (eA h 8 1) ((r_5).toNatClampNeg) 100)) x3 x4 x5 y0 r_5 0) else none) else none)))
def f_X3_weighGoose_3 : Nat → HS → Int32 → Int32 → Int32 → Option HS
  | 0, _, _, _, _ => none
  | n + 1, h, x3, x4, x5 => (if 3 ≤ x5 then (some h) else (ob1 (f_X1_lookAtFilled h x3 x4 x5) (fun h_2 => (ob2 (f_X1_rule h_2 3) (fun r_3 h_3 => (if r_3 = 0 then (f_X3_weighGoose_33 (f_X3_weighGoose_3 n) h_3 x3 x4 x5 0) else (f_X3_weighGoose_33 (f_X3_weighGoose_3 n) h_3 x3 x4 x5 1)))))))
theorem f_X3_weighGoose_3_s (n : Nat) (h : HS) (x3 : Int32) (x4 : Int32) (x5 : Int32) : f_X3_weighGoose_3 (n + 1) h x3 x4 x5 = (if 3 ≤ x5 then (some h) else (ob1 (f_X1_lookAtFilled h x3 x4 x5) (fun h_2 => (ob2 (f_X1_rule h_2 3) (fun r_3 h_3 => (if r_3 = 0 then (f_X3_weighGoose_33 (f_X3_weighGoose_3 n) h_3 x3 x4 x5 0) else (f_X3_weighGoose_33 (f_X3_weighGoose_3 n) h_3 x3 x4 x5 1))))))) := rfl
def f_X3_weighGoose (h : HS) (p1 : Int32) (p2 : Int32) : Option HS := (f_X3_weighGoose_3 8589934592 h p1 p2 0)
theorem e_X3_cell : yX3_cell.cls = RX3 ∧ yX3_cell.cls ≠ "java/lang/invoke/MethodHandle" ∧ yX3_cell.cls ≠ "java/lang/invoke/VarHandle" ∧ (parseMethodDescriptor yX3_cell.desc).map (fun d => d.parameters.length) = some 3 := by decide +kernel
set_option maxHeartbeats 4000000 in
set_option maxRecDepth 100000 in
theorem c_X3_weighGoose (l : Launch) (G : va_G) (cI cJ cZ cB cT : ClassId) (q : Nat → Nat) (h : HS) (p1 : Int32) (p2 : Int32) (hh : HS) (hF : f_X3_weighGoose h p1 p2 = some hh) : gMv l yX3_weighGoose (gws yX3_weighGoose cX3_weighGoose 11 none) 4 G (gT cI cJ cZ cB cT) [.ref (q 23), .ref (q 1), .ref (q 16), .int p1, .int p2] (wC q cI cJ cZ cB cT h) (fun (_ : Unit) => True) (fun (_ : Unit) => (wC q cI cJ cZ cB cT hh)) := by
  intro sz
  refine gM_start (y := yX3_weighGoose) (av := [.ref (q 23), .ref (q 1), .ref (q 16), .int p1, .int p2]) (ws := (wC q cI cJ cZ cB cT h)) (Qf := fun A => va_Qv (fun (_ : Unit) => True) (gB G (fun (_ : Unit) => (wC q cI cJ cZ cB cT hh)) A) A) (cc := cX3_weighGoose) (maxL := 11) (ret := none) (by decide) (Nat.le_of_ble_eq_true rfl) ?_
  intro p e s m args below meth c A ls H hx hb hr hts hown hin hlocks hml hP hK hD hA hS hl hE
  have hl : lv_has ls 11 [(0, .ref (q 23)), (1, .ref (q 1)), (2, .ref (q 16)), (3, .int p1), (4, .int p2)] := hl
  have hJ_3 : ∀ (n_3 : Nat) (h : HS) (x3 : Int32) (x4 : Int32) (x5 : Int32), f_X3_weighGoose_3 n_3 h x3 x4 x5 = some hh → ∀ (H : Heap) (locs : List Loc) (ls : Array Slot), va_P G vwCl (wC q cI cJ cZ cB cT h) H → va_D A (wC q cI cJ cZ cB cT h) → va_S A s.heap H locs → lv_has ls 11 [(0, .ref (q 23)), (1, .ref (q 1)), (2, .ref (q 16)), (3, .int x3), (4, .int x4), (5, .int x5)] → W p l e (gRm 4) s m args below meth c H locs 0 0 (MQ below (va_Qv (fun (_ : Unit) => True) (gB G (fun (_ : Unit) => (wC q cI cJ cZ cB cT hh)) A) A) args s 0 0 A) (F0 m 3 ls []) := by
    intro n_3
    induction n_3 with
    | zero =>
      intro h x3 x4 x5 hF
      exact absurd hF (by simp [f_X3_weighGoose_3])
    | succ n_3 ih_3 =>
      have hJ_64 : ∀ (n_64 : Nat) (h : HS) (x3 : Int32) (x4 : Int32) (x5 : Int32) (x6 : Int32) (x7 : Int32) (x8 : Int32), f_X3_weighGoose_64 (f_X3_weighGoose_3 n_3) n_64 h x3 x4 x5 x6 x7 x8 = some hh → ∀ (H : Heap) (locs : List Loc) (ls : Array Slot), va_P G vwCl (wC q cI cJ cZ cB cT h) H → va_D A (wC q cI cJ cZ cB cT h) → va_S A s.heap H locs → lv_has ls 11 [(0, .ref (q 23)), (1, .ref (q 1)), (2, .ref (q 16)), (3, .int x3), (4, .int x4), (5, .int x5), (6, .int x6), (7, .int x7), (8, .int x8)] → W p l e (gRm 4) s m args below meth c H locs 0 0 (MQ below (va_Qv (fun (_ : Unit) => True) (gB G (fun (_ : Unit) => (wC q cI cJ cZ cB cT hh)) A) A) args s 0 0 A) (F0 m 64 ls []) := by
        intro n_64
        induction n_64 with
        | zero =>
          intro h x3 x4 x5 x6 x7 x8 hF
          exact absurd hF (by simp [f_X3_weighGoose_64])
        | succ n_64 ih_64 =>
          have hJ_133 : ∀ (h : HS) (x3 : Int32) (x4 : Int32) (x5 : Int32) (x6 : Int32) (x7 : Int32) (x8 : Int32) (x9 : Int32) (x10 : Int32) (y0 : Int32) (y1 : Int32), f_X3_weighGoose_133 (f_X3_weighGoose_3 n_3) (f_X3_weighGoose_64 (f_X3_weighGoose_3 n_3) n_64) h x3 x4 x5 x6 x7 x8 x9 x10 y0 y1 = some hh → ∀ (H : Heap) (locs : List Loc) (ls : Array Slot), va_P G vwCl (wC q cI cJ cZ cB cT h) H → va_D A (wC q cI cJ cZ cB cT h) → va_S A s.heap H locs → lv_has ls 11 [(0, .ref (q 23)), (1, .ref (q 1)), (2, .ref (q 16)), (3, .int x3), (4, .int x4), (5, .int x5), (6, .int x6), (7, .int x7), (8, .int x8), (9, .int x9), (10, .int x10)] → W p l e (gRm 4) s m args below meth c H locs 0 0 (MQ below (va_Qv (fun (_ : Unit) => True) (gB G (fun (_ : Unit) => (wC q cI cJ cZ cB cT hh)) A) A) args s 0 0 A) (F0 m 133 ls [.int y0, .int y1, .ref (q 24)]) := by
            intro h x3 x4 x5 x6 x7 x8 x9 x10 y0 y1 hF H locs ls hP hD hS hl
            unfold f_X3_weighGoose_133 at hF
            obtain ⟨hi_14, hF⟩ := ob_if hF
            refine va_iast (D := G) hx hb hK hP hD hS 24 0 wC_at24 rfl (vp_in_iff.mpr hi_14) dX3_weighGoose_133 (fun H locs hP hD hS => ?_)
            rw [wC_sA24] at hP hD
            have hP : va_P G vwCl (wC q cI cJ cZ cB cT (sA h 8 0 (upd (eA h 8 0) ((y1).toNatClampNeg) y0))) H := hP
            have hD : va_D A (wC q cI cJ cZ cB cT (sA h 8 0 (upd (eA h 8 0) ((y1).toNatClampNeg) y0))) := hD
            refine lv_aload_n hx hb dX3_weighGoose_134 rfl (lv_at hl 0 rfl) ?_
            refine va_get (D := G) (ci := 3) (v := .ref (q 25)) (C := RX3) (T := TX3) (N := 16) hx hb hts iX3 hown hK hP 23 wC_at23 rfl 1 (by decide) (hts _ m_491) (fun _ h9 => h9) rfl dX3_weighGoose_135 ?_
            refine lv_iload hx hb dX3_weighGoose_138 (lv_at hl 10 rfl) ?_
            refine lv_iload hx hb dX3_weighGoose_140 (lv_at hl 9 rfl) ?_
            refine lv_aload_n hx hb dX3_weighGoose_142 rfl (lv_at hl 2 rfl) ?_
            refine lv_aload_n hx hb dX3_weighGoose_143 rfl (lv_at hl 1 rfl) ?_
            refine lv_iconst (v := 1) hx hb dX3_weighGoose_144 (by decide) ?_
            obtain ⟨r_15, h_15, e_15, hF⟩ := ob2_some hF
            refine gx_calli (gx_runV (As := [.ref (q 1), .int 1]) (rest := [.int x9, .int x10, .ref (q 25)]) ⟨hx, hb, hml, hown, hts⟩ (c_X1_rule l G cI cJ cZ cB cT q (sA h 8 0 (upd (eA h 8 0) ((y1).toNatClampNeg) y0)) 1 r_15 h_15 e_15 H.size) (gG_V m_631 m_592 m_593 m_436 m_590) rfl e_X1_rule ⟨Nat.le_of_ble_eq_true rfl, Nat.le_of_ble_eq_true rfl⟩ hK hP hD hE hS hA 16 wC_at16 rfl rfl hl.1 rfl (Nat.le_of_ble_eq_true rfl) dX3_weighGoose_145 ⟨Nat.le_refl _, Nat.le_refl _⟩) hP hD hS hA (fun x_15 u_15 H locs hw_15 hP hD hS => ?_)
            subst x_15
            refine lv_imul hx hb dX3_weighGoose_148 ?_
            obtain ⟨hi_16, hF⟩ := ob_if hF
            refine va_iast (D := G) hx hb hK hP hD hS 25 0 wC_at25 rfl (vp_in_iff.mpr hi_16) dX3_weighGoose_149 (fun H locs hP hD hS => ?_)
            rw [wC_sA25] at hP hD
            have hP : va_P G vwCl (wC q cI cJ cZ cB cT (sA h_15 8 1 (upd (eA h_15 8 1) ((x10).toNatClampNeg) (x9 * r_15)))) H := hP
            have hD : va_D A (wC q cI cJ cZ cB cT (sA h_15 8 1 (upd (eA h_15 8 1) ((x10).toNatClampNeg) (x9 * r_15)))) := hD
            refine lv_aload_n hx hb dX3_weighGoose_150 rfl (lv_at hl 0 rfl) ?_
            refine va_get (D := G) (ci := 3) (v := .ref (q 24)) (C := RX3) (T := TX3) (N := 16) hx hb hts iX3 hown hK hP 23 wC_at23 rfl 0 (by decide) (hts _ m_481) (fun _ h9 => h9) rfl dX3_weighGoose_151 ?_
            refine lv_iload hx hb dX3_weighGoose_154 (lv_at hl 7 rfl) ?_
            refine lv_aload_n hx hb dX3_weighGoose_156 rfl (lv_at hl 0 rfl) ?_
            refine va_get (D := G) (ci := 3) (v := .ref (q 24)) (C := RX3) (T := TX3) (N := 16) hx hb hts iX3 hown hK hP 23 wC_at23 rfl 0 (by decide) (hts _ m_481) (fun _ h9 => h9) rfl dX3_weighGoose_157 ?_
            refine lv_iload hx hb dX3_weighGoose_160 (lv_at hl 7 rfl) ?_
            obtain ⟨hi_17, hF⟩ := ob_if hF
            refine va_iald (D := G) hx hb hK hP 24 0 wC_at24 rfl (vp_in_iff.mpr hi_17) dX3_weighGoose_162 ?_
            refine gw_topi (y := ((eA h_15 8 0) ((x7).toNatClampNeg))) rfl ?_
            refine lv_aload_n hx hb dX3_weighGoose_163 rfl (lv_at hl 0 rfl) ?_
            refine va_get (D := G) (ci := 3) (v := .ref (q 24)) (C := RX3) (T := TX3) (N := 16) hx hb hts iX3 hown hK hP 23 wC_at23 rfl 0 (by decide) (hts _ m_481) (fun _ h9 => h9) rfl dX3_weighGoose_164 ?_
            refine lv_iload hx hb dX3_weighGoose_167 (lv_at hl 10 rfl) ?_
            obtain ⟨hi_18, hF⟩ := ob_if hF
            refine va_iald (D := G) hx hb hK hP 24 0 wC_at24 rfl (vp_in_iff.mpr hi_18) dX3_weighGoose_169 ?_
            refine gw_topi (y := ((eA h_15 8 0) ((x10).toNatClampNeg))) rfl ?_
            refine va_mmax hx hb (by rw [hml]; exact hl.1.symm) hown (hts _ m_638) (hts _ m_49) (hts _ m_50) (hts _ m_51) (Nat.le_of_ble_eq_true rfl) (Nat.le_of_ble_eq_true rfl) (Nat.le_of_ble_eq_true rfl) (Nat.le_of_ble_eq_true rfl) dX3_weighGoose_170 ?_
            obtain ⟨hi_19, hF⟩ := ob_if hF
            refine va_iast (D := G) hx hb hK hP hD hS 24 0 wC_at24 rfl (vp_in_iff.mpr hi_19) dX3_weighGoose_173 (fun H locs hP hD hS => ?_)
            rw [wC_sA24] at hP hD
            have hP : va_P G vwCl (wC q cI cJ cZ cB cT (sA (sA h_15 8 1 (upd (eA h_15 8 1) ((x10).toNatClampNeg) (x9 * r_15))) 8 0 (upd (eA h_15 8 0) ((x7).toNatClampNeg) (if ((eA h_15 8 0) ((x7).toNatClampNeg)) < ((eA h_15 8 0) ((x10).toNatClampNeg)) then ((eA h_15 8 0) ((x10).toNatClampNeg)) else ((eA h_15 8 0) ((x7).toNatClampNeg)))))) H := hP
            have hD : va_D A (wC q cI cJ cZ cB cT (sA (sA h_15 8 1 (upd (eA h_15 8 1) ((x10).toNatClampNeg) (x9 * r_15))) 8 0 (upd (eA h_15 8 0) ((x7).toNatClampNeg) (if ((eA h_15 8 0) ((x7).toNatClampNeg)) < ((eA h_15 8 0) ((x10).toNatClampNeg)) then ((eA h_15 8 0) ((x10).toNatClampNeg)) else ((eA h_15 8 0) ((x7).toNatClampNeg)))))) := hD
            refine lv_aload_n hx hb dX3_weighGoose_174 rfl (lv_at hl 0 rfl) ?_
            refine va_get (D := G) (ci := 3) (v := .ref (q 25)) (C := RX3) (T := TX3) (N := 16) hx hb hts iX3 hown hK hP 23 wC_at23 rfl 1 (by decide) (hts _ m_491) (fun _ h9 => h9) rfl dX3_weighGoose_175 ?_
            refine lv_iload hx hb dX3_weighGoose_178 (lv_at hl 7 rfl) ?_
            refine lv_aload_n hx hb dX3_weighGoose_180 rfl (lv_at hl 0 rfl) ?_
            refine va_get (D := G) (ci := 3) (v := .ref (q 25)) (C := RX3) (T := TX3) (N := 16) hx hb hts iX3 hown hK hP 23 wC_at23 rfl 1 (by decide) (hts _ m_491) (fun _ h9 => h9) rfl dX3_weighGoose_181 ?_
            refine lv_iload hx hb dX3_weighGoose_184 (lv_at hl 7 rfl) ?_
            obtain ⟨hi_20, hF⟩ := ob_if hF
            refine va_iald (D := G) hx hb hK hP 25 0 wC_at25 rfl (vp_in_iff.mpr hi_20) dX3_weighGoose_186 ?_
            refine gw_topi (y := ((upd (eA h_15 8 1) ((x10).toNatClampNeg) (x9 * r_15)) ((x7).toNatClampNeg))) rfl ?_
            refine lv_aload_n hx hb dX3_weighGoose_187 rfl (lv_at hl 0 rfl) ?_
            refine va_get (D := G) (ci := 3) (v := .ref (q 25)) (C := RX3) (T := TX3) (N := 16) hx hb hts iX3 hown hK hP 23 wC_at23 rfl 1 (by decide) (hts _ m_491) (fun _ h9 => h9) rfl dX3_weighGoose_188 ?_
            refine lv_iload hx hb dX3_weighGoose_191 (lv_at hl 10 rfl) ?_
            obtain ⟨hi_21, hF⟩ := ob_if hF
            refine va_iald (D := G) hx hb hK hP 25 0 wC_at25 rfl (vp_in_iff.mpr hi_21) dX3_weighGoose_193 ?_
            refine gw_topi (y := ((upd (eA h_15 8 1) ((x10).toNatClampNeg) (x9 * r_15)) ((x10).toNatClampNeg))) rfl ?_
            refine va_mmin hx hb (by rw [hml]; exact hl.1.symm) hown (hts _ m_620) (hts _ m_53) (hts _ m_50) (hts _ m_54) (Nat.le_of_ble_eq_true rfl) (Nat.le_of_ble_eq_true rfl) (Nat.le_of_ble_eq_true rfl) (Nat.le_of_ble_eq_true rfl) dX3_weighGoose_194 ?_
            obtain ⟨hi_22, hF⟩ := ob_if hF
            refine va_iast (D := G) hx hb hK hP hD hS 25 0 wC_at25 rfl (vp_in_iff.mpr hi_22) dX3_weighGoose_197 (fun H locs hP hD hS => ?_)
            rw [wC_sA25] at hP hD
            have hP : va_P G vwCl (wC q cI cJ cZ cB cT (sA (sA (sA h_15 8 1 (upd (eA h_15 8 1) ((x10).toNatClampNeg) (x9 * r_15))) 8 0 (upd (eA h_15 8 0) ((x7).toNatClampNeg) (if ((eA h_15 8 0) ((x7).toNatClampNeg)) < ((eA h_15 8 0) ((x10).toNatClampNeg)) then ((eA h_15 8 0) ((x10).toNatClampNeg)) else ((eA h_15 8 0) ((x7).toNatClampNeg))))) 8 1 (upd (upd (eA h_15 8 1) ((x10).toNatClampNeg) (x9 * r_15)) ((x7).toNatClampNeg) (if ((upd (eA h_15 8 1) ((x10).toNatClampNeg) (x9 * r_15)) ((x10).toNatClampNeg)) < ((upd (eA h_15 8 1) ((x10).toNatClampNeg) (x9 * r_15)) ((x7).toNatClampNeg)) then ((upd (eA h_15 8 1) ((x10).toNatClampNeg) (x9 * r_15)) ((x10).toNatClampNeg)) else ((upd (eA h_15 8 1) ((x10).toNatClampNeg) (x9 * r_15)) ((x7).toNatClampNeg)))))) H := hP
            have hD : va_D A (wC q cI cJ cZ cB cT (sA (sA (sA h_15 8 1 (upd (eA h_15 8 1) ((x10).toNatClampNeg) (x9 * r_15))) 8 0 (upd (eA h_15 8 0) ((x7).toNatClampNeg) (if ((eA h_15 8 0) ((x7).toNatClampNeg)) < ((eA h_15 8 0) ((x10).toNatClampNeg)) then ((eA h_15 8 0) ((x10).toNatClampNeg)) else ((eA h_15 8 0) ((x7).toNatClampNeg))))) 8 1 (upd (upd (eA h_15 8 1) ((x10).toNatClampNeg) (x9 * r_15)) ((x7).toNatClampNeg) (if ((upd (eA h_15 8 1) ((x10).toNatClampNeg) (x9 * r_15)) ((x10).toNatClampNeg)) < ((upd (eA h_15 8 1) ((x10).toNatClampNeg) (x9 * r_15)) ((x7).toNatClampNeg)) then ((upd (eA h_15 8 1) ((x10).toNatClampNeg) (x9 * r_15)) ((x10).toNatClampNeg)) else ((upd (eA h_15 8 1) ((x10).toNatClampNeg) (x9 * r_15)) ((x7).toNatClampNeg)))))) := hD
            refine lv_iinc (v := (x8 + 1)) (lv' := [(8, .int (x8 + 1)), (0, .ref (q 23)), (1, .ref (q 1)), (2, .ref (q 16)), (3, .int x3), (4, .int x4), (5, .int x5), (6, .int x6), (7, .int x7), (9, .int x9), (10, .int x10)]) hx hb dX3_weighGoose_198 hl (k := 8) rfl rfl (by decide) rfl (fun ls hl => ?_)
            refine lv_goto (tgt := 64) hx hb dX3_weighGoose_201 (by decide) ?_
            exact ih_64 (sA (sA (sA h_15 8 1 (upd (eA h_15 8 1) ((x10).toNatClampNeg) (x9 * r_15))) 8 0 (upd (eA h_15 8 0) ((x7).toNatClampNeg) (if ((eA h_15 8 0) ((x7).toNatClampNeg)) < ((eA h_15 8 0) ((x10).toNatClampNeg)) then ((eA h_15 8 0) ((x10).toNatClampNeg)) else ((eA h_15 8 0) ((x7).toNatClampNeg))))) 8 1 (upd (upd (eA h_15 8 1) ((x10).toNatClampNeg) (x9 * r_15)) ((x7).toNatClampNeg) (if ((upd (eA h_15 8 1) ((x10).toNatClampNeg) (x9 * r_15)) ((x10).toNatClampNeg)) < ((upd (eA h_15 8 1) ((x10).toNatClampNeg) (x9 * r_15)) ((x7).toNatClampNeg)) then ((upd (eA h_15 8 1) ((x10).toNatClampNeg) (x9 * r_15)) ((x10).toNatClampNeg)) else ((upd (eA h_15 8 1) ((x10).toNatClampNeg) (x9 * r_15)) ((x7).toNatClampNeg))))) x3 x4 x5 x6 x7 (x8 + 1) hF H _ ls hP hD hS (lv_sub hl [1, 2, 3, 4, 5, 6, 7, 8, 0] rfl)
          intro h x3 x4 x5 x6 x7 x8 hF H locs ls hP hD hS hl
          rw [f_X3_weighGoose_64_s] at hF
          refine lv_iload hx hb dX3_weighGoose_64 (lv_at hl 8 rfl) ?_
          refine lv_aload_n hx hb dX3_weighGoose_66 rfl (lv_at hl 0 rfl) ?_
          refine va_get (D := G) (ci := 3) (v := .int (eI h 8 11)) (C := RX3) (T := TX3) (N := 16) hx hb hts iX3 hown hK hP 23 wC_at23 rfl 11 (by decide) (hts _ m_613) (fun _ h9 => h9) rfl dX3_weighGoose_67 ?_
          refine lv_icmp_ge (tgt := 204) hx hb dX3_weighGoose_70 (by decide) (fun c_8 => ?_) (fun c_8 => ?_)
          · have hF := ob_pos c_8 hF
            refine lv_iinc (v := (x5 + 1)) (lv' := [(5, .int (x5 + 1)), (0, .ref (q 23)), (1, .ref (q 1)), (2, .ref (q 16)), (3, .int x3), (4, .int x4), (6, .int x6), (7, .int x7), (8, .int x8)]) hx hb dX3_weighGoose_204 hl (k := 5) rfl rfl (by decide) rfl (fun ls hl => ?_)
            refine lv_goto (tgt := 3) hx hb dX3_weighGoose_207 (by decide) ?_
            exact ih_3 h x3 x4 (x5 + 1) hF H _ ls hP hD hS (lv_sub hl [1, 2, 3, 4, 5, 0] rfl)
          · have hF := ob_neg c_8 hF
            refine lv_aload_n hx hb dX3_weighGoose_73 rfl (lv_at hl 2 rfl) ?_
            refine lv_aload_n hx hb dX3_weighGoose_74 rfl (lv_at hl 1 rfl) ?_
            refine lv_iload hx hb dX3_weighGoose_75 (lv_at hl 8 rfl) ?_
            refine lv_aload_n hx hb dX3_weighGoose_77 rfl (lv_at hl 1 rfl) ?_
            refine va_get (D := G) (ci := 4) (v := .int (eI h 1 7)) (C := RX4) (T := TX4) (N := 13) hx hb hts iX4 hown hK hP 1 wC_at1 rfl 7 (by decide) (hts _ m_635) (fun _ h9 => h9) rfl dX3_weighGoose_78 ?_
            refine lv_aload_n hx hb dX3_weighGoose_81 rfl (lv_at hl 1 rfl) ?_
            refine lv_iload hx hb dX3_weighGoose_82 (lv_at hl 8 rfl) ?_
            refine lv_iconst (v := 0) hx hb dX3_weighGoose_84 (by decide) ?_
            obtain ⟨r_9, h_9, e_9, hF⟩ := ob2_some hF
            refine gx_calli (gx_runV (As := [.int x8, .int 0]) (rest := [.int (eI h 1 7), .int x8, .ref (q 1), .ref (q 16)]) ⟨hx, hb, hml, hown, hts⟩ (c_X4_ofMarket l G cI cJ cZ cB cT q h x8 0 r_9 h_9 e_9 H.size) (gG_V m_636 m_453 m_454 m_7 m_451) rfl e_X4_ofMarket ⟨Nat.le_of_ble_eq_true rfl, Nat.le_of_ble_eq_true rfl⟩ hK hP hD hE hS hA 1 wC_at1 rfl rfl hl.1 rfl (Nat.le_of_ble_eq_true rfl) dX3_weighGoose_85 ⟨Nat.le_refl _, Nat.le_refl _⟩) hP hD hS hA (fun x_9 u_9 H locs hw_9 hP hD hS => ?_)
            subst x_9
            refine lv_iadd hx hb dX3_weighGoose_88 ?_
            obtain ⟨h_10, e_10, hF⟩ := ob1_some hF
            refine gx_callv (gx_runV (As := [.ref (q 1), .int x8, .int ((eI h 1 7) + r_9)]) (rest := []) ⟨hx, hb, hml, hown, hts⟩ (c_X1_lookAtMarket l G cI cJ cZ cB cT q h_9 x8 ((eI h 1 7) + r_9) h_10 e_10 H.size) (gG_V m_637 m_457 m_458 m_436 m_455) rfl e_X1_lookAtMarket ⟨Nat.le_of_ble_eq_true rfl, Nat.le_of_ble_eq_true rfl⟩ hK hP hD hE hS hA 16 wC_at16 rfl rfl hl.1 rfl (Nat.le_of_ble_eq_true rfl) dX3_weighGoose_89 ⟨Nat.le_refl _, Nat.le_refl _⟩) hP hD hS hA (fun u_10 H locs hw_10 hP hD hS => ?_)
            refine lv_aload_n hx hb dX3_weighGoose_92 rfl (lv_at hl 2 rfl) ?_
            refine lv_aload_n hx hb dX3_weighGoose_93 rfl (lv_at hl 1 rfl) ?_
            refine lv_iconst (v := 0) hx hb dX3_weighGoose_94 (by decide) ?_
            obtain ⟨r_11, h_11, e_11, hF⟩ := ob2_some hF
            refine gx_calli (gx_runV (As := [.ref (q 1), .int 0]) (rest := []) ⟨hx, hb, hml, hown, hts⟩ (c_X1_rule l G cI cJ cZ cB cT q h_10 0 r_11 h_11 e_11 H.size) (gG_V m_631 m_592 m_593 m_436 m_590) rfl e_X1_rule ⟨Nat.le_of_ble_eq_true rfl, Nat.le_of_ble_eq_true rfl⟩ hK hP hD hE hS hA 16 wC_at16 rfl rfl hl.1 rfl (Nat.le_of_ble_eq_true rfl) dX3_weighGoose_95 ⟨Nat.le_refl _, Nat.le_refl _⟩) hP hD hS hA (fun x_11 u_11 H locs hw_11 hP hD hS => ?_)
            subst x_11
            refine lv_istore (lv' := [(9, .int r_11), (0, .ref (q 23)), (1, .ref (q 1)), (2, .ref (q 16)), (3, .int x3), (4, .int x4), (5, .int x5), (6, .int x6), (7, .int x7), (8, .int x8)]) hx hb dX3_weighGoose_98 hl (by decide) rfl (fun ls hl => ?_)
            refine lv_iload_n hx hb dX3_weighGoose_100 rfl (lv_at hl 4 rfl) ?_
            refine lv_iload hx hb dX3_weighGoose_101 (lv_at hl 6 rfl) ?_
            refine lv_iload hx hb dX3_weighGoose_103 (lv_at hl 9 rfl) ?_
            obtain ⟨r_12, e_12, hF⟩ := ob1_some hF
            refine gx_calli0 (gx_runS0 (As := [.int x3, .int x5, .int x8]) (rest := []) ⟨hx, hb, hml, hown, hts⟩ (c_X3_cell l G cI cJ cZ cB cT   x3 x5 x8 r_12 e_12 H.size) (gG_S m_633 m_634 m_486 m_632) rfl e_X3_cell ⟨Nat.le_of_ble_eq_true rfl, Nat.le_of_ble_eq_true rfl⟩ hK hE hS hA rfl hl.1 rfl (Nat.le_of_ble_eq_true rfl) dX3_weighGoose_105 ⟨Nat.le_refl _, Nat.le_refl _⟩) hP hD hS hA (fun x_12 u_12 H locs hw_12 hP hD hS => ?_)
            subst x_12
            refine lv_istore (lv' := [(10, .int r_12), (9, .int r_11), (0, .ref (q 23)), (1, .ref (q 1)), (2, .ref (q 16)), (3, .int x3), (4, .int x4), (5, .int x5), (6, .int x6), (7, .int x7), (8, .int x8)]) hx hb dX3_weighGoose_108 hl (by decide) rfl (fun ls hl => ?_)
            refine lv_aload_n hx hb dX3_weighGoose_110 rfl (lv_at hl 2 rfl) ?_
            refine va_get (D := G) (ci := 3) (v := .ref (q 24)) (C := RX3) (T := TX3) (N := 16) hx hb hts iX3 hown hK hP 23 wC_at23 rfl 0 (by decide) (hts _ m_481) (fun _ h9 => h9) rfl dX3_weighGoose_111 ?_
            refine lv_iload hx hb dX3_weighGoose_114 (lv_at hl 0 rfl) ?_
            refine lv_iload hx hb dX3_weighGoose_116 (lv_at hl 8 rfl) ?_
            refine lv_if_eq (tgt := 132) hx hb dX3_weighGoose_118 (by decide) (fun c_13 => ?_) (fun c_13 => ?_)
            · have hF := ob_pos c_13 hF
              refine lv_iconst (v := 0) hx hb dX3_weighGoose_132 (by decide) ?_
              exact hJ_133 h_11 x3 x4 x5 x6 x7 x8 r_11 r_12 0 r_12 hF H _ ls hP hD hS (lv_sub hl [2, 3, 4, 5, 6, 7, 8, 9, 10, 1, 0] rfl)
            · have hF := ob_neg c_13 hF
              refine lv_bipush (v := 10) hx hb dX3_weighGoose_121 (by decide) ?_
              refine lv_iload hx hb dX3_weighGoose_123 (lv_at hl 1 rfl) ?_
              refine lv_isub hx hb dX3_weighGoose_125 ?_
              refine lv_bipush (v := 10) hx hb dX3_weighGoose_126 (by decide) ?_
              refine lv_imul hx hb dX3_weighGoose_128 ?_
              refine lv_goto (tgt := 133) hx hb dX3_weighGoose_129 (by decide) ?_
              exact hJ_133 h_11 x3 x4 x5 x6 x7 x8 r_11 r_12 ((10 - r_11) * 10) r_12 hF H _ ls hP hD hS (lv_sub hl [2, 3, 4, 5, 6, 7, 8, 9, 10, 1, 0] rfl)
      have hJ_33 : ∀ (h : HS) (x3 : Int32) (x4 : Int32) (x5 : Int32) (y0 : Int32), f_X3_weighGoose_33 (f_X3_weighGoose_3 n_3) h x3 x4 x5 y0 = some hh → ∀ (H : Heap) (locs : List Loc) (ls : Array Slot), va_P G vwCl (wC q cI cJ cZ cB cT h) H → va_D A (wC q cI cJ cZ cB cT h) → va_S A s.heap H locs → lv_has ls 11 [(0, .ref (q 23)), (1, .ref (q 1)), (2, .ref (q 16)), (3, .int x3), (4, .int x4), (5, .int x5)] → W p l e (gRm 4) s m args below meth c H locs 0 0 (MQ below (va_Qv (fun (_ : Unit) => True) (gB G (fun (_ : Unit) => (wC q cI cJ cZ cB cT hh)) A) A) args s 0 0 A) (F0 m 33 ls [.int y0]) := by
        intro h x3 x4 x5 y0 hF H locs ls hP hD hS hl
        unfold f_X3_weighGoose_33 at hF
        refine lv_istore (lv' := [(6, .int y0), (0, .ref (q 23)), (1, .ref (q 1)), (2, .ref (q 16)), (3, .int x3), (4, .int x4), (5, .int x5)]) hx hb dX3_weighGoose_33 hl (by decide) rfl (fun ls hl => ?_)
        refine lv_iload_n hx hb dX3_weighGoose_35 rfl (lv_at hl 4 rfl) ?_
        refine lv_iload hx hb dX3_weighGoose_36 (lv_at hl 6 rfl) ?_
        refine lv_iconst (v := 4) hx hb dX3_weighGoose_38 (by decide) ?_
        obtain ⟨r_5, e_5, hF⟩ := ob1_some hF
        refine gx_calli0 (gx_runS0 (As := [.int x3, .int x5, .int 4]) (rest := []) ⟨hx, hb, hml, hown, hts⟩ (c_X3_cell l G cI cJ cZ cB cT   x3 x5 4 r_5 e_5 H.size) (gG_S m_633 m_634 m_486 m_632) rfl e_X3_cell ⟨Nat.le_of_ble_eq_true rfl, Nat.le_of_ble_eq_true rfl⟩ hK hE hS hA rfl hl.1 rfl (Nat.le_of_ble_eq_true rfl) dX3_weighGoose_39 ⟨Nat.le_refl _, Nat.le_refl _⟩) hP hD hS hA (fun x_5 u_5 H locs hw_5 hP hD hS => ?_)
        subst x_5
        refine lv_istore (lv' := [(7, .int r_5), (6, .int y0), (0, .ref (q 23)), (1, .ref (q 1)), (2, .ref (q 16)), (3, .int x3), (4, .int x4), (5, .int x5)]) hx hb dX3_weighGoose_42 hl (by decide) rfl (fun ls hl => ?_)
        refine lv_aload_n hx hb dX3_weighGoose_44 rfl (lv_at hl 2 rfl) ?_
        refine va_get (D := G) (ci := 3) (v := .ref (q 24)) (C := RX3) (T := TX3) (N := 16) hx hb hts iX3 hown hK hP 23 wC_at23 rfl 0 (by decide) (hts _ m_481) (fun _ h9 => h9) rfl dX3_weighGoose_45 ?_
        refine lv_iload hx hb dX3_weighGoose_48 (lv_at hl 0 rfl) ?_
        refine lv_iconst (v := 0) hx hb dX3_weighGoose_50 (by decide) ?_
        obtain ⟨hi_6, hF⟩ := ob_if hF
        refine va_iast (D := G) hx hb hK hP hD hS 24 0 wC_at24 rfl (vp_in_iff.mpr hi_6) dX3_weighGoose_51 (fun H locs hP hD hS => ?_)
        rw [wC_sA24] at hP hD
        have hP : va_P G vwCl (wC q cI cJ cZ cB cT (sA h 8 0 (upd (eA h 8 0) ((r_5).toNatClampNeg) 0))) H := hP
        have hD : va_D A (wC q cI cJ cZ cB cT (sA h 8 0 (upd (eA h 8 0) ((r_5).toNatClampNeg) 0))) := hD
        refine lv_aload_n hx hb dX3_weighGoose_52 rfl (lv_at hl 2 rfl) ?_
        refine va_get (D := G) (ci := 3) (v := .ref (q 25)) (C := RX3) (T := TX3) (N := 16) hx hb hts iX3 hown hK hP 23 wC_at23 rfl 1 (by decide) (hts _ m_491) (fun _ h9 => h9) rfl dX3_weighGoose_53 ?_
        refine lv_iload hx hb dX3_weighGoose_56 (lv_at hl 0 rfl) ?_
        refine lv_bipush (v := 100) hx hb dX3_weighGoose_58 (by decide) ?_
        obtain ⟨hi_7, hF⟩ := ob_if hF
        refine va_iast (D := G) hx hb hK hP hD hS 25 0 wC_at25 rfl (vp_in_iff.mpr hi_7) dX3_weighGoose_60 (fun H locs hP hD hS => ?_)
        rw [wC_sA25] at hP hD
        have hP : va_P G vwCl (wC q cI cJ cZ cB cT (sA (sA h 8 0 (upd (eA h 8 0) ((r_5).toNatClampNeg) 0)) 8 1 (upd (eA h 8 1) ((r_5).toNatClampNeg) 100))) H := hP
        have hD : va_D A (wC q cI cJ cZ cB cT (sA (sA h 8 0 (upd (eA h 8 0) ((r_5).toNatClampNeg) 0)) 8 1 (upd (eA h 8 1) ((r_5).toNatClampNeg) 100))) := hD
        refine lv_iconst (v := 0) hx hb dX3_weighGoose_61 (by decide) ?_
        refine lv_istore (lv' := [(8, .int 0), (7, .int r_5), (6, .int y0), (0, .ref (q 23)), (1, .ref (q 1)), (2, .ref (q 16)), (3, .int x3), (4, .int x4), (5, .int x5)]) hx hb dX3_weighGoose_62 hl (by decide) rfl (fun ls hl => ?_)
        exact hJ_64 8589934592 (sA (sA h 8 0 (upd (eA h 8 0) ((r_5).toNatClampNeg) 0)) 8 1 (upd (eA h 8 1) ((r_5).toNatClampNeg) 100)) x3 x4 x5 y0 r_5 0 hF H _ ls hP hD hS (lv_sub hl [3, 4, 5, 6, 7, 8, 2, 1, 0] rfl)
      intro h x3 x4 x5 hF H locs ls hP hD hS hl
      rw [f_X3_weighGoose_3_s] at hF
      refine lv_iload hx hb dX3_weighGoose_3 (lv_at hl 5 rfl) ?_
      refine lv_iconst (v := 3) hx hb dX3_weighGoose_5 (by decide) ?_
      refine lv_icmp_ge (tgt := 210) hx hb dX3_weighGoose_6 (by decide) (fun c_1 => ?_) (fun c_1 => ?_)
      · have hF := ob_pos c_1 hF
        obtain rfl := ob_one hF
        exact gw_vret () hx hb hr hlocks hP hD hS trivial dX3_weighGoose_210
      · have hF := ob_neg c_1 hF
        refine lv_aload_n hx hb dX3_weighGoose_9 rfl (lv_at hl 2 rfl) ?_
        refine lv_aload_n hx hb dX3_weighGoose_10 rfl (lv_at hl 1 rfl) ?_
        refine lv_iload_n hx hb dX3_weighGoose_11 rfl (lv_at hl 3 rfl) ?_
        refine lv_iload hx hb dX3_weighGoose_12 (lv_at hl 4 rfl) ?_
        refine lv_iload hx hb dX3_weighGoose_14 (lv_at hl 5 rfl) ?_
        obtain ⟨h_2, e_2, hF⟩ := ob1_some hF
        refine gx_callv (gx_runV (As := [.ref (q 1), .int x3, .int x4, .int x5]) (rest := []) ⟨hx, hb, hml, hown, hts⟩ (c_X1_lookAtFilled l G cI cJ cZ cB cT q h x3 x4 x5 h_2 e_2 H.size) (gG_V m_630 m_588 m_589 m_436 m_586) rfl e_X1_lookAtFilled ⟨Nat.le_of_ble_eq_true rfl, Nat.le_of_ble_eq_true rfl⟩ hK hP hD hE hS hA 16 wC_at16 rfl rfl hl.1 rfl (Nat.le_of_ble_eq_true rfl) dX3_weighGoose_16 ⟨Nat.le_refl _, Nat.le_refl _⟩) hP hD hS hA (fun u_2 H locs hw_2 hP hD hS => ?_)
        refine lv_aload_n hx hb dX3_weighGoose_19 rfl (lv_at hl 2 rfl) ?_
        refine lv_aload_n hx hb dX3_weighGoose_20 rfl (lv_at hl 1 rfl) ?_
        refine lv_iconst (v := 3) hx hb dX3_weighGoose_21 (by decide) ?_
        obtain ⟨r_3, h_3, e_3, hF⟩ := ob2_some hF
        refine gx_calli (gx_runV (As := [.ref (q 1), .int 3]) (rest := []) ⟨hx, hb, hml, hown, hts⟩ (c_X1_rule l G cI cJ cZ cB cT q h_2 3 r_3 h_3 e_3 H.size) (gG_V m_631 m_592 m_593 m_436 m_590) rfl e_X1_rule ⟨Nat.le_of_ble_eq_true rfl, Nat.le_of_ble_eq_true rfl⟩ hK hP hD hE hS hA 16 wC_at16 rfl rfl hl.1 rfl (Nat.le_of_ble_eq_true rfl) dX3_weighGoose_22 ⟨Nat.le_refl _, Nat.le_refl _⟩) hP hD hS hA (fun x_3 u_3 H locs hw_3 hP hD hS => ?_)
        subst x_3
        refine lv_if_eq (tgt := 32) hx hb dX3_weighGoose_25 (by decide) (fun c_4 => ?_) (fun c_4 => ?_)
        · have hF := ob_pos c_4 hF
          refine lv_iconst (v := 0) hx hb dX3_weighGoose_32 (by decide) ?_
          exact hJ_33 h_3 x3 x4 x5 0 hF H _ ls hP hD hS (lv_sub hl [0, 1, 2, 3, 4, 5] rfl)
        · have hF := ob_neg c_4 hF
          refine lv_iconst (v := 1) hx hb dX3_weighGoose_28 (by decide) ?_
          refine lv_goto (tgt := 33) hx hb dX3_weighGoose_29 (by decide) ?_
          exact hJ_33 h_3 x3 x4 x5 1 hF H _ ls hP hD hS (lv_sub hl [0, 1, 2, 3, 4, 5] rfl)
  unfold f_X3_weighGoose at hF
  refine lv_iconst (v := 0) hx hb dX3_weighGoose_0 (by decide) ?_
  refine lv_istore (lv' := [(5, .int 0), (0, .ref (q 23)), (1, .ref (q 1)), (2, .ref (q 16)), (3, .int p1), (4, .int p2)]) hx hb dX3_weighGoose_1 hl (by decide) rfl (fun ls hl => ?_)
  exact hJ_3 8589934592 h p1 p2 0 hF H _ ls hP hD hS (lv_sub hl [1, 2, 3, 4, 5, 0] rfl)
def f_X3_fewest_98 : Nat → HS → Int32 → Option (Int32 × HS)
  | 0, _, _ => none
  | n + 1, h, x5 => (if 3 < x5 then (some (0, h)) else (ob1 (G_tryGeese 6 0 (sL (sI h 8 8 x5) 8 9 ((eL h 8 9) * 100)) 0 0) (fun h_7 => (if (eI h_7 8 12) = 0 then ((f_X3_fewest_98 n) h_7 (x5 + 1)) else (some ((eI h_7 8 8), h_7))))))
theorem f_X3_fewest_98_s (n : Nat) (h : HS) (x5 : Int32) : f_X3_fewest_98 (n + 1) h x5 = (if 3 < x5 then (some (0, h)) else (ob1 (G_tryGeese 6 0 (sL (sI h 8 8 x5) 8 9 ((eL h 8 9) * 100)) 0 0) (fun h_7 => (if (eI h_7 8 12) = 0 then ((f_X3_fewest_98 n) h_7 (x5 + 1)) else (some ((eI h_7 8 8), h_7)))))) := rfl
def f_X3_fewest_89 (k31 : HS → Int32 → Int32 → Option (Int32 × HS)) (h : HS) (x3 : Int32) (x5 : Int32) : Option (Int32 × HS) := (k31 h x3 (x5 + 1))
def f_X3_fewest_69 (k31 : HS → Int32 → Int32 → Option (Int32 × HS)) (h : HS) (x3 : Int32) (x5 : Int32) (y0 : Int32) (y1 : Int32) : Option (Int32 × HS) := (if 0 ≤ (y1).toInt ∧ (y1).toInt < 10 then (if 0 ≤ (x5).toInt ∧ (x5).toInt < 10 then (if ((upd (eA h 8 2) ((y1).toNatClampNeg) (vp_nar .boolean y0)) ((x5).toNatClampNeg)) = 0 then (f_X3_fewest_89 k31 (sA h 8 2 (upd (eA h 8 2) ((y1).toNatClampNeg) (vp_nar .boolean y0))) x3 x5) else (ob1 (f_X3_weighGoose (sA h 8 2 (upd (eA h 8 2) ((y1).toNatClampNeg) (vp_nar .boolean y0))) x5 x3) (fun h_12 => (f_X3_fewest_89 k31 h_12 x3 x5)))) else none) else none)
def f_X3_fewest_68 (k31 : HS → Int32 → Int32 → Option (Int32 × HS)) (h : HS) (x3 : Int32) (x5 : Int32) (y0 : Int32) : Option (Int32 × HS) := (f_X3_fewest_69 k31 h x3 x5 0 y0)
def f_X3_fewest_31 : Nat → HS → Int32 → Int32 → Option (Int32 × HS)
  | 0, _, _, _ => none
  | n + 1, h, x3, x5 => (if 10 ≤ x5 then (f_X3_fewest_98 8589934592 h 1) else (ob2 (f_X4_isFree h x5) (fun r_2 h_2 => (if r_2 = 0 then (f_X3_fewest_68 (f_X3_fewest_31 n) h_2 x3 x5 x5) else (ob2 (f_X4_ofGoose h_2 x5 2) (fun r_4 h_4 => (if r_4 = (-1) then (f_X3_fewest_69 (f_X3_fewest_31 n) h_4 x3 x5 1 x5) else (f_X3_fewest_68 (f_X3_fewest_31 n) h_4 x3 x5 x5))))))))
theorem f_X3_fewest_31_s (n : Nat) (h : HS) (x3 : Int32) (x5 : Int32) : f_X3_fewest_31 (n + 1) h x3 x5 = (if 10 ≤ x5 then (f_X3_fewest_98 8589934592 h 1) else (ob2 (f_X4_isFree h x5) (fun r_2 h_2 => (if r_2 = 0 then (f_X3_fewest_68 (f_X3_fewest_31 n) h_2 x3 x5 x5) else (ob2 (f_X4_ofGoose h_2 x5 2) (fun r_4 h_4 => (if r_4 = (-1) then (f_X3_fewest_69 (f_X3_fewest_31 n) h_4 x3 x5 1 x5) else (f_X3_fewest_68 (f_X3_fewest_31 n) h_4 x3 x5 x5)))))))) := rfl
def f_X3_fewest (h : HS) (p1 : Int32) (p2 : Int32) : Option (Int32 × HS) := (f_X3_fewest_31 8589934592 (sI (sI (sL (sI h 8 10 p2) 8 9 1) 8 12 0) 8 11 (if (eI h 1 4) < 4 then (eI h 1 4) else 4)) p1 0)
theorem e_X3_weighGoose : yX3_weighGoose.cls = RX3 ∧ yX3_weighGoose.cls ≠ "java/lang/invoke/MethodHandle" ∧ yX3_weighGoose.cls ≠ "java/lang/invoke/VarHandle" ∧ (parseMethodDescriptor yX3_weighGoose.desc).map (fun d => d.parameters.length) = some 4 := by decide +kernel
set_option maxHeartbeats 4000000 in
set_option maxRecDepth 100000 in
theorem c_X3_fewest (l : Launch) (G : va_G) (cI cJ cZ cB cT : ClassId) (q : Nat → Nat) (h : HS) (p1 : Int32) (p2 : Int32) (rr : Int32) (hh : HS) (hF : f_X3_fewest h p1 p2 = some (rr, hh)) : gMi l yX3_fewest (gws yX3_fewest cX3_fewest 6 (some .int)) 18 G (gT cI cJ cZ cB cT) [.ref (q 23), .ref (q 1), .ref (q 16), .int p1, .int p2] (wC q cI cJ cZ cB cT h) (fun x (_ : Unit) => x = rr) (fun (_ : Unit) => (wC q cI cJ cZ cB cT hh)) := by
  intro sz
  refine gM_start (y := yX3_fewest) (av := [.ref (q 23), .ref (q 1), .ref (q 16), .int p1, .int p2]) (ws := (wC q cI cJ cZ cB cT h)) (Qf := fun A => va_Qi (fun x (_ : Unit) => x = rr) (gB G (fun (_ : Unit) => (wC q cI cJ cZ cB cT hh)) A) A) (cc := cX3_fewest) (maxL := 6) (ret := (some .int)) (by decide) (Nat.le_of_ble_eq_true rfl) ?_
  intro p e s m args below meth c A ls H hx hb hr hts hown hin hlocks hml hP hK hD hA hS hl hE
  have hl : lv_has ls 6 [(0, .ref (q 23)), (1, .ref (q 1)), (2, .ref (q 16)), (3, .int p1), (4, .int p2)] := hl
  have hJ_98 : ∀ (n_98 : Nat) (h : HS) (x5 : Int32), f_X3_fewest_98 n_98 h x5 = some (rr, hh) → ∀ (H : Heap) (locs : List Loc) (ls : Array Slot), va_P G vwCl (wC q cI cJ cZ cB cT h) H → va_D A (wC q cI cJ cZ cB cT h) → va_S A s.heap H locs → lv_has ls 6 [(0, .ref (q 23)), (5, .int x5)] → W p l e (gRm 18) s m args below meth c H locs 0 0 (MQ below (va_Qi (fun x (_ : Unit) => x = rr) (gB G (fun (_ : Unit) => (wC q cI cJ cZ cB cT hh)) A) A) args s 0 0 A) (F0 m 98 ls []) := by
    intro n_98
    induction n_98 with
    | zero =>
      intro h x5 hF
      exact absurd hF (by simp [f_X3_fewest_98])
    | succ n_98 ih_98 =>
      intro h x5 hF H locs ls hP hD hS hl
      rw [f_X3_fewest_98_s] at hF
      refine lv_iload hx hb dX3_fewest_98 (lv_at hl 1 rfl) ?_
      refine lv_iconst (v := 3) hx hb dX3_fewest_100 (by decide) ?_
      refine lv_icmp_gt (tgt := 146) hx hb dX3_fewest_101 (by decide) (fun c_6 => ?_) (fun c_6 => ?_)
      · have hF := ob_pos c_6 hF
        refine lv_iconst (v := 0) hx hb dX3_fewest_146 (by decide) ?_
        obtain ⟨rfl, rfl⟩ := ob_pair hF
        exact gw_iret () hx hb hr hlocks hP hD hS rfl dX3_fewest_147
      · have hF := ob_neg c_6 hF
        refine lv_aload_n hx hb dX3_fewest_104 rfl (lv_at hl 0 rfl) ?_
        refine lv_iload hx hb dX3_fewest_105 (lv_at hl 1 rfl) ?_
        refine va_put (D := G) (ci := 3) (v := .int x5) (ty := .int) (C := RX3) (T := TX3) (N := 16) hx hb hts iX3 tyX3 tyX3_ok nmX3 hown hK hP hD hS 23 wC_at23 rfl 8 (by decide) (hts _ m_475) (fun _ h9 => h9) rfl (tyX3_ok 8 (by decide)) rfl rfl (Nat.le_of_ble_eq_true rfl) dX3_fewest_107 (fun H locs hP hD hS => ?_)
        rw [wC_sI23_8] at hP hD
        refine lv_aload_n hx hb dX3_fewest_110 rfl (lv_at hl 0 rfl) ?_
        refine lv_dup hx hb dX3_fewest_111 rfl ?_
        refine va_get (D := G) (ci := 3) (v := .long (eL h 8 9)) (C := RX3) (T := TX3) (N := 16) hx hb hts iX3 hown hK hP 23 wC_at23 rfl 9 (by decide) (hts _ m_468) (fun _ h9 => h9) rfl dX3_fewest_112 ?_
        refine lv_ldc2 (v := 100) hx hb hown (hts _ m_469) dX3_fewest_115 ?_
        refine lv_lmul hx hb dX3_fewest_118 ?_
        refine va_put (D := G) (ci := 3) (v := .long ((eL h 8 9) * 100)) (ty := .long) (C := RX3) (T := TX3) (N := 16) hx hb hts iX3 tyX3 tyX3_ok nmX3 hown hK hP hD hS 23 wC_at23 rfl 9 (by decide) (hts _ m_468) (fun _ h9 => h9) rfl (tyX3_ok 9 (by decide)) rfl rfl (Nat.le_of_ble_eq_true rfl) dX3_fewest_119 (fun H locs hP hD hS => ?_)
        rw [wC_sI23_9] at hP hD
        refine lv_aload_n hx hb dX3_fewest_122 rfl (lv_at hl 0 rfl) ?_
        refine lv_iconst (v := 0) hx hb dX3_fewest_123 (by decide) ?_
        refine lv_iconst (v := 0) hx hb dX3_fewest_124 (by decide) ?_
        obtain ⟨h_7, e_7, hF⟩ := ob1_some hF
        refine gx_callv (gx_runV (As := [.int 0, .int 0]) (rest := []) ⟨hx, hb, hml, hown, hts⟩ ((c_G_tryGeese l G cI cJ cZ cB cT q 6) (sL (sI h 8 8 x5) 8 9 ((eL h 8 9) * 100)) 0 0 h_7 e_7 H.size) (gG_V m_626 m_627 m_628 m_486 m_629) rfl e_X3_tryGeese ⟨Nat.le_of_ble_eq_true rfl, Nat.le_of_ble_eq_true rfl⟩ hK hP hD hE hS hA 23 wC_at23 rfl rfl hl.1 rfl (Nat.le_of_ble_eq_true rfl) dX3_fewest_125 ⟨Nat.le_refl _, Nat.le_refl _⟩) hP hD hS hA (fun u_7 H locs hw_7 hP hD hS => ?_)
        refine lv_aload_n hx hb dX3_fewest_128 rfl (lv_at hl 0 rfl) ?_
        refine va_get (D := G) (ci := 3) (v := .int (eI h_7 8 12)) (C := RX3) (T := TX3) (N := 16) hx hb hts iX3 hown hK hP 23 wC_at23 rfl 12 (by decide) (hts _ m_471) (fun _ h9 => h9) rfl dX3_fewest_129 ?_
        refine lv_if_eq (tgt := 140) hx hb dX3_fewest_132 (by decide) (fun c_8 => ?_) (fun c_8 => ?_)
        · have hF := ob_pos c_8 hF
          refine lv_iinc (v := (x5 + 1)) (lv' := [(5, .int (x5 + 1)), (0, .ref (q 23))]) hx hb dX3_fewest_140 hl (k := 1) rfl rfl (by decide) rfl (fun ls hl => ?_)
          refine lv_goto (tgt := 98) hx hb dX3_fewest_143 (by decide) ?_
          exact ih_98 h_7 (x5 + 1) hF H _ ls hP hD hS (lv_sub hl [1, 0] rfl)
        · have hF := ob_neg c_8 hF
          refine lv_aload_n hx hb dX3_fewest_135 rfl (lv_at hl 0 rfl) ?_
          refine va_get (D := G) (ci := 3) (v := .int (eI h_7 8 8)) (C := RX3) (T := TX3) (N := 16) hx hb hts iX3 hown hK hP 23 wC_at23 rfl 8 (by decide) (hts _ m_475) (fun _ h9 => h9) rfl dX3_fewest_136 ?_
          obtain ⟨rfl, rfl⟩ := ob_pair hF
          exact gw_iret () hx hb hr hlocks hP hD hS rfl dX3_fewest_139
  have hJ_31 : ∀ (n_31 : Nat) (h : HS) (x3 : Int32) (x5 : Int32), f_X3_fewest_31 n_31 h x3 x5 = some (rr, hh) → ∀ (H : Heap) (locs : List Loc) (ls : Array Slot), va_P G vwCl (wC q cI cJ cZ cB cT h) H → va_D A (wC q cI cJ cZ cB cT h) → va_S A s.heap H locs → lv_has ls 6 [(0, .ref (q 23)), (1, .ref (q 1)), (2, .ref (q 16)), (3, .int x3), (5, .int x5)] → W p l e (gRm 18) s m args below meth c H locs 0 0 (MQ below (va_Qi (fun x (_ : Unit) => x = rr) (gB G (fun (_ : Unit) => (wC q cI cJ cZ cB cT hh)) A) A) args s 0 0 A) (F0 m 31 ls []) := by
    intro n_31
    induction n_31 with
    | zero =>
      intro h x3 x5 hF
      exact absurd hF (by simp [f_X3_fewest_31])
    | succ n_31 ih_31 =>
      have hJ_89 : ∀ (h : HS) (x3 : Int32) (x5 : Int32), f_X3_fewest_89 (f_X3_fewest_31 n_31) h x3 x5 = some (rr, hh) → ∀ (H : Heap) (locs : List Loc) (ls : Array Slot), va_P G vwCl (wC q cI cJ cZ cB cT h) H → va_D A (wC q cI cJ cZ cB cT h) → va_S A s.heap H locs → lv_has ls 6 [(0, .ref (q 23)), (1, .ref (q 1)), (2, .ref (q 16)), (3, .int x3), (5, .int x5)] → W p l e (gRm 18) s m args below meth c H locs 0 0 (MQ below (va_Qi (fun x (_ : Unit) => x = rr) (gB G (fun (_ : Unit) => (wC q cI cJ cZ cB cT hh)) A) A) args s 0 0 A) (F0 m 89 ls []) := by
        intro h x3 x5 hF H locs ls hP hD hS hl
        unfold f_X3_fewest_89 at hF
        refine lv_iinc (v := (x5 + 1)) (lv' := [(5, .int (x5 + 1)), (0, .ref (q 23)), (1, .ref (q 1)), (2, .ref (q 16)), (3, .int x3)]) hx hb dX3_fewest_89 hl (k := 4) rfl rfl (by decide) rfl (fun ls hl => ?_)
        refine lv_goto (tgt := 31) hx hb dX3_fewest_92 (by decide) ?_
        exact ih_31 h x3 (x5 + 1) hF H _ ls hP hD hS (lv_sub hl [1, 2, 3, 4, 0] rfl)
      have hJ_69 : ∀ (h : HS) (x3 : Int32) (x5 : Int32) (y0 : Int32) (y1 : Int32), f_X3_fewest_69 (f_X3_fewest_31 n_31) h x3 x5 y0 y1 = some (rr, hh) → ∀ (H : Heap) (locs : List Loc) (ls : Array Slot), va_P G vwCl (wC q cI cJ cZ cB cT h) H → va_D A (wC q cI cJ cZ cB cT h) → va_S A s.heap H locs → lv_has ls 6 [(0, .ref (q 23)), (1, .ref (q 1)), (2, .ref (q 16)), (3, .int x3), (5, .int x5)] → W p l e (gRm 18) s m args below meth c H locs 0 0 (MQ below (va_Qi (fun x (_ : Unit) => x = rr) (gB G (fun (_ : Unit) => (wC q cI cJ cZ cB cT hh)) A) A) args s 0 0 A) (F0 m 69 ls [.int y0, .int y1, .ref (q 26)]) := by
        intro h x3 x5 y0 y1 hF H locs ls hP hD hS hl
        unfold f_X3_fewest_69 at hF
        obtain ⟨hi_9, hF⟩ := ob_if hF
        refine va_zast (D := G) hx hb hK hP hD hS 26 2 wC_at26 rfl (vp_in_iff.mpr hi_9) dX3_fewest_69 (fun H locs hP hD hS => ?_)
        rw [wC_sA26] at hP hD
        have hP : va_P G vwCl (wC q cI cJ cZ cB cT (sA h 8 2 (upd (eA h 8 2) ((y1).toNatClampNeg) (vp_nar .boolean y0)))) H := hP
        have hD : va_D A (wC q cI cJ cZ cB cT (sA h 8 2 (upd (eA h 8 2) ((y1).toNatClampNeg) (vp_nar .boolean y0)))) := hD
        refine lv_aload_n hx hb dX3_fewest_70 rfl (lv_at hl 0 rfl) ?_
        refine va_get (D := G) (ci := 3) (v := .ref (q 26)) (C := RX3) (T := TX3) (N := 16) hx hb hts iX3 hown hK hP 23 wC_at23 rfl 2 (by decide) (hts _ m_625) (fun _ h9 => h9) rfl dX3_fewest_71 ?_
        refine lv_iload hx hb dX3_fewest_74 (lv_at hl 4 rfl) ?_
        obtain ⟨hi_10, hF⟩ := ob_if hF
        refine va_zald (D := G) hx hb hK hP 26 2 wC_at26 rfl (vp_in_iff.mpr hi_10) dX3_fewest_76 ?_
        refine gw_topi (y := ((upd (eA h 8 2) ((y1).toNatClampNeg) (vp_nar .boolean y0)) ((x5).toNatClampNeg))) rfl ?_
        refine lv_if_eq (tgt := 89) hx hb dX3_fewest_77 (by decide) (fun c_11 => ?_) (fun c_11 => ?_)
        · have hF := ob_pos c_11 hF
          exact hJ_89 (sA h 8 2 (upd (eA h 8 2) ((y1).toNatClampNeg) (vp_nar .boolean y0))) x3 x5 hF H _ ls hP hD hS (lv_sub hl [0, 1, 2, 3, 4] rfl)
        · have hF := ob_neg c_11 hF
          refine lv_aload_n hx hb dX3_fewest_80 rfl (lv_at hl 0 rfl) ?_
          refine lv_aload_n hx hb dX3_fewest_81 rfl (lv_at hl 1 rfl) ?_
          refine lv_aload_n hx hb dX3_fewest_82 rfl (lv_at hl 2 rfl) ?_
          refine lv_iload hx hb dX3_fewest_83 (lv_at hl 4 rfl) ?_
          refine lv_iload_n hx hb dX3_fewest_85 rfl (lv_at hl 3 rfl) ?_
          obtain ⟨h_12, e_12, hF⟩ := ob1_some hF
          refine gx_callv (gx_runV (As := [.ref (q 1), .ref (q 16), .int x5, .int x3]) (rest := []) ⟨hx, hb, hml, hown, hts⟩ (c_X3_weighGoose l G cI cJ cZ cB cT q (sA h 8 2 (upd (eA h 8 2) ((y1).toNatClampNeg) (vp_nar .boolean y0))) x5 x3 h_12 e_12 H.size) (gG_V m_643 m_644 m_645 m_486 m_642) rfl e_X3_weighGoose ⟨Nat.le_of_ble_eq_true rfl, Nat.le_of_ble_eq_true rfl⟩ hK hP hD hE hS hA 23 wC_at23 rfl rfl hl.1 rfl (Nat.le_of_ble_eq_true rfl) dX3_fewest_86 ⟨Nat.le_refl _, Nat.le_refl _⟩) hP hD hS hA (fun u_12 H locs hw_12 hP hD hS => ?_)
          exact hJ_89 h_12 x3 x5 hF H _ ls hP hD hS (lv_sub hl [0, 1, 2, 3, 4] rfl)
      have hJ_68 : ∀ (h : HS) (x3 : Int32) (x5 : Int32) (y0 : Int32), f_X3_fewest_68 (f_X3_fewest_31 n_31) h x3 x5 y0 = some (rr, hh) → ∀ (H : Heap) (locs : List Loc) (ls : Array Slot), va_P G vwCl (wC q cI cJ cZ cB cT h) H → va_D A (wC q cI cJ cZ cB cT h) → va_S A s.heap H locs → lv_has ls 6 [(0, .ref (q 23)), (1, .ref (q 1)), (2, .ref (q 16)), (3, .int x3), (5, .int x5)] → W p l e (gRm 18) s m args below meth c H locs 0 0 (MQ below (va_Qi (fun x (_ : Unit) => x = rr) (gB G (fun (_ : Unit) => (wC q cI cJ cZ cB cT hh)) A) A) args s 0 0 A) (F0 m 68 ls [.int y0, .ref (q 26)]) := by
        intro h x3 x5 y0 hF H locs ls hP hD hS hl
        unfold f_X3_fewest_68 at hF
        refine lv_iconst (v := 0) hx hb dX3_fewest_68 (by decide) ?_
        exact hJ_69 h x3 x5 0 y0 hF H _ ls hP hD hS (lv_sub hl [0, 1, 2, 3, 4] rfl)
      intro h x3 x5 hF H locs ls hP hD hS hl
      rw [f_X3_fewest_31_s] at hF
      refine lv_iload hx hb dX3_fewest_31 (lv_at hl 4 rfl) ?_
      refine lv_bipush (v := 10) hx hb dX3_fewest_33 (by decide) ?_
      refine lv_icmp_ge (tgt := 95) hx hb dX3_fewest_35 (by decide) (fun c_1 => ?_) (fun c_1 => ?_)
      · have hF := ob_pos c_1 hF
        refine lv_iconst (v := 1) hx hb dX3_fewest_95 (by decide) ?_
        refine lv_istore (lv' := [(5, .int 1), (0, .ref (q 23)), (1, .ref (q 1)), (2, .ref (q 16)), (3, .int x3)]) hx hb dX3_fewest_96 hl (by decide) rfl (fun ls hl => ?_)
        exact hJ_98 8589934592 h 1 hF H _ ls hP hD hS (lv_sub hl [1, 0] rfl)
      · have hF := ob_neg c_1 hF
        refine lv_aload_n hx hb dX3_fewest_38 rfl (lv_at hl 0 rfl) ?_
        refine va_get (D := G) (ci := 3) (v := .ref (q 26)) (C := RX3) (T := TX3) (N := 16) hx hb hts iX3 hown hK hP 23 wC_at23 rfl 2 (by decide) (hts _ m_625) (fun _ h9 => h9) rfl dX3_fewest_39 ?_
        refine lv_iload hx hb dX3_fewest_42 (lv_at hl 4 rfl) ?_
        refine lv_aload_n hx hb dX3_fewest_44 rfl (lv_at hl 1 rfl) ?_
        refine lv_iload hx hb dX3_fewest_45 (lv_at hl 4 rfl) ?_
        obtain ⟨r_2, h_2, e_2, hF⟩ := ob2_some hF
        refine gx_calli (gx_runV (As := [.int x5]) (rest := [.int x5, .ref (q 26)]) ⟨hx, hb, hml, hown, hts⟩ (c_X4_isFree l G cI cJ cZ cB cT q h x5 r_2 h_2 e_2 H.size) (gG_V m_640 m_34 m_35 m_7 m_32) rfl e_X4_isFree ⟨Nat.le_of_ble_eq_true rfl, Nat.le_of_ble_eq_true rfl⟩ hK hP hD hE hS hA 1 wC_at1 rfl rfl hl.1 rfl (Nat.le_of_ble_eq_true rfl) dX3_fewest_47 ⟨Nat.le_refl _, Nat.le_refl _⟩) hP hD hS hA (fun x_2 u_2 H locs hw_2 hP hD hS => ?_)
        subst x_2
        refine lv_if_eq (tgt := 68) hx hb dX3_fewest_50 (by decide) (fun c_3 => ?_) (fun c_3 => ?_)
        · have hF := ob_pos c_3 hF
          exact hJ_68 h_2 x3 x5 x5 hF H _ ls hP hD hS (lv_sub hl [0, 1, 2, 3, 4] rfl)
        · have hF := ob_neg c_3 hF
          refine lv_aload_n hx hb dX3_fewest_53 rfl (lv_at hl 1 rfl) ?_
          refine lv_iload hx hb dX3_fewest_54 (lv_at hl 4 rfl) ?_
          refine lv_iconst (v := 2) hx hb dX3_fewest_56 (by decide) ?_
          obtain ⟨r_4, h_4, e_4, hF⟩ := ob2_some hF
          refine gx_calli (gx_runV (As := [.int x5, .int 2]) (rest := [.int x5, .ref (q 26)]) ⟨hx, hb, hml, hown, hts⟩ (c_X4_ofGoose l G cI cJ cZ cB cT q h_2 x5 2 r_4 h_4 e_4 H.size) (gG_V m_641 m_15 m_16 m_7 m_13) rfl e_X4_ofGoose ⟨Nat.le_of_ble_eq_true rfl, Nat.le_of_ble_eq_true rfl⟩ hK hP hD hE hS hA 1 wC_at1 rfl rfl hl.1 rfl (Nat.le_of_ble_eq_true rfl) dX3_fewest_57 ⟨Nat.le_refl _, Nat.le_refl _⟩) hP hD hS hA (fun x_4 u_4 H locs hw_4 hP hD hS => ?_)
          subst x_4
          refine lv_iconst (v := (-1)) hx hb dX3_fewest_60 (by decide) ?_
          refine lv_icmp_ne (tgt := 68) hx hb dX3_fewest_61 (by decide) (fun c_5 => ?_) (fun c_5 => ?_)
          · have hF := ob_neg c_5 hF
            exact hJ_68 h_4 x3 x5 x5 hF H _ ls hP hD hS (lv_sub hl [0, 1, 2, 3, 4] rfl)
          · have hF := ob_pos c_5 hF
            refine lv_iconst (v := 1) hx hb dX3_fewest_64 (by decide) ?_
            refine lv_goto (tgt := 69) hx hb dX3_fewest_65 (by decide) ?_
            exact hJ_69 h_4 x3 x5 1 x5 hF H _ ls hP hD hS (lv_sub hl [0, 1, 2, 3, 4] rfl)
  unfold f_X3_fewest at hF
  refine lv_aload_n hx hb dX3_fewest_0 rfl (lv_at hl 0 rfl) ?_
  refine lv_iload hx hb dX3_fewest_1 (lv_at hl 4 rfl) ?_
  refine va_put (D := G) (ci := 3) (v := .int p2) (ty := .int) (C := RX3) (T := TX3) (N := 16) hx hb hts iX3 tyX3 tyX3_ok nmX3 hown hK hP hD hS 23 wC_at23 rfl 10 (by decide) (hts _ m_470) (fun _ h9 => h9) rfl (tyX3_ok 10 (by decide)) rfl rfl (Nat.le_of_ble_eq_true rfl) dX3_fewest_3 (fun H locs hP hD hS => ?_)
  rw [wC_sI23_10] at hP hD
  refine lv_aload_n hx hb dX3_fewest_6 rfl (lv_at hl 0 rfl) ?_
  refine lv_lconst (v := 1) hx hb dX3_fewest_7 (by decide) ?_
  refine va_put (D := G) (ci := 3) (v := .long 1) (ty := .long) (C := RX3) (T := TX3) (N := 16) hx hb hts iX3 tyX3 tyX3_ok nmX3 hown hK hP hD hS 23 wC_at23 rfl 9 (by decide) (hts _ m_468) (fun _ h9 => h9) rfl (tyX3_ok 9 (by decide)) rfl rfl (Nat.le_of_ble_eq_true rfl) dX3_fewest_8 (fun H locs hP hD hS => ?_)
  rw [wC_sI23_9] at hP hD
  refine lv_aload_n hx hb dX3_fewest_11 rfl (lv_at hl 0 rfl) ?_
  refine lv_iconst (v := 0) hx hb dX3_fewest_12 (by decide) ?_
  refine va_put (D := G) (ci := 3) (v := .int 0) (ty := .boolean) (C := RX3) (T := TX3) (N := 16) hx hb hts iX3 tyX3 tyX3_ok nmX3 hown hK hP hD hS 23 wC_at23 rfl 12 (by decide) (hts _ m_471) (fun _ h9 => h9) rfl (tyX3_ok 12 (by decide)) rfl rfl (Nat.le_of_ble_eq_true rfl) dX3_fewest_13 (fun H locs hP hD hS => ?_)
  rw [wC_sI23_12] at hP hD
  refine lv_aload_n hx hb dX3_fewest_16 rfl (lv_at hl 0 rfl) ?_
  refine lv_iconst (v := 4) hx hb dX3_fewest_17 (by decide) ?_
  refine lv_aload_n hx hb dX3_fewest_18 rfl (lv_at hl 1 rfl) ?_
  refine va_get (D := G) (ci := 4) (v := .int (eI h 1 4)) (C := RX4) (T := TX4) (N := 13) hx hb hts iX4 hown hK hP 1 wC_at1 rfl 4 (by decide) (hts _ m_639) (fun _ h9 => h9) rfl dX3_fewest_19 ?_
  refine va_mmin hx hb (by rw [hml]; exact hl.1.symm) hown (hts _ m_620) (hts _ m_53) (hts _ m_50) (hts _ m_54) (Nat.le_of_ble_eq_true rfl) (Nat.le_of_ble_eq_true rfl) (Nat.le_of_ble_eq_true rfl) (Nat.le_of_ble_eq_true rfl) dX3_fewest_22 ?_
  refine va_put (D := G) (ci := 3) (v := .int (if (eI h 1 4) < 4 then (eI h 1 4) else 4)) (ty := .int) (C := RX3) (T := TX3) (N := 16) hx hb hts iX3 tyX3 tyX3_ok nmX3 hown hK hP hD hS 23 wC_at23 rfl 11 (by decide) (hts _ m_613) (fun _ h9 => h9) rfl (tyX3_ok 11 (by decide)) rfl rfl (Nat.le_of_ble_eq_true rfl) dX3_fewest_25 (fun H locs hP hD hS => ?_)
  rw [wC_sI23_11] at hP hD
  refine lv_iconst (v := 0) hx hb dX3_fewest_28 (by decide) ?_
  refine lv_istore (lv' := [(5, .int 0), (0, .ref (q 23)), (1, .ref (q 1)), (2, .ref (q 16)), (3, .int p1), (4, .int p2)]) hx hb dX3_fewest_29 hl (by decide) rfl (fun ls hl => ?_)
  exact hJ_31 8589934592 (sI (sI (sL (sI h 8 10 p2) 8 9 1) 8 12 0) 8 11 (if (eI h 1 4) < 4 then (eI h 1 4) else 4)) p1 0 hF H _ ls hP hD hS (lv_sub hl [1, 2, 3, 4, 0] rfl)
