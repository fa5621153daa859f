def f_X1_rule_82 (h : HS) (y0 : Int32) (y1 : Int32) : Option (Int32 × HS) := (ob2 (f_X1_pop h) (fun r_43 h_43 => (some ((if y1 < (if r_43 < y0 then r_43 else y0) then (if r_43 < y0 then r_43 else y0) else y1), h_43))))
def f_X1_rule_46 : Nat → HS → Int32 → Int32 → Int32 → Option (Int32 × HS)
  | 0, _, _, _, _ => none
  | n + 1, h, x2, x4, x5 => (if x4 ≤ x5 then (if x2 = 2 then (f_X1_rule_82 h 99 0) else (f_X1_rule_82 h 10 0)) else (ob2 (f_X6_stepAt_0 h x5) (fun r_28 h_28 => (ob1 (f_X1_take h_28 r_28) (fun h_29 => ((f_X1_rule_46 n) h_29 x2 x4 (x5 + 1)))))))
theorem f_X1_rule_46_s (n : Nat) (h : HS) (x2 : Int32) (x4 : Int32) (x5 : Int32) : f_X1_rule_46 (n + 1) h x2 x4 x5 = (if x4 ≤ x5 then (if x2 = 2 then (f_X1_rule_82 h 99 0) else (f_X1_rule_82 h 10 0)) else (ob2 (f_X6_stepAt_0 h x5) (fun r_28 h_28 => (ob1 (f_X1_take h_28 r_28) (fun h_29 => ((f_X1_rule_46 n) h_29 x2 x4 (x5 + 1))))))) := rfl
def f_X1_rule_21 (h : HS) (x2 : Int32) : Option (Int32 × HS) := (ob2 (f_X1_without h x2) (fun r_30 h_30 => (some (r_30, h_30))))
def f_X1_rule_46b : Nat → HS → Int32 → Int32 → Int32 → Option (Int32 × HS)
  | 0, _, _, _, _ => none
  | n + 1, h, x2, x4, x5 => (if x4 ≤ x5 then (if x2 = 2 then (f_X1_rule_82 h 99 0) else (f_X1_rule_82 h 10 0)) else (ob2 (f_X6_stepAt_1 h x5) (fun r_33 h_33 => (ob1 (f_X1_take h_33 r_33) (fun h_34 => ((f_X1_rule_46b n) h_34 x2 x4 (x5 + 1)))))))
theorem f_X1_rule_46b_s (n : Nat) (h : HS) (x2 : Int32) (x4 : Int32) (x5 : Int32) : f_X1_rule_46b (n + 1) h x2 x4 x5 = (if x4 ≤ x5 then (if x2 = 2 then (f_X1_rule_82 h 99 0) else (f_X1_rule_82 h 10 0)) else (ob2 (f_X6_stepAt_1 h x5) (fun r_33 h_33 => (ob1 (f_X1_take h_33 r_33) (fun h_34 => ((f_X1_rule_46b n) h_34 x2 x4 (x5 + 1))))))) := rfl
def f_X1_rule_46c : Nat → HS → Int32 → Int32 → Int32 → Option (Int32 × HS)
  | 0, _, _, _, _ => none
  | n + 1, h, x2, x4, x5 => (if x4 ≤ x5 then (if x2 = 2 then (f_X1_rule_82 h 99 0) else (f_X1_rule_82 h 10 0)) else (ob2 (f_X6_stepAt_2 h x5) (fun r_37 h_37 => (ob1 (f_X1_take h_37 r_37) (fun h_38 => ((f_X1_rule_46c n) h_38 x2 x4 (x5 + 1)))))))
theorem f_X1_rule_46c_s (n : Nat) (h : HS) (x2 : Int32) (x4 : Int32) (x5 : Int32) : f_X1_rule_46c (n + 1) h x2 x4 x5 = (if x4 ≤ x5 then (if x2 = 2 then (f_X1_rule_82 h 99 0) else (f_X1_rule_82 h 10 0)) else (ob2 (f_X6_stepAt_2 h x5) (fun r_37 h_37 => (ob1 (f_X1_take h_37 r_37) (fun h_38 => ((f_X1_rule_46c n) h_38 x2 x4 (x5 + 1))))))) := rfl
def f_X1_rule_46d : Nat → HS → Int32 → Int32 → Int32 → Option (Int32 × HS)
  | 0, _, _, _, _ => none
  | n + 1, h, x2, x4, x5 => (if x4 ≤ x5 then (if x2 = 2 then (f_X1_rule_82 h 99 0) else (f_X1_rule_82 h 10 0)) else (ob2 (f_X6_stepAt_3 h x5) (fun r_41 h_41 => (ob1 (f_X1_take h_41 r_41) (fun h_42 => ((f_X1_rule_46d n) h_42 x2 x4 (x5 + 1)))))))
theorem f_X1_rule_46d_s (n : Nat) (h : HS) (x2 : Int32) (x4 : Int32) (x5 : Int32) : f_X1_rule_46d (n + 1) h x2 x4 x5 = (if x4 ≤ x5 then (if x2 = 2 then (f_X1_rule_82 h 99 0) else (f_X1_rule_82 h 10 0)) else (ob2 (f_X6_stepAt_3 h x5) (fun r_41 h_41 => (ob1 (f_X1_take h_41 r_41) (fun h_42 => ((f_X1_rule_46d n) h_42 x2 x4 (x5 + 1))))))) := rfl
def f_X1_rule (h : HS) (p1 : Int32) : Option (Int32 × HS) := (if (eI h 1 10) = 0 then (ob2 (f_X6_hasLaw_0 h p1) (fun r_3 h_3 => (if r_3 = 0 then (f_X1_rule_21 h_3 p1) else (ob2 (f_X6_stepsEnd_0 (sI h_3 6 3 0) p1) (fun r_5 h_5 => (ob2 (f_X6_firstStep_0 h_5 p1) (fun r_6 h_6 => (f_X1_rule_46 8589934592 h_6 p1 r_5 r_6)))))))) else (if (eI h 1 10) = 1 then (ob2 (f_X6_hasLaw_1 h p1) (fun r_9 h_9 => (if r_9 = 0 then (f_X1_rule_21 h_9 p1) else (ob2 (f_X6_stepsEnd_1 (sI h_9 6 3 0) p1) (fun r_11 h_11 => (ob2 (f_X6_firstStep_1 h_11 p1) (fun r_12 h_12 => (f_X1_rule_46b 8589934592 h_12 p1 r_11 r_12)))))))) else (if (eI h 1 10) = 2 then (ob2 (f_X6_hasLaw_2 h p1) (fun r_15 h_15 => (if r_15 = 0 then (f_X1_rule_21 h_15 p1) else (ob2 (f_X6_stepsEnd_2 (sI h_15 6 3 0) p1) (fun r_17 h_17 => (ob2 (f_X6_firstStep_2 h_17 p1) (fun r_18 h_18 => (f_X1_rule_46c 8589934592 h_18 p1 r_17 r_18)))))))) else (if (eI h 1 10) = 3 then (ob2 (f_X6_hasLaw_3 h p1) (fun r_21 h_21 => (if r_21 = 0 then (f_X1_rule_21 h_21 p1) else (ob2 (f_X6_stepsEnd_3 (sI h_21 6 3 0) p1) (fun r_23 h_23 => (ob2 (f_X6_firstStep_3 h_23 p1) (fun r_24 h_24 => (f_X1_rule_46d 8589934592 h_24 p1 r_23 r_24)))))))) else (f_X1_rule_21 h p1)))))
theorem e_X1_take : yX1_take.cls = RX1 ∧ yX1_take.cls ≠ "java/lang/invoke/MethodHandle" ∧ yX1_take.cls ≠ "java/lang/invoke/VarHandle" ∧ (parseMethodDescriptor yX1_take.desc).map (fun d => d.parameters.length) = some 1 := by decide +kernel
theorem e_X1_textOf : yX1_textOf.cls = RX1 ∧ yX1_textOf.cls ≠ "java/lang/invoke/MethodHandle" ∧ yX1_textOf.cls ≠ "java/lang/invoke/VarHandle" ∧ (parseMethodDescriptor yX1_textOf.desc).map (fun d => d.parameters.length) = some 1 := by decide +kernel
theorem e_X1_without : yX1_without.cls = RX1 ∧ yX1_without.cls ≠ "java/lang/invoke/MethodHandle" ∧ yX1_without.cls ≠ "java/lang/invoke/VarHandle" ∧ (parseMethodDescriptor yX1_without.desc).map (fun d => d.parameters.length) = some 1 := by decide +kernel
theorem e_X6_firstStep : yX6_firstStep.cls = RX6 ∧ yX6_firstStep.cls ≠ "java/lang/invoke/MethodHandle" ∧ yX6_firstStep.cls ≠ "java/lang/invoke/VarHandle" ∧ (parseMethodDescriptor yX6_firstStep.desc).map (fun d => d.parameters.length) = some 1 := by decide +kernel
theorem e_X6_hasLaw : yX6_hasLaw.cls = RX6 ∧ yX6_hasLaw.cls ≠ "java/lang/invoke/MethodHandle" ∧ yX6_hasLaw.cls ≠ "java/lang/invoke/VarHandle" ∧ (parseMethodDescriptor yX6_hasLaw.desc).map (fun d => d.parameters.length) = some 1 := by decide +kernel
theorem e_X6_stepAt : yX6_stepAt.cls = RX6 ∧ yX6_stepAt.cls ≠ "java/lang/invoke/MethodHandle" ∧ yX6_stepAt.cls ≠ "java/lang/invoke/VarHandle" ∧ (parseMethodDescriptor yX6_stepAt.desc).map (fun d => d.parameters.length) = some 1 := by decide +kernel
theorem e_X6_stepsEnd : yX6_stepsEnd.cls = RX6 ∧ yX6_stepsEnd.cls ≠ "java/lang/invoke/MethodHandle" ∧ yX6_stepsEnd.cls ≠ "java/lang/invoke/VarHandle" ∧ (parseMethodDescriptor yX6_stepsEnd.desc).map (fun d => d.parameters.length) = some 1 := by decide +kernel
set_option maxHeartbeats 4000000 in
set_option maxRecDepth 100000 in
theorem c_X1_rule (l : Launch) (G : va_G) (cI cJ cZ cB cT : ClassId) (q : Nat → Nat) (h : HS) (p1 : Int32) (rr : Int32) (hh : HS) (hF : f_X1_rule h p1 = some (rr, hh)) : gMi l yX1_rule (gws yX1_rule cX1_rule 6 (some .int)) 3 G (gT cI cJ cZ cB cT) [.ref (q 16), .ref (q 1), .int p1] (wC q cI cJ cZ cB cT h) (fun x (_ : Unit) => x = rr) (fun (_ : Unit) => (wC q cI cJ cZ cB cT hh)) := by
  intro sz
  refine gM_start (y := yX1_rule) (av := [.ref (q 16), .ref (q 1), .int p1]) (ws := (wC q cI cJ cZ cB cT h)) (Qf := fun A => va_Qi (fun x (_ : Unit) => x = rr) (gB G (fun (_ : Unit) => (wC q cI cJ cZ cB cT hh)) A) A) (cc := cX1_rule) (maxL := 6) (ret := (some .int)) (by decide) (Nat.le_of_ble_eq_true rfl) ?_
  intro p e s m args below meth c A ls H hx hb hr hts hown hin hlocks hml hP hK hD hA hS hl hE
  have hl : lv_has ls 6 [(0, .ref (q 16)), (1, .ref (q 1)), (2, .int p1)] := hl
  have hJ_82 : ∀ (h : HS) (y0 : Int32) (y1 : Int32), f_X1_rule_82 h y0 y1 = some (rr, hh) → ∀ (H : Heap) (locs : List Loc) (ls : Array Slot), va_P G vwCl (wC q cI cJ cZ cB cT h) H → va_D A (wC q cI cJ cZ cB cT h) → va_S A s.heap H locs → lv_has ls 6 [(0, .ref (q 16))] → W p l e (gRm 3) s m args below meth c H locs 0 0 (MQ below (va_Qi (fun x (_ : Unit) => x = rr) (gB G (fun (_ : Unit) => (wC q cI cJ cZ cB cT hh)) A) A) args s 0 0 A) (F0 m 82 ls [.int y0, .int y1]) := by
    intro h y0 y1 hF H locs ls hP hD hS hl
    unfold f_X1_rule_82 at hF
    refine lv_aload_n hx hb dX1_rule_82 rfl (lv_at hl 0 rfl) ?_
    obtain ⟨r_43, h_43, e_43, hF⟩ := ob2_some hF
    refine gx_calli (gx_runV (As := []) (rest := [.int y0, .int y1]) ⟨hx, hb, hml, hown, hts⟩ (c_X1_pop l G cI cJ cZ cB cT q h  r_43 h_43 e_43 H.size) (gG_V m_433 m_434 m_435 m_436 m_432) rfl e_X1_pop ⟨Nat.le_of_ble_eq_true rfl, Nat.le_of_ble_eq_true rfl⟩ hK hP hD hE hS hA 16 wC_at16 rfl rfl hl.1 rfl (Nat.le_of_ble_eq_true rfl) dX1_rule_83 ⟨Nat.le_refl _, Nat.le_refl _⟩) hP hD hS hA (fun x_43 u_43 H locs hw_43 hP hD hS => ?_)
    subst x_43
    refine va_mmin hx hb (by rw [hml]; exact hl.1.symm) hown (hts _ m_584) (hts _ m_53) (hts _ m_50) (hts _ m_54) (Nat.le_of_ble_eq_true rfl) (Nat.le_of_ble_eq_true rfl) (Nat.le_of_ble_eq_true rfl) (Nat.le_of_ble_eq_true rfl) dX1_rule_86 ?_
    refine va_mmax hx hb (by rw [hml]; exact hl.1.symm) hown (hts _ m_585) (hts _ m_49) (hts _ m_50) (hts _ m_51) (Nat.le_of_ble_eq_true rfl) (Nat.le_of_ble_eq_true rfl) (Nat.le_of_ble_eq_true rfl) (Nat.le_of_ble_eq_true rfl) dX1_rule_89 ?_
    obtain ⟨rfl, rfl⟩ := ob_pair hF
    exact gw_iret () hx hb hr hlocks hP hD hS rfl dX1_rule_92
  have hJ_46 : ∀ (n_46 : Nat) (h : HS) (x2 : Int32) (x4 : Int32) (x5 : Int32), f_X1_rule_46 n_46 h x2 x4 x5 = some (rr, hh) → ∀ (H : Heap) (locs : List Loc) (ls : Array Slot), va_P G vwCl (wC q cI cJ cZ cB cT h) H → va_D A (wC q cI cJ cZ cB cT h) → va_S A s.heap H locs → lv_has ls 6 [(0, .ref (q 16)), (2, .int x2), (3, .ref (q 32)), (4, .int x4), (5, .int x5)] → W p l e (gRm 3) s m args below meth c H locs 0 0 (MQ below (va_Qi (fun x (_ : Unit) => x = rr) (gB G (fun (_ : Unit) => (wC q cI cJ cZ cB cT hh)) A) A) args s 0 0 A) (F0 m 46 ls []) := by
    intro n_46
    induction n_46 with
    | zero =>
      intro h x2 x4 x5 hF
      exact absurd hF (by simp [f_X1_rule_46])
    | succ n_46 ih_46 =>
      intro h x2 x4 x5 hF H locs ls hP hD hS hl
      rw [f_X1_rule_46_s] at hF
      refine lv_iload hx hb dX1_rule_46 (lv_at hl 4 rfl) ?_
      refine lv_iload hx hb dX1_rule_48 (lv_at hl 3 rfl) ?_
      refine lv_icmp_ge (tgt := 69) hx hb dX1_rule_50 (by decide) (fun c_26 => ?_) (fun c_26 => ?_)
      · have hF := ob_pos c_26 hF
        refine lv_iconst (v := 0) hx hb dX1_rule_69 (by decide) ?_
        refine lv_iload_n hx hb dX1_rule_70 rfl (lv_at hl 1 rfl) ?_
        refine lv_iconst (v := 2) hx hb dX1_rule_71 (by decide) ?_
        refine lv_icmp_ne (tgt := 80) hx hb dX1_rule_72 (by decide) (fun c_27 => ?_) (fun c_27 => ?_)
        · have hF := ob_neg c_27 hF
          refine lv_bipush (v := 10) hx hb dX1_rule_80 (by decide) ?_
          exact hJ_82 h 10 0 hF H _ ls hP hD hS (lv_sub hl [0] rfl)
        · have hF := ob_pos c_27 hF
          refine lv_bipush (v := 99) hx hb dX1_rule_75 (by decide) ?_
          refine lv_goto (tgt := 82) hx hb dX1_rule_77 (by decide) ?_
          exact hJ_82 h 99 0 hF H _ ls hP hD hS (lv_sub hl [0] rfl)
      · have hF := ob_neg c_26 hF
        refine lv_aload_n hx hb dX1_rule_53 rfl (lv_at hl 0 rfl) ?_
        refine lv_aload_n hx hb dX1_rule_54 rfl (lv_at hl 2 rfl) ?_
        refine lv_iload hx hb dX1_rule_55 (lv_at hl 4 rfl) ?_
        obtain ⟨r_28, h_28, e_28, hF⟩ := ob2_some hF
        refine gx_calli (gx_runV (As := [.int x5]) (rest := [.ref (q 16)]) ⟨hx, hb, hml, hown, hts⟩ (c_X6_stepAt_0 l G cI cJ cZ cB cT q h x5 r_28 h_28 e_28 H.size) (gG_V m_573 m_574 m_575 m_563 m_572) rfl e_X6_stepAt ⟨Nat.le_of_ble_eq_true rfl, Nat.le_of_ble_eq_true rfl⟩ hK hP hD hE hS hA 32 wC_at32 rfl rfl hl.1 rfl (Nat.le_of_ble_eq_true rfl) dX1_rule_57 ⟨Nat.le_refl _, Nat.le_refl _⟩) hP hD hS hA (fun x_28 u_28 H locs hw_28 hP hD hS => ?_)
        subst x_28
        obtain ⟨h_29, e_29, hF⟩ := ob1_some hF
        refine gx_callv (gx_runV (As := [.int r_28]) (rest := []) ⟨hx, hb, hml, hown, hts⟩ (c_X1_take l G cI cJ cZ cB cT q h_28 r_28 h_29 e_29 H.size) (gG_V m_577 m_578 m_579 m_436 m_576) rfl e_X1_take ⟨Nat.le_of_ble_eq_true rfl, Nat.le_of_ble_eq_true rfl⟩ hK hP hD hE hS hA 16 wC_at16 rfl rfl hl.1 rfl (Nat.le_of_ble_eq_true rfl) dX1_rule_60 ⟨Nat.le_refl _, Nat.le_refl _⟩) hP hD hS hA (fun u_29 H locs hw_29 hP hD hS => ?_)
        refine lv_iinc (v := (x5 + 1)) (lv' := [(5, .int (x5 + 1)), (0, .ref (q 16)), (2, .int x2), (3, .ref (q 32)), (4, .int x4)]) hx hb dX1_rule_63 hl (k := 4) rfl rfl (by decide) rfl (fun ls hl => ?_)
        refine lv_goto (tgt := 46) hx hb dX1_rule_66 (by decide) ?_
        exact ih_46 h_29 x2 x4 (x5 + 1) hF H _ ls hP hD hS (lv_sub hl [1, 2, 3, 4, 0] rfl)
  have hJ_21 : ∀ (h : HS) (x2 : Int32), f_X1_rule_21 h x2 = some (rr, hh) → ∀ (H : Heap) (locs : List Loc) (ls : Array Slot), va_P G vwCl (wC q cI cJ cZ cB cT h) H → va_D A (wC q cI cJ cZ cB cT h) → va_S A s.heap H locs → lv_has ls 6 [(0, .ref (q 16)), (2, .int x2)] → W p l e (gRm 3) s m args below meth c H locs 0 0 (MQ below (va_Qi (fun x (_ : Unit) => x = rr) (gB G (fun (_ : Unit) => (wC q cI cJ cZ cB cT hh)) A) A) args s 0 0 A) (F0 m 21 ls []) := by
    intro h x2 hF H locs ls hP hD hS hl
    unfold f_X1_rule_21 at hF
    refine lv_aload_n hx hb dX1_rule_21 rfl (lv_at hl 0 rfl) ?_
    refine lv_iload_n hx hb dX1_rule_22 rfl (lv_at hl 1 rfl) ?_
    obtain ⟨r_30, h_30, e_30, hF⟩ := ob2_some hF
    refine gx_calli (gx_runV (As := [.int x2]) (rest := []) ⟨hx, hb, hml, hown, hts⟩ (c_X1_without l G cI cJ cZ cB cT q h x2 r_30 h_30 e_30 H.size) (gG_V m_581 m_582 m_583 m_436 m_580) rfl e_X1_without ⟨Nat.le_of_ble_eq_true rfl, Nat.le_of_ble_eq_true rfl⟩ hK hP hD hE hS hA 16 wC_at16 rfl rfl hl.1 rfl (Nat.le_of_ble_eq_true rfl) dX1_rule_23 ⟨Nat.le_refl _, Nat.le_refl _⟩) hP hD hS hA (fun x_30 u_30 H locs hw_30 hP hD hS => ?_)
    subst x_30
    obtain ⟨rfl, rfl⟩ := ob_pair hF
    exact gw_iret () hx hb hr hlocks hP hD hS rfl dX1_rule_26
  have hJ_46b : ∀ (n_46b : Nat) (h : HS) (x2 : Int32) (x4 : Int32) (x5 : Int32), f_X1_rule_46b n_46b h x2 x4 x5 = some (rr, hh) → ∀ (H : Heap) (locs : List Loc) (ls : Array Slot), va_P G vwCl (wC q cI cJ cZ cB cT h) H → va_D A (wC q cI cJ cZ cB cT h) → va_S A s.heap H locs → lv_has ls 6 [(0, .ref (q 16)), (2, .int x2), (3, .ref (q 37)), (4, .int x4), (5, .int x5)] → W p l e (gRm 3) s m args below meth c H locs 0 0 (MQ below (va_Qi (fun x (_ : Unit) => x = rr) (gB G (fun (_ : Unit) => (wC q cI cJ cZ cB cT hh)) A) A) args s 0 0 A) (F0 m 46 ls []) := by
    intro n_46b
    induction n_46b with
    | zero =>
      intro h x2 x4 x5 hF
      exact absurd hF (by simp [f_X1_rule_46b])
    | succ n_46b ih_46b =>
      intro h x2 x4 x5 hF H locs ls hP hD hS hl
      rw [f_X1_rule_46b_s] at hF
      refine lv_iload hx hb dX1_rule_46 (lv_at hl 4 rfl) ?_
      refine lv_iload hx hb dX1_rule_48 (lv_at hl 3 rfl) ?_
      refine lv_icmp_ge (tgt := 69) hx hb dX1_rule_50 (by decide) (fun c_31 => ?_) (fun c_31 => ?_)
      · have hF := ob_pos c_31 hF
        refine lv_iconst (v := 0) hx hb dX1_rule_69 (by decide) ?_
        refine lv_iload_n hx hb dX1_rule_70 rfl (lv_at hl 1 rfl) ?_
        refine lv_iconst (v := 2) hx hb dX1_rule_71 (by decide) ?_
        refine lv_icmp_ne (tgt := 80) hx hb dX1_rule_72 (by decide) (fun c_32 => ?_) (fun c_32 => ?_)
        · have hF := ob_neg c_32 hF
          refine lv_bipush (v := 10) hx hb dX1_rule_80 (by decide) ?_
          exact hJ_82 h 10 0 hF H _ ls hP hD hS (lv_sub hl [0] rfl)
        · have hF := ob_pos c_32 hF
          refine lv_bipush (v := 99) hx hb dX1_rule_75 (by decide) ?_
          refine lv_goto (tgt := 82) hx hb dX1_rule_77 (by decide) ?_
          exact hJ_82 h 99 0 hF H _ ls hP hD hS (lv_sub hl [0] rfl)
      · have hF := ob_neg c_31 hF
        refine lv_aload_n hx hb dX1_rule_53 rfl (lv_at hl 0 rfl) ?_
        refine lv_aload_n hx hb dX1_rule_54 rfl (lv_at hl 2 rfl) ?_
        refine lv_iload hx hb dX1_rule_55 (lv_at hl 4 rfl) ?_
        obtain ⟨r_33, h_33, e_33, hF⟩ := ob2_some hF
        refine gx_calli (gx_runV (As := [.int x5]) (rest := [.ref (q 16)]) ⟨hx, hb, hml, hown, hts⟩ (c_X6_stepAt_1 l G cI cJ cZ cB cT q h x5 r_33 h_33 e_33 H.size) (gG_V m_573 m_574 m_575 m_563 m_572) rfl e_X6_stepAt ⟨Nat.le_of_ble_eq_true rfl, Nat.le_of_ble_eq_true rfl⟩ hK hP hD hE hS hA 37 wC_at37 rfl rfl hl.1 rfl (Nat.le_of_ble_eq_true rfl) dX1_rule_57 ⟨Nat.le_refl _, Nat.le_refl _⟩) hP hD hS hA (fun x_33 u_33 H locs hw_33 hP hD hS => ?_)
        subst x_33
        obtain ⟨h_34, e_34, hF⟩ := ob1_some hF
        refine gx_callv (gx_runV (As := [.int r_33]) (rest := []) ⟨hx, hb, hml, hown, hts⟩ (c_X1_take l G cI cJ cZ cB cT q h_33 r_33 h_34 e_34 H.size) (gG_V m_577 m_578 m_579 m_436 m_576) rfl e_X1_take ⟨Nat.le_of_ble_eq_true rfl, Nat.le_of_ble_eq_true rfl⟩ hK hP hD hE hS hA 16 wC_at16 rfl rfl hl.1 rfl (Nat.le_of_ble_eq_true rfl) dX1_rule_60 ⟨Nat.le_refl _, Nat.le_refl _⟩) hP hD hS hA (fun u_34 H locs hw_34 hP hD hS => ?_)
        refine lv_iinc (v := (x5 + 1)) (lv' := [(5, .int (x5 + 1)), (0, .ref (q 16)), (2, .int x2), (3, .ref (q 37)), (4, .int x4)]) hx hb dX1_rule_63 hl (k := 4) rfl rfl (by decide) rfl (fun ls hl => ?_)
        refine lv_goto (tgt := 46) hx hb dX1_rule_66 (by decide) ?_
        exact ih_46b h_34 x2 x4 (x5 + 1) hF H _ ls hP hD hS (lv_sub hl [1, 2, 3, 4, 0] rfl)
  have hJ_46c : ∀ (n_46c : Nat) (h : HS) (x2 : Int32) (x4 : Int32) (x5 : Int32), f_X1_rule_46c n_46c h x2 x4 x5 = some (rr, hh) → ∀ (H : Heap) (locs : List Loc) (ls : Array Slot), va_P G vwCl (wC q cI cJ cZ cB cT h) H → va_D A (wC q cI cJ cZ cB cT h) → va_S A s.heap H locs → lv_has ls 6 [(0, .ref (q 16)), (2, .int x2), (3, .ref (q 42)), (4, .int x4), (5, .int x5)] → W p l e (gRm 3) s m args below meth c H locs 0 0 (MQ below (va_Qi (fun x (_ : Unit) => x = rr) (gB G (fun (_ : Unit) => (wC q cI cJ cZ cB cT hh)) A) A) args s 0 0 A) (F0 m 46 ls []) := by
    intro n_46c
    induction n_46c with
    | zero =>
      intro h x2 x4 x5 hF
      exact absurd hF (by simp [f_X1_rule_46c])
    | succ n_46c ih_46c =>
      intro h x2 x4 x5 hF H locs ls hP hD hS hl
      rw [f_X1_rule_46c_s] at hF
      refine lv_iload hx hb dX1_rule_46 (lv_at hl 4 rfl) ?_
      refine lv_iload hx hb dX1_rule_48 (lv_at hl 3 rfl) ?_
      refine lv_icmp_ge (tgt := 69) hx hb dX1_rule_50 (by decide) (fun c_35 => ?_) (fun c_35 => ?_)
      · have hF := ob_pos c_35 hF
        refine lv_iconst (v := 0) hx hb dX1_rule_69 (by decide) ?_
        refine lv_iload_n hx hb dX1_rule_70 rfl (lv_at hl 1 rfl) ?_
        refine lv_iconst (v := 2) hx hb dX1_rule_71 (by decide) ?_
        refine lv_icmp_ne (tgt := 80) hx hb dX1_rule_72 (by decide) (fun c_36 => ?_) (fun c_36 => ?_)
        · have hF := ob_neg c_36 hF
          refine lv_bipush (v := 10) hx hb dX1_rule_80 (by decide) ?_
          exact hJ_82 h 10 0 hF H _ ls hP hD hS (lv_sub hl [0] rfl)
        · have hF := ob_pos c_36 hF
          refine lv_bipush (v := 99) hx hb dX1_rule_75 (by decide) ?_
          refine lv_goto (tgt := 82) hx hb dX1_rule_77 (by decide) ?_
          exact hJ_82 h 99 0 hF H _ ls hP hD hS (lv_sub hl [0] rfl)
      · have hF := ob_neg c_35 hF
        refine lv_aload_n hx hb dX1_rule_53 rfl (lv_at hl 0 rfl) ?_
        refine lv_aload_n hx hb dX1_rule_54 rfl (lv_at hl 2 rfl) ?_
        refine lv_iload hx hb dX1_rule_55 (lv_at hl 4 rfl) ?_
        obtain ⟨r_37, h_37, e_37, hF⟩ := ob2_some hF
        refine gx_calli (gx_runV (As := [.int x5]) (rest := [.ref (q 16)]) ⟨hx, hb, hml, hown, hts⟩ (c_X6_stepAt_2 l G cI cJ cZ cB cT q h x5 r_37 h_37 e_37 H.size) (gG_V m_573 m_574 m_575 m_563 m_572) rfl e_X6_stepAt ⟨Nat.le_of_ble_eq_true rfl, Nat.le_of_ble_eq_true rfl⟩ hK hP hD hE hS hA 42 wC_at42 rfl rfl hl.1 rfl (Nat.le_of_ble_eq_true rfl) dX1_rule_57 ⟨Nat.le_refl _, Nat.le_refl _⟩) hP hD hS hA (fun x_37 u_37 H locs hw_37 hP hD hS => ?_)
        subst x_37
        obtain ⟨h_38, e_38, hF⟩ := ob1_some hF
        refine gx_callv (gx_runV (As := [.int r_37]) (rest := []) ⟨hx, hb, hml, hown, hts⟩ (c_X1_take l G cI cJ cZ cB cT q h_37 r_37 h_38 e_38 H.size) (gG_V m_577 m_578 m_579 m_436 m_576) rfl e_X1_take ⟨Nat.le_of_ble_eq_true rfl, Nat.le_of_ble_eq_true rfl⟩ hK hP hD hE hS hA 16 wC_at16 rfl rfl hl.1 rfl (Nat.le_of_ble_eq_true rfl) dX1_rule_60 ⟨Nat.le_refl _, Nat.le_refl _⟩) hP hD hS hA (fun u_38 H locs hw_38 hP hD hS => ?_)
        refine lv_iinc (v := (x5 + 1)) (lv' := [(5, .int (x5 + 1)), (0, .ref (q 16)), (2, .int x2), (3, .ref (q 42)), (4, .int x4)]) hx hb dX1_rule_63 hl (k := 4) rfl rfl (by decide) rfl (fun ls hl => ?_)
        refine lv_goto (tgt := 46) hx hb dX1_rule_66 (by decide) ?_
        exact ih_46c h_38 x2 x4 (x5 + 1) hF H _ ls hP hD hS (lv_sub hl [1, 2, 3, 4, 0] rfl)
  have hJ_46d : ∀ (n_46d : Nat) (h : HS) (x2 : Int32) (x4 : Int32) (x5 : Int32), f_X1_rule_46d n_46d h x2 x4 x5 = some (rr, hh) → ∀ (H : Heap) (locs : List Loc) (ls : Array Slot), va_P G vwCl (wC q cI cJ cZ cB cT h) H → va_D A (wC q cI cJ cZ cB cT h) → va_S A s.heap H locs → lv_has ls 6 [(0, .ref (q 16)), (2, .int x2), (3, .ref (q 47)), (4, .int x4), (5, .int x5)] → W p l e (gRm 3) s m args below meth c H locs 0 0 (MQ below (va_Qi (fun x (_ : Unit) => x = rr) (gB G (fun (_ : Unit) => (wC q cI cJ cZ cB cT hh)) A) A) args s 0 0 A) (F0 m 46 ls []) := by
    intro n_46d
    induction n_46d with
    | zero =>
      intro h x2 x4 x5 hF
      exact absurd hF (by simp [f_X1_rule_46d])
    | succ n_46d ih_46d =>
      intro h x2 x4 x5 hF H locs ls hP hD hS hl
      rw [f_X1_rule_46d_s] at hF
      refine lv_iload hx hb dX1_rule_46 (lv_at hl 4 rfl) ?_
      refine lv_iload hx hb dX1_rule_48 (lv_at hl 3 rfl) ?_
      refine lv_icmp_ge (tgt := 69) hx hb dX1_rule_50 (by decide) (fun c_39 => ?_) (fun c_39 => ?_)
      · have hF := ob_pos c_39 hF
        refine lv_iconst (v := 0) hx hb dX1_rule_69 (by decide) ?_
        refine lv_iload_n hx hb dX1_rule_70 rfl (lv_at hl 1 rfl) ?_
        refine lv_iconst (v := 2) hx hb dX1_rule_71 (by decide) ?_
        refine lv_icmp_ne (tgt := 80) hx hb dX1_rule_72 (by decide) (fun c_40 => ?_) (fun c_40 => ?_)
        · have hF := ob_neg c_40 hF
          refine lv_bipush (v := 10) hx hb dX1_rule_80 (by decide) ?_
          exact hJ_82 h 10 0 hF H _ ls hP hD hS (lv_sub hl [0] rfl)
        · have hF := ob_pos c_40 hF
          refine lv_bipush (v := 99) hx hb dX1_rule_75 (by decide) ?_
          refine lv_goto (tgt := 82) hx hb dX1_rule_77 (by decide) ?_
          exact hJ_82 h 99 0 hF H _ ls hP hD hS (lv_sub hl [0] rfl)
      · have hF := ob_neg c_39 hF
        refine lv_aload_n hx hb dX1_rule_53 rfl (lv_at hl 0 rfl) ?_
        refine lv_aload_n hx hb dX1_rule_54 rfl (lv_at hl 2 rfl) ?_
        refine lv_iload hx hb dX1_rule_55 (lv_at hl 4 rfl) ?_
        obtain ⟨r_41, h_41, e_41, hF⟩ := ob2_some hF
        refine gx_calli (gx_runV (As := [.int x5]) (rest := [.ref (q 16)]) ⟨hx, hb, hml, hown, hts⟩ (c_X6_stepAt_3 l G cI cJ cZ cB cT q h x5 r_41 h_41 e_41 H.size) (gG_V m_573 m_574 m_575 m_563 m_572) rfl e_X6_stepAt ⟨Nat.le_of_ble_eq_true rfl, Nat.le_of_ble_eq_true rfl⟩ hK hP hD hE hS hA 47 wC_at47 rfl rfl hl.1 rfl (Nat.le_of_ble_eq_true rfl) dX1_rule_57 ⟨Nat.le_refl _, Nat.le_refl _⟩) hP hD hS hA (fun x_41 u_41 H locs hw_41 hP hD hS => ?_)
        subst x_41
        obtain ⟨h_42, e_42, hF⟩ := ob1_some hF
        refine gx_callv (gx_runV (As := [.int r_41]) (rest := []) ⟨hx, hb, hml, hown, hts⟩ (c_X1_take l G cI cJ cZ cB cT q h_41 r_41 h_42 e_42 H.size) (gG_V m_577 m_578 m_579 m_436 m_576) rfl e_X1_take ⟨Nat.le_of_ble_eq_true rfl, Nat.le_of_ble_eq_true rfl⟩ hK hP hD hE hS hA 16 wC_at16 rfl rfl hl.1 rfl (Nat.le_of_ble_eq_true rfl) dX1_rule_60 ⟨Nat.le_refl _, Nat.le_refl _⟩) hP hD hS hA (fun u_42 H locs hw_42 hP hD hS => ?_)
        refine lv_iinc (v := (x5 + 1)) (lv' := [(5, .int (x5 + 1)), (0, .ref (q 16)), (2, .int x2), (3, .ref (q 47)), (4, .int x4)]) hx hb dX1_rule_63 hl (k := 4) rfl rfl (by decide) rfl (fun ls hl => ?_)
        refine lv_goto (tgt := 46) hx hb dX1_rule_66 (by decide) ?_
        exact ih_46d h_42 x2 x4 (x5 + 1) hF H _ ls hP hD hS (lv_sub hl [1, 2, 3, 4, 0] rfl)
  unfold f_X1_rule at hF
  refine lv_aload_n hx hb dX1_rule_0 rfl (lv_at hl 0 rfl) ?_
  refine lv_aload_n hx hb dX1_rule_1 rfl (lv_at hl 1 rfl) ?_
  refine va_get (D := G) (ci := 4) (v := .int (eI h 1 10)) (C := RX4) (T := TX4) (N := 13) hx hb hts iX4 hown hK hP 1 wC_at1 rfl 10 (by decide) (hts _ m_554) (fun _ h9 => h9) rfl dX1_rule_2 ?_
  by_cases c_1 : (eI h 1 10) = 0
  · have hF := ob_pos c_1 hF
    refine gx_callq (gx_runV (As := [.int (eI h 1 10)]) (rest := []) ⟨hx, hb, hml, hown, hts⟩ (c_textOf_e0 l G cI cJ cZ cB cT q h (eI h 1 10) c_1 H.size) (gG_V m_555 m_556 m_557 m_436 m_558) rfl e_X1_textOf ⟨Nat.le_of_ble_eq_true rfl, Nat.le_of_ble_eq_true rfl⟩ hK hP hD hE hS hA 16 wC_at16 rfl rfl hl.1 rfl (Nat.le_of_ble_eq_true rfl) dX1_rule_5 ⟨Nat.le_refl _, Nat.le_refl _⟩) hP hD hS hA (fun x_2 u_2 H locs hw_2 hP hD hS => ?_)
    subst x_2
    refine W.eq (g2 := F0 m 8 ls [.ref (q 32)]) rfl ?_
    refine lv_astore_n (lv' := [(3, .ref (q 32)), (0, .ref (q 16)), (1, .ref (q 1)), (2, .int p1)]) hx hb dX1_rule_8 rfl hl (by decide) rfl (fun ls hl => ?_)
    refine lv_aload_n hx hb dX1_rule_9 rfl (lv_at hl 0 rfl) ?_
    refine lv_ifnull hx hb dX1_rule_10 ?_
    refine lv_aload_n hx hb dX1_rule_13 rfl (lv_at hl 0 rfl) ?_
    refine lv_iload_n hx hb dX1_rule_14 rfl (lv_at hl 3 rfl) ?_
    obtain ⟨r_3, h_3, e_3, hF⟩ := ob2_some hF
    refine gx_calli (gx_runV (As := [.int p1]) (rest := []) ⟨hx, hb, hml, hown, hts⟩ (c_X6_hasLaw_0 l G cI cJ cZ cB cT q h p1 r_3 h_3 e_3 H.size) (gG_V m_560 m_561 m_562 m_563 m_559) rfl e_X6_hasLaw ⟨Nat.le_of_ble_eq_true rfl, Nat.le_of_ble_eq_true rfl⟩ hK hP hD hE hS hA 32 wC_at32 rfl rfl hl.1 rfl (Nat.le_of_ble_eq_true rfl) dX1_rule_15 ⟨Nat.le_refl _, Nat.le_refl _⟩) hP hD hS hA (fun x_3 u_3 H locs hw_3 hP hD hS => ?_)
    subst x_3
    refine lv_if_ne (tgt := 27) hx hb dX1_rule_18 (by decide) (fun c_4 => ?_) (fun c_4 => ?_)
    · have hF := ob_neg c_4 hF
      refine lv_aload_n hx hb dX1_rule_27 rfl (lv_at hl 1 rfl) ?_
      refine lv_iconst (v := 0) hx hb dX1_rule_28 (by decide) ?_
      refine va_put (D := G) (ci := 1) (v := .int 0) (ty := .int) (C := RX1) (T := TX1) (N := 4) hx hb hts iX1 tyX1 tyX1_ok nmX1 hown hK hP hD hS 16 wC_at16 rfl 3 (by decide) (hts _ m_426) (fun _ h9 => h9) rfl (tyX1_ok 3 (by decide)) rfl rfl (Nat.le_of_ble_eq_true rfl) dX1_rule_29 (fun H locs hP hD hS => ?_)
      rw [wC_sI16_3] at hP hD
      refine lv_aload_n hx hb dX1_rule_32 rfl (lv_at hl 0 rfl) ?_
      refine lv_iload_n hx hb dX1_rule_33 rfl (lv_at hl 3 rfl) ?_
      obtain ⟨r_5, h_5, e_5, hF⟩ := ob2_some hF
      refine gx_calli (gx_runV (As := [.int p1]) (rest := []) ⟨hx, hb, hml, hown, hts⟩ (c_X6_stepsEnd_0 l G cI cJ cZ cB cT q (sI h_3 6 3 0) p1 r_5 h_5 e_5 H.size) (gG_V m_565 m_566 m_567 m_563 m_564) rfl e_X6_stepsEnd ⟨Nat.le_of_ble_eq_true rfl, Nat.le_of_ble_eq_true rfl⟩ hK hP hD hE hS hA 32 wC_at32 rfl rfl hl.1 rfl (Nat.le_of_ble_eq_true rfl) dX1_rule_34 ⟨Nat.le_refl _, Nat.le_refl _⟩) hP hD hS hA (fun x_5 u_5 H locs hw_5 hP hD hS => ?_)
      subst x_5
      refine lv_istore (lv' := [(4, .int r_5), (3, .ref (q 32)), (0, .ref (q 16)), (1, .ref (q 1)), (2, .int p1)]) hx hb dX1_rule_37 hl (by decide) rfl (fun ls hl => ?_)
      refine lv_aload_n hx hb dX1_rule_39 rfl (lv_at hl 1 rfl) ?_
      refine lv_iload_n hx hb dX1_rule_40 rfl (lv_at hl 4 rfl) ?_
      obtain ⟨r_6, h_6, e_6, hF⟩ := ob2_some hF
      refine gx_calli (gx_runV (As := [.int p1]) (rest := []) ⟨hx, hb, hml, hown, hts⟩ (c_X6_firstStep_0 l G cI cJ cZ cB cT q h_5 p1 r_6 h_6 e_6 H.size) (gG_V m_569 m_570 m_571 m_563 m_568) rfl e_X6_firstStep ⟨Nat.le_of_ble_eq_true rfl, Nat.le_of_ble_eq_true rfl⟩ hK hP hD hE hS hA 32 wC_at32 rfl rfl hl.1 rfl (Nat.le_of_ble_eq_true rfl) dX1_rule_41 ⟨Nat.le_refl _, Nat.le_refl _⟩) hP hD hS hA (fun x_6 u_6 H locs hw_6 hP hD hS => ?_)
      subst x_6
      refine lv_istore (lv' := [(5, .int r_6), (4, .int r_5), (3, .ref (q 32)), (0, .ref (q 16)), (1, .ref (q 1)), (2, .int p1)]) hx hb dX1_rule_44 hl (by decide) rfl (fun ls hl => ?_)
      exact hJ_46 8589934592 h_6 p1 r_5 r_6 hF H _ ls hP hD hS (lv_sub hl [3, 5, 2, 1, 0] rfl)
    · have hF := ob_pos c_4 hF
      exact hJ_21 h_3 p1 hF H _ ls hP hD hS (lv_sub hl [1, 3] rfl)
  have hF := ob_neg c_1 hF
  by_cases c_7 : (eI h 1 10) = 1
  · have hF := ob_pos c_7 hF
    refine gx_callq (gx_runV (As := [.int (eI h 1 10)]) (rest := []) ⟨hx, hb, hml, hown, hts⟩ (c_textOf_e1 l G cI cJ cZ cB cT q h (eI h 1 10) c_7 H.size) (gG_V m_555 m_556 m_557 m_436 m_558) rfl e_X1_textOf ⟨Nat.le_of_ble_eq_true rfl, Nat.le_of_ble_eq_true rfl⟩ hK hP hD hE hS hA 16 wC_at16 rfl rfl hl.1 rfl (Nat.le_of_ble_eq_true rfl) dX1_rule_5 ⟨Nat.le_refl _, Nat.le_refl _⟩) hP hD hS hA (fun x_8 u_8 H locs hw_8 hP hD hS => ?_)
    subst x_8
    refine W.eq (g2 := F0 m 8 ls [.ref (q 37)]) rfl ?_
    refine lv_astore_n (lv' := [(3, .ref (q 37)), (0, .ref (q 16)), (1, .ref (q 1)), (2, .int p1)]) hx hb dX1_rule_8 rfl hl (by decide) rfl (fun ls hl => ?_)
    refine lv_aload_n hx hb dX1_rule_9 rfl (lv_at hl 0 rfl) ?_
    refine lv_ifnull hx hb dX1_rule_10 ?_
    refine lv_aload_n hx hb dX1_rule_13 rfl (lv_at hl 0 rfl) ?_
    refine lv_iload_n hx hb dX1_rule_14 rfl (lv_at hl 3 rfl) ?_
    obtain ⟨r_9, h_9, e_9, hF⟩ := ob2_some hF
    refine gx_calli (gx_runV (As := [.int p1]) (rest := []) ⟨hx, hb, hml, hown, hts⟩ (c_X6_hasLaw_1 l G cI cJ cZ cB cT q h p1 r_9 h_9 e_9 H.size) (gG_V m_560 m_561 m_562 m_563 m_559) rfl e_X6_hasLaw ⟨Nat.le_of_ble_eq_true rfl, Nat.le_of_ble_eq_true rfl⟩ hK hP hD hE hS hA 37 wC_at37 rfl rfl hl.1 rfl (Nat.le_of_ble_eq_true rfl) dX1_rule_15 ⟨Nat.le_refl _, Nat.le_refl _⟩) hP hD hS hA (fun x_9 u_9 H locs hw_9 hP hD hS => ?_)
    subst x_9
    refine lv_if_ne (tgt := 27) hx hb dX1_rule_18 (by decide) (fun c_10 => ?_) (fun c_10 => ?_)
    · have hF := ob_neg c_10 hF
      refine lv_aload_n hx hb dX1_rule_27 rfl (lv_at hl 1 rfl) ?_
      refine lv_iconst (v := 0) hx hb dX1_rule_28 (by decide) ?_
      refine va_put (D := G) (ci := 1) (v := .int 0) (ty := .int) (C := RX1) (T := TX1) (N := 4) hx hb hts iX1 tyX1 tyX1_ok nmX1 hown hK hP hD hS 16 wC_at16 rfl 3 (by decide) (hts _ m_426) (fun _ h9 => h9) rfl (tyX1_ok 3 (by decide)) rfl rfl (Nat.le_of_ble_eq_true rfl) dX1_rule_29 (fun H locs hP hD hS => ?_)
      rw [wC_sI16_3] at hP hD
      refine lv_aload_n hx hb dX1_rule_32 rfl (lv_at hl 0 rfl) ?_
      refine lv_iload_n hx hb dX1_rule_33 rfl (lv_at hl 3 rfl) ?_
      obtain ⟨r_11, h_11, e_11, hF⟩ := ob2_some hF
      refine gx_calli (gx_runV (As := [.int p1]) (rest := []) ⟨hx, hb, hml, hown, hts⟩ (c_X6_stepsEnd_1 l G cI cJ cZ cB cT q (sI h_9 6 3 0) p1 r_11 h_11 e_11 H.size) (gG_V m_565 m_566 m_567 m_563 m_564) rfl e_X6_stepsEnd ⟨Nat.le_of_ble_eq_true rfl, Nat.le_of_ble_eq_true rfl⟩ hK hP hD hE hS hA 37 wC_at37 rfl rfl hl.1 rfl (Nat.le_of_ble_eq_true rfl) dX1_rule_34 ⟨Nat.le_refl _, Nat.le_refl _⟩) hP hD hS hA (fun x_11 u_11 H locs hw_11 hP hD hS => ?_)
      subst x_11
      refine lv_istore (lv' := [(4, .int r_11), (3, .ref (q 37)), (0, .ref (q 16)), (1, .ref (q 1)), (2, .int p1)]) hx hb dX1_rule_37 hl (by decide) rfl (fun ls hl => ?_)
      refine lv_aload_n hx hb dX1_rule_39 rfl (lv_at hl 1 rfl) ?_
      refine lv_iload_n hx hb dX1_rule_40 rfl (lv_at hl 4 rfl) ?_
      obtain ⟨r_12, h_12, e_12, hF⟩ := ob2_some hF
      refine gx_calli (gx_runV (As := [.int p1]) (rest := []) ⟨hx, hb, hml, hown, hts⟩ (c_X6_firstStep_1 l G cI cJ cZ cB cT q h_11 p1 r_12 h_12 e_12 H.size) (gG_V m_569 m_570 m_571 m_563 m_568) rfl e_X6_firstStep ⟨Nat.le_of_ble_eq_true rfl, Nat.le_of_ble_eq_true rfl⟩ hK hP hD hE hS hA 37 wC_at37 rfl rfl hl.1 rfl (Nat.le_of_ble_eq_true rfl) dX1_rule_41 ⟨Nat.le_refl _, Nat.le_refl _⟩) hP hD hS hA (fun x_12 u_12 H locs hw_12 hP hD hS => ?_)
      subst x_12
      refine lv_istore (lv' := [(5, .int r_12), (4, .int r_11), (3, .ref (q 37)), (0, .ref (q 16)), (1, .ref (q 1)), (2, .int p1)]) hx hb dX1_rule_44 hl (by decide) rfl (fun ls hl => ?_)
      exact hJ_46b 8589934592 h_12 p1 r_11 r_12 hF H _ ls hP hD hS (lv_sub hl [3, 5, 2, 1, 0] rfl)
    · have hF := ob_pos c_10 hF
      exact hJ_21 h_9 p1 hF H _ ls hP hD hS (lv_sub hl [1, 3] rfl)
  have hF := ob_neg c_7 hF
  by_cases c_13 : (eI h 1 10) = 2
  · have hF := ob_pos c_13 hF
    refine gx_callq (gx_runV (As := [.int (eI h 1 10)]) (rest := []) ⟨hx, hb, hml, hown, hts⟩ (c_textOf_e2 l G cI cJ cZ cB cT q h (eI h 1 10) c_13 H.size) (gG_V m_555 m_556 m_557 m_436 m_558) rfl e_X1_textOf ⟨Nat.le_of_ble_eq_true rfl, Nat.le_of_ble_eq_true rfl⟩ hK hP hD hE hS hA 16 wC_at16 rfl rfl hl.1 rfl (Nat.le_of_ble_eq_true rfl) dX1_rule_5 ⟨Nat.le_refl _, Nat.le_refl _⟩) hP hD hS hA (fun x_14 u_14 H locs hw_14 hP hD hS => ?_)
    subst x_14
    refine W.eq (g2 := F0 m 8 ls [.ref (q 42)]) rfl ?_
    refine lv_astore_n (lv' := [(3, .ref (q 42)), (0, .ref (q 16)), (1, .ref (q 1)), (2, .int p1)]) hx hb dX1_rule_8 rfl hl (by decide) rfl (fun ls hl => ?_)
    refine lv_aload_n hx hb dX1_rule_9 rfl (lv_at hl 0 rfl) ?_
    refine lv_ifnull hx hb dX1_rule_10 ?_
    refine lv_aload_n hx hb dX1_rule_13 rfl (lv_at hl 0 rfl) ?_
    refine lv_iload_n hx hb dX1_rule_14 rfl (lv_at hl 3 rfl) ?_
    obtain ⟨r_15, h_15, e_15, hF⟩ := ob2_some hF
    refine gx_calli (gx_runV (As := [.int p1]) (rest := []) ⟨hx, hb, hml, hown, hts⟩ (c_X6_hasLaw_2 l G cI cJ cZ cB cT q h p1 r_15 h_15 e_15 H.size) (gG_V m_560 m_561 m_562 m_563 m_559) rfl e_X6_hasLaw ⟨Nat.le_of_ble_eq_true rfl, Nat.le_of_ble_eq_true rfl⟩ hK hP hD hE hS hA 42 wC_at42 rfl rfl hl.1 rfl (Nat.le_of_ble_eq_true rfl) dX1_rule_15 ⟨Nat.le_refl _, Nat.le_refl _⟩) hP hD hS hA (fun x_15 u_15 H locs hw_15 hP hD hS => ?_)
    subst x_15
    refine lv_if_ne (tgt := 27) hx hb dX1_rule_18 (by decide) (fun c_16 => ?_) (fun c_16 => ?_)
    · have hF := ob_neg c_16 hF
      refine lv_aload_n hx hb dX1_rule_27 rfl (lv_at hl 1 rfl) ?_
      refine lv_iconst (v := 0) hx hb dX1_rule_28 (by decide) ?_
      refine va_put (D := G) (ci := 1) (v := .int 0) (ty := .int) (C := RX1) (T := TX1) (N := 4) hx hb hts iX1 tyX1 tyX1_ok nmX1 hown hK hP hD hS 16 wC_at16 rfl 3 (by decide) (hts _ m_426) (fun _ h9 => h9) rfl (tyX1_ok 3 (by decide)) rfl rfl (Nat.le_of_ble_eq_true rfl) dX1_rule_29 (fun H locs hP hD hS => ?_)
      rw [wC_sI16_3] at hP hD
      refine lv_aload_n hx hb dX1_rule_32 rfl (lv_at hl 0 rfl) ?_
      refine lv_iload_n hx hb dX1_rule_33 rfl (lv_at hl 3 rfl) ?_
      obtain ⟨r_17, h_17, e_17, hF⟩ := ob2_some hF
      refine gx_calli (gx_runV (As := [.int p1]) (rest := []) ⟨hx, hb, hml, hown, hts⟩ (c_X6_stepsEnd_2 l G cI cJ cZ cB cT q (sI h_15 6 3 0) p1 r_17 h_17 e_17 H.size) (gG_V m_565 m_566 m_567 m_563 m_564) rfl e_X6_stepsEnd ⟨Nat.le_of_ble_eq_true rfl, Nat.le_of_ble_eq_true rfl⟩ hK hP hD hE hS hA 42 wC_at42 rfl rfl hl.1 rfl (Nat.le_of_ble_eq_true rfl) dX1_rule_34 ⟨Nat.le_refl _, Nat.le_refl _⟩) hP hD hS hA (fun x_17 u_17 H locs hw_17 hP hD hS => ?_)
      subst x_17
      refine lv_istore (lv' := [(4, .int r_17), (3, .ref (q 42)), (0, .ref (q 16)), (1, .ref (q 1)), (2, .int p1)]) hx hb dX1_rule_37 hl (by decide) rfl (fun ls hl => ?_)
      refine lv_aload_n hx hb dX1_rule_39 rfl (lv_at hl 1 rfl) ?_
      refine lv_iload_n hx hb dX1_rule_40 rfl (lv_at hl 4 rfl) ?_
      obtain ⟨r_18, h_18, e_18, hF⟩ := ob2_some hF
      refine gx_calli (gx_runV (As := [.int p1]) (rest := []) ⟨hx, hb, hml, hown, hts⟩ (c_X6_firstStep_2 l G cI cJ cZ cB cT q h_17 p1 r_18 h_18 e_18 H.size) (gG_V m_569 m_570 m_571 m_563 m_568) rfl e_X6_firstStep ⟨Nat.le_of_ble_eq_true rfl, Nat.le_of_ble_eq_true rfl⟩ hK hP hD hE hS hA 42 wC_at42 rfl rfl hl.1 rfl (Nat.le_of_ble_eq_true rfl) dX1_rule_41 ⟨Nat.le_refl _, Nat.le_refl _⟩) hP hD hS hA (fun x_18 u_18 H locs hw_18 hP hD hS => ?_)
      subst x_18
      refine lv_istore (lv' := [(5, .int r_18), (4, .int r_17), (3, .ref (q 42)), (0, .ref (q 16)), (1, .ref (q 1)), (2, .int p1)]) hx hb dX1_rule_44 hl (by decide) rfl (fun ls hl => ?_)
      exact hJ_46c 8589934592 h_18 p1 r_17 r_18 hF H _ ls hP hD hS (lv_sub hl [3, 5, 2, 1, 0] rfl)
    · have hF := ob_pos c_16 hF
      exact hJ_21 h_15 p1 hF H _ ls hP hD hS (lv_sub hl [1, 3] rfl)
  have hF := ob_neg c_13 hF
  by_cases c_19 : (eI h 1 10) = 3
  · have hF := ob_pos c_19 hF
    refine gx_callq (gx_runV (As := [.int (eI h 1 10)]) (rest := []) ⟨hx, hb, hml, hown, hts⟩ (c_textOf_e3 l G cI cJ cZ cB cT q h (eI h 1 10) c_19 H.size) (gG_V m_555 m_556 m_557 m_436 m_558) rfl e_X1_textOf ⟨Nat.le_of_ble_eq_true rfl, Nat.le_of_ble_eq_true rfl⟩ hK hP hD hE hS hA 16 wC_at16 rfl rfl hl.1 rfl (Nat.le_of_ble_eq_true rfl) dX1_rule_5 ⟨Nat.le_refl _, Nat.le_refl _⟩) hP hD hS hA (fun x_20 u_20 H locs hw_20 hP hD hS => ?_)
    subst x_20
    refine W.eq (g2 := F0 m 8 ls [.ref (q 47)]) rfl ?_
    refine lv_astore_n (lv' := [(3, .ref (q 47)), (0, .ref (q 16)), (1, .ref (q 1)), (2, .int p1)]) hx hb dX1_rule_8 rfl hl (by decide) rfl (fun ls hl => ?_)
    refine lv_aload_n hx hb dX1_rule_9 rfl (lv_at hl 0 rfl) ?_
    refine lv_ifnull hx hb dX1_rule_10 ?_
    refine lv_aload_n hx hb dX1_rule_13 rfl (lv_at hl 0 rfl) ?_
    refine lv_iload_n hx hb dX1_rule_14 rfl (lv_at hl 3 rfl) ?_
    obtain ⟨r_21, h_21, e_21, hF⟩ := ob2_some hF
    refine gx_calli (gx_runV (As := [.int p1]) (rest := []) ⟨hx, hb, hml, hown, hts⟩ (c_X6_hasLaw_3 l G cI cJ cZ cB cT q h p1 r_21 h_21 e_21 H.size) (gG_V m_560 m_561 m_562 m_563 m_559) rfl e_X6_hasLaw ⟨Nat.le_of_ble_eq_true rfl, Nat.le_of_ble_eq_true rfl⟩ hK hP hD hE hS hA 47 wC_at47 rfl rfl hl.1 rfl (Nat.le_of_ble_eq_true rfl) dX1_rule_15 ⟨Nat.le_refl _, Nat.le_refl _⟩) hP hD hS hA (fun x_21 u_21 H locs hw_21 hP hD hS => ?_)
    subst x_21
    refine lv_if_ne (tgt := 27) hx hb dX1_rule_18 (by decide) (fun c_22 => ?_) (fun c_22 => ?_)
    · have hF := ob_neg c_22 hF
      refine lv_aload_n hx hb dX1_rule_27 rfl (lv_at hl 1 rfl) ?_
      refine lv_iconst (v := 0) hx hb dX1_rule_28 (by decide) ?_
      refine va_put (D := G) (ci := 1) (v := .int 0) (ty := .int) (C := RX1) (T := TX1) (N := 4) hx hb hts iX1 tyX1 tyX1_ok nmX1 hown hK hP hD hS 16 wC_at16 rfl 3 (by decide) (hts _ m_426) (fun _ h9 => h9) rfl (tyX1_ok 3 (by decide)) rfl rfl (Nat.le_of_ble_eq_true rfl) dX1_rule_29 (fun H locs hP hD hS => ?_)
      rw [wC_sI16_3] at hP hD
      refine lv_aload_n hx hb dX1_rule_32 rfl (lv_at hl 0 rfl) ?_
      refine lv_iload_n hx hb dX1_rule_33 rfl (lv_at hl 3 rfl) ?_
      obtain ⟨r_23, h_23, e_23, hF⟩ := ob2_some hF
      refine gx_calli (gx_runV (As := [.int p1]) (rest := []) ⟨hx, hb, hml, hown, hts⟩ (c_X6_stepsEnd_3 l G cI cJ cZ cB cT q (sI h_21 6 3 0) p1 r_23 h_23 e_23 H.size) (gG_V m_565 m_566 m_567 m_563 m_564) rfl e_X6_stepsEnd ⟨Nat.le_of_ble_eq_true rfl, Nat.le_of_ble_eq_true rfl⟩ hK hP hD hE hS hA 47 wC_at47 rfl rfl hl.1 rfl (Nat.le_of_ble_eq_true rfl) dX1_rule_34 ⟨Nat.le_refl _, Nat.le_refl _⟩) hP hD hS hA (fun x_23 u_23 H locs hw_23 hP hD hS => ?_)
      subst x_23
      refine lv_istore (lv' := [(4, .int r_23), (3, .ref (q 47)), (0, .ref (q 16)), (1, .ref (q 1)), (2, .int p1)]) hx hb dX1_rule_37 hl (by decide) rfl (fun ls hl => ?_)
      refine lv_aload_n hx hb dX1_rule_39 rfl (lv_at hl 1 rfl) ?_
      refine lv_iload_n hx hb dX1_rule_40 rfl (lv_at hl 4 rfl) ?_
      obtain ⟨r_24, h_24, e_24, hF⟩ := ob2_some hF
      refine gx_calli (gx_runV (As := [.int p1]) (rest := []) ⟨hx, hb, hml, hown, hts⟩ (c_X6_firstStep_3 l G cI cJ cZ cB cT q h_23 p1 r_24 h_24 e_24 H.size) (gG_V m_569 m_570 m_571 m_563 m_568) rfl e_X6_firstStep ⟨Nat.le_of_ble_eq_true rfl, Nat.le_of_ble_eq_true rfl⟩ hK hP hD hE hS hA 47 wC_at47 rfl rfl hl.1 rfl (Nat.le_of_ble_eq_true rfl) dX1_rule_41 ⟨Nat.le_refl _, Nat.le_refl _⟩) hP hD hS hA (fun x_24 u_24 H locs hw_24 hP hD hS => ?_)
      subst x_24
      refine lv_istore (lv' := [(5, .int r_24), (4, .int r_23), (3, .ref (q 47)), (0, .ref (q 16)), (1, .ref (q 1)), (2, .int p1)]) hx hb dX1_rule_44 hl (by decide) rfl (fun ls hl => ?_)
      exact hJ_46d 8589934592 h_24 p1 r_23 r_24 hF H _ ls hP hD hS (lv_sub hl [3, 5, 2, 1, 0] rfl)
    · have hF := ob_pos c_22 hF
      exact hJ_21 h_21 p1 hF H _ ls hP hD hS (lv_sub hl [1, 3] rfl)
  have hF := ob_neg c_19 hF
  refine gx_callq (gx_runV (As := [.int (eI h 1 10)]) (rest := []) ⟨hx, hb, hml, hown, hts⟩ (c_textOf_no l G cI cJ cZ cB cT q h (eI h 1 10) c_1 c_7 c_13 c_19 H.size) (gG_V m_555 m_556 m_557 m_436 m_558) rfl e_X1_textOf ⟨Nat.le_of_ble_eq_true rfl, Nat.le_of_ble_eq_true rfl⟩ hK hP hD hE hS hA 16 wC_at16 rfl rfl hl.1 rfl (Nat.le_of_ble_eq_true rfl) dX1_rule_5 ⟨Nat.le_refl _, Nat.le_refl _⟩) hP hD hS hA (fun x_25 u_25 H locs hw_25 hP hD hS => ?_)
  subst x_25
  refine W.eq (g2 := F0 m 8 ls [.null]) rfl ?_
  refine lv_astore_nN (lv' := [(3, .null), (0, .ref (q 16)), (1, .ref (q 1)), (2, .int p1)]) hx hb dX1_rule_8 rfl hl (by decide) rfl (fun ls hl => ?_)
  refine lv_aload_nN hx hb dX1_rule_9 rfl (lv_at hl 0 rfl) ?_
  refine lv_ifnullN (tgt := 21) hx hb dX1_rule_10 (by decide) ?_
  exact hJ_21 h p1 hF H _ ls hP hD hS (lv_sub hl [1, 3] rfl)
def f_X1_inkCost (h : HS) (p1 : Int32) (p2 : Int32) (p3 : Int32) : Option (Int32 × HS) := (ob1 (f_X1_lookAtFilled h p1 p2 p3) (fun h_1 => (ob2 (f_X1_rule h_1 2) (fun r_2 h_2 => (some (r_2, h_2))))))
theorem e_X1_lookAtFilled : yX1_lookAtFilled.cls = RX1 ∧ yX1_lookAtFilled.cls ≠ "java/lang/invoke/MethodHandle" ∧ yX1_lookAtFilled.cls ≠ "java/lang/invoke/VarHandle" ∧ (parseMethodDescriptor yX1_lookAtFilled.desc).map (fun d => d.parameters.length) = some 4 := by decide +kernel
theorem e_X1_rule : yX1_rule.cls = RX1 ∧ yX1_rule.cls ≠ "java/lang/invoke/MethodHandle" ∧ yX1_rule.cls ≠ "java/lang/invoke/VarHandle" ∧ (parseMethodDescriptor yX1_rule.desc).map (fun d => d.parameters.length) = some 2 := by decide +kernel
set_option maxHeartbeats 4000000 in
set_option maxRecDepth 100000 in
theorem c_X1_inkCost (l : Launch) (G : va_G) (cI cJ cZ cB cT : ClassId) (q : Nat → Nat) (h : HS) (p1 : Int32) (p2 : Int32) (p3 : Int32) (rr : Int32) (hh : HS) (hF : f_X1_inkCost h p1 p2 p3 = some (rr, hh)) : gMi l yX1_inkCost (gws yX1_inkCost cX1_inkCost 5 (some .int)) 4 G (gT cI cJ cZ cB cT) [.ref (q 16), .ref (q 1), .int p1, .int p2, .int p3] (wC q cI cJ cZ cB cT h) (fun x (_ : Unit) => x = rr) (fun (_ : Unit) => (wC q cI cJ cZ cB cT hh)) := by
  intro sz
  refine gM_start (y := yX1_inkCost) (av := [.ref (q 16), .ref (q 1), .int p1, .int p2, .int p3]) (ws := (wC q cI cJ cZ cB cT h)) (Qf := fun A => va_Qi (fun x (_ : Unit) => x = rr) (gB G (fun (_ : Unit) => (wC q cI cJ cZ cB cT hh)) A) A) (cc := cX1_inkCost) (maxL := 5) (ret := (some .int)) (by decide) (Nat.le_of_ble_eq_true rfl) ?_
  intro p e s m args below meth c A ls H hx hb hr hts hown hin hlocks hml hP hK hD hA hS hl hE
  have hl : lv_has ls 5 [(0, .ref (q 16)), (1, .ref (q 1)), (2, .int p1), (3, .int p2), (4, .int p3)] := hl
  unfold f_X1_inkCost at hF
  refine lv_aload_n hx hb dX1_inkCost_0 rfl (lv_at hl 0 rfl) ?_
  refine lv_aload_n hx hb dX1_inkCost_1 rfl (lv_at hl 1 rfl) ?_
  refine lv_iload_n hx hb dX1_inkCost_2 rfl (lv_at hl 2 rfl) ?_
  refine lv_iload_n hx hb dX1_inkCost_3 rfl (lv_at hl 3 rfl) ?_
  refine lv_iload hx hb dX1_inkCost_4 (lv_at hl 4 rfl) ?_
  obtain ⟨h_1, e_1, hF⟩ := ob1_some hF
  refine gx_callv (gx_runV (As := [.ref (q 1), .int p1, .int p2, .int p3]) (rest := []) ⟨hx, hb, hml, hown, hts⟩ (c_X1_lookAtFilled l G cI cJ cZ cB cT q h p1 p2 p3 h_1 e_1 H.size) (gG_V m_587 m_588 m_589 m_436 m_586) rfl e_X1_lookAtFilled ⟨Nat.le_of_ble_eq_true rfl, Nat.le_of_ble_eq_true rfl⟩ hK hP hD hE hS hA 16 wC_at16 rfl rfl hl.1 rfl (Nat.le_of_ble_eq_true rfl) dX1_inkCost_6 ⟨Nat.le_refl _, Nat.le_refl _⟩) hP hD hS hA (fun u_1 H locs hw_1 hP hD hS => ?_)
  refine lv_aload_n hx hb dX1_inkCost_9 rfl (lv_at hl 0 rfl) ?_
  refine lv_aload_n hx hb dX1_inkCost_10 rfl (lv_at hl 1 rfl) ?_
  refine lv_iconst (v := 2) hx hb dX1_inkCost_11 (by decide) ?_
  obtain ⟨r_2, h_2, e_2, hF⟩ := ob2_some hF
  refine gx_calli (gx_runV (As := [.ref (q 1), .int 2]) (rest := []) ⟨hx, hb, hml, hown, hts⟩ (c_X1_rule l G cI cJ cZ cB cT q h_1 2 r_2 h_2 e_2 H.size) (gG_V m_591 m_592 m_593 m_436 m_590) rfl e_X1_rule ⟨Nat.le_of_ble_eq_true rfl, Nat.le_of_ble_eq_true rfl⟩ hK hP hD hE hS hA 16 wC_at16 rfl rfl hl.1 rfl (Nat.le_of_ble_eq_true rfl) dX1_inkCost_12 ⟨Nat.le_refl _, Nat.le_refl _⟩) hP hD hS hA (fun x_2 u_2 H locs hw_2 hP hD hS => ?_)
  subst x_2
  obtain ⟨rfl, rfl⟩ := ob_pair hF
  exact gw_iret () hx hb hr hlocks hP hD hS rfl dX1_inkCost_15
def f_X1_isTrue_20 (h : HS) (y0 : Int32) : Option (Int32 × HS) := (if y0 = 0 ∨ y0 = 1 then (some (y0, h)) else none)
def f_X1_isTrue (h : HS) (p1 : Int32) : Option (Int32 × HS) := (ob1 (f_X1_lookAt h p1) (fun h_1 => (ob2 (f_X1_rule h_1 3) (fun r_2 h_2 => (if r_2 = 0 then (f_X1_isTrue_20 h_2 0) else (f_X1_isTrue_20 h_2 1))))))
set_option maxHeartbeats 4000000 in
set_option maxRecDepth 100000 in
theorem c_X1_isTrue (l : Launch) (G : va_G) (cI cJ cZ cB cT : ClassId) (q : Nat → Nat) (h : HS) (p1 : Int32) (rr : Int32) (hh : HS) (hF : f_X1_isTrue h p1 = some (rr, hh)) : gMi l yX1_isTrue (gws yX1_isTrue cX1_isTrue 3 (some .boolean)) 4 G (gT cI cJ cZ cB cT) [.ref (q 16), .ref (q 1), .int p1] (wC q cI cJ cZ cB cT h) (fun x (_ : Unit) => x = rr) (fun (_ : Unit) => (wC q cI cJ cZ cB cT hh)) := by
  intro sz
  refine gM_start (y := yX1_isTrue) (av := [.ref (q 16), .ref (q 1), .int p1]) (ws := (wC q cI cJ cZ cB cT h)) (Qf := fun A => va_Qi (fun x (_ : Unit) => x = rr) (gB G (fun (_ : Unit) => (wC q cI cJ cZ cB cT hh)) A) A) (cc := cX1_isTrue) (maxL := 3) (ret := (some .boolean)) (by decide) (Nat.le_of_ble_eq_true rfl) ?_
  intro p e s m args below meth c A ls H hx hb hr hts hown hin hlocks hml hP hK hD hA hS hl hE
  have hl : lv_has ls 3 [(0, .ref (q 16)), (1, .ref (q 1)), (2, .int p1)] := hl
  have hJ_20 : ∀ (h : HS) (y0 : Int32), f_X1_isTrue_20 h y0 = some (rr, hh) → ∀ (H : Heap) (locs : List Loc) (ls : Array Slot), va_P G vwCl (wC q cI cJ cZ cB cT h) H → va_D A (wC q cI cJ cZ cB cT h) → va_S A s.heap H locs → lv_has ls 3 [] → W p l e (gRm 4) s m args below meth c H locs 0 0 (MQ below (va_Qi (fun x (_ : Unit) => x = rr) (gB G (fun (_ : Unit) => (wC q cI cJ cZ cB cT hh)) A) A) args s 0 0 A) (F0 m 20 ls [.int y0]) := by
    intro h y0 hF H locs ls hP hD hS hl
    unfold f_X1_isTrue_20 at hF
    obtain ⟨hz_4, hF⟩ := ob_if hF
    obtain ⟨rfl, rfl⟩ := ob_pair hF
    exact gw_zret () hx hb hr hlocks (gz hz_4) hP hD hS rfl dX1_isTrue_20
  unfold f_X1_isTrue at hF
  refine lv_aload_n hx hb dX1_isTrue_0 rfl (lv_at hl 0 rfl) ?_
  refine lv_aload_n hx hb dX1_isTrue_1 rfl (lv_at hl 1 rfl) ?_
  refine lv_iload_n hx hb dX1_isTrue_2 rfl (lv_at hl 2 rfl) ?_
  obtain ⟨h_1, e_1, hF⟩ := ob1_some hF
  refine gx_callv (gx_runV (As := [.ref (q 1), .int p1]) (rest := []) ⟨hx, hb, hml, hown, hts⟩ (c_X1_lookAt l G cI cJ cZ cB cT q h p1 h_1 e_1 H.size) (gG_V m_448 m_449 m_450 m_436 m_447) rfl e_X1_lookAt ⟨Nat.le_of_ble_eq_true rfl, Nat.le_of_ble_eq_true rfl⟩ hK hP hD hE hS hA 16 wC_at16 rfl rfl hl.1 rfl (Nat.le_of_ble_eq_true rfl) dX1_isTrue_3 ⟨Nat.le_refl _, Nat.le_refl _⟩) hP hD hS hA (fun u_1 H locs hw_1 hP hD hS => ?_)
  refine lv_aload_n hx hb dX1_isTrue_6 rfl (lv_at hl 0 rfl) ?_
  refine lv_aload_n hx hb dX1_isTrue_7 rfl (lv_at hl 1 rfl) ?_
  refine lv_iconst (v := 3) hx hb dX1_isTrue_8 (by decide) ?_
  obtain ⟨r_2, h_2, e_2, hF⟩ := ob2_some hF
  refine gx_calli (gx_runV (As := [.ref (q 1), .int 3]) (rest := []) ⟨hx, hb, hml, hown, hts⟩ (c_X1_rule l G cI cJ cZ cB cT q h_1 3 r_2 h_2 e_2 H.size) (gG_V m_591 m_592 m_593 m_436 m_590) rfl e_X1_rule ⟨Nat.le_of_ble_eq_true rfl, Nat.le_of_ble_eq_true rfl⟩ hK hP hD hE hS hA 16 wC_at16 rfl rfl hl.1 rfl (Nat.le_of_ble_eq_true rfl) dX1_isTrue_9 ⟨Nat.le_refl _, Nat.le_refl _⟩) hP hD hS hA (fun x_2 u_2 H locs hw_2 hP hD hS => ?_)
  subst x_2
  refine lv_if_eq (tgt := 19) hx hb dX1_isTrue_12 (by decide) (fun c_3 => ?_) (fun c_3 => ?_)
  · have hF := ob_pos c_3 hF
    refine lv_iconst (v := 0) hx hb dX1_isTrue_19 (by decide) ?_
    exact hJ_20 h_2 0 hF H _ ls hP hD hS (lv_sub hl [] rfl)
  · have hF := ob_neg c_3 hF
    refine lv_iconst (v := 1) hx hb dX1_isTrue_15 (by decide) ?_
    refine lv_goto (tgt := 20) hx hb dX1_isTrue_16 (by decide) ?_
    exact hJ_20 h_2 1 hF H _ ls hP hD hS (lv_sub hl [] rfl)
def f_X1_isTrueWith_27 (h : HS) (y0 : Int32) : Option (Int32 × HS) := (if y0 = 0 ∨ y0 = 1 then (some (y0, h)) else none)
def f_X1_isTrueWith (h : HS) (p1 : Int32) (p2 : Int32) : Option (Int32 × HS) := (ob1 (f_X1_lookAt h p1) (fun h_1 => (ob2 (f_X1_rule (sA h_1 6 1 (upd (eA h_1 6 1) 2 p2)) 3) (fun r_2 h_2 => (if r_2 = 0 then (f_X1_isTrueWith_27 h_2 0) else (f_X1_isTrueWith_27 h_2 1))))))
set_option maxHeartbeats 4000000 in
set_option maxRecDepth 100000 in
theorem c_X1_isTrueWith (l : Launch) (G : va_G) (cI cJ cZ cB cT : ClassId) (q : Nat → Nat) (h : HS) (p1 : Int32) (p2 : Int32) (rr : Int32) (hh : HS) (hF : f_X1_isTrueWith h p1 p2 = some (rr, hh)) : gMi l yX1_isTrueWith (gws yX1_isTrueWith cX1_isTrueWith 4 (some .boolean)) 4 G (gT cI cJ cZ cB cT) [.ref (q 16), .ref (q 1), .int p1, .int p2] (wC q cI cJ cZ cB cT h) (fun x (_ : Unit) => x = rr) (fun (_ : Unit) => (wC q cI cJ cZ cB cT hh)) := by
  intro sz
  refine gM_start (y := yX1_isTrueWith) (av := [.ref (q 16), .ref (q 1), .int p1, .int p2]) (ws := (wC q cI cJ cZ cB cT h)) (Qf := fun A => va_Qi (fun x (_ : Unit) => x = rr) (gB G (fun (_ : Unit) => (wC q cI cJ cZ cB cT hh)) A) A) (cc := cX1_isTrueWith) (maxL := 4) (ret := (some .boolean)) (by decide) (Nat.le_of_ble_eq_true rfl) ?_
  intro p e s m args below meth c A ls H hx hb hr hts hown hin hlocks hml hP hK hD hA hS hl hE
  have hl : lv_has ls 4 [(0, .ref (q 16)), (1, .ref (q 1)), (2, .int p1), (3, .int p2)] := hl
  have hJ_27 : ∀ (h : HS) (y0 : Int32), f_X1_isTrueWith_27 h y0 = some (rr, hh) → ∀ (H : Heap) (locs : List Loc) (ls : Array Slot), va_P G vwCl (wC q cI cJ cZ cB cT h) H → va_D A (wC q cI cJ cZ cB cT h) → va_S A s.heap H locs → lv_has ls 4 [] → W p l e (gRm 4) s m args below meth c H locs 0 0 (MQ below (va_Qi (fun x (_ : Unit) => x = rr) (gB G (fun (_ : Unit) => (wC q cI cJ cZ cB cT hh)) A) A) args s 0 0 A) (F0 m 27 ls [.int y0]) := by
    intro h y0 hF H locs ls hP hD hS hl
    unfold f_X1_isTrueWith_27 at hF
    obtain ⟨hz_4, hF⟩ := ob_if hF
    obtain ⟨rfl, rfl⟩ := ob_pair hF
    exact gw_zret () hx hb hr hlocks (gz hz_4) hP hD hS rfl dX1_isTrueWith_27
  unfold f_X1_isTrueWith at hF
  refine lv_aload_n hx hb dX1_isTrueWith_0 rfl (lv_at hl 0 rfl) ?_
  refine lv_aload_n hx hb dX1_isTrueWith_1 rfl (lv_at hl 1 rfl) ?_
  refine lv_iload_n hx hb dX1_isTrueWith_2 rfl (lv_at hl 2 rfl) ?_
  obtain ⟨h_1, e_1, hF⟩ := ob1_some hF
  refine gx_callv (gx_runV (As := [.ref (q 1), .int p1]) (rest := []) ⟨hx, hb, hml, hown, hts⟩ (c_X1_lookAt l G cI cJ cZ cB cT q h p1 h_1 e_1 H.size) (gG_V m_448 m_449 m_450 m_436 m_447) rfl e_X1_lookAt ⟨Nat.le_of_ble_eq_true rfl, Nat.le_of_ble_eq_true rfl⟩ hK hP hD hE hS hA 16 wC_at16 rfl rfl hl.1 rfl (Nat.le_of_ble_eq_true rfl) dX1_isTrueWith_3 ⟨Nat.le_refl _, Nat.le_refl _⟩) hP hD hS hA (fun u_1 H locs hw_1 hP hD hS => ?_)
  refine lv_aload_n hx hb dX1_isTrueWith_6 rfl (lv_at hl 0 rfl) ?_
  refine va_get (D := G) (ci := 1) (v := .ref (q 18)) (C := RX1) (T := TX1) (N := 4) hx hb hts iX1 hown hK hP 16 wC_at16 rfl 1 (by decide) (hts _ m_444) (fun _ h9 => h9) rfl dX1_isTrueWith_7 ?_
  refine lv_iconst (v := 2) hx hb dX1_isTrueWith_10 (by decide) ?_
  refine lv_iload_n hx hb dX1_isTrueWith_11 rfl (lv_at hl 3 rfl) ?_
  refine va_iast (D := G) hx hb hK hP hD hS 18 0 wC_at18 rfl (vp_in_nI (n := 2) (by decide) (by decide)) dX1_isTrueWith_12 (fun H locs hP hD hS => ?_)
  rw [wC_sA18] at hP hD
  have hP : va_P G vwCl (wC q cI cJ cZ cB cT (sA h_1 6 1 (upd (eA h_1 6 1) 2 p2))) H := hP
  have hD : va_D A (wC q cI cJ cZ cB cT (sA h_1 6 1 (upd (eA h_1 6 1) 2 p2))) := hD
  refine lv_aload_n hx hb dX1_isTrueWith_13 rfl (lv_at hl 0 rfl) ?_
  refine lv_aload_n hx hb dX1_isTrueWith_14 rfl (lv_at hl 1 rfl) ?_
  refine lv_iconst (v := 3) hx hb dX1_isTrueWith_15 (by decide) ?_
  obtain ⟨r_2, h_2, e_2, hF⟩ := ob2_some hF
  refine gx_calli (gx_runV (As := [.ref (q 1), .int 3]) (rest := []) ⟨hx, hb, hml, hown, hts⟩ (c_X1_rule l G cI cJ cZ cB cT q (sA h_1 6 1 (upd (eA h_1 6 1) 2 p2)) 3 r_2 h_2 e_2 H.size) (gG_V m_591 m_592 m_593 m_436 m_590) rfl e_X1_rule ⟨Nat.le_of_ble_eq_true rfl, Nat.le_of_ble_eq_true rfl⟩ hK hP hD hE hS hA 16 wC_at16 rfl rfl hl.1 rfl (Nat.le_of_ble_eq_true rfl) dX1_isTrueWith_16 ⟨Nat.le_refl _, Nat.le_refl _⟩) hP hD hS hA (fun x_2 u_2 H locs hw_2 hP hD hS => ?_)
  subst x_2
  refine lv_if_eq (tgt := 26) hx hb dX1_isTrueWith_19 (by decide) (fun c_3 => ?_) (fun c_3 => ?_)
  · have hF := ob_pos c_3 hF
    refine lv_iconst (v := 0) hx hb dX1_isTrueWith_26 (by decide) ?_
    exact hJ_27 h_2 0 hF H _ ls hP hD hS (lv_sub hl [] rfl)
  · have hF := ob_neg c_3 hF
    refine lv_iconst (v := 1) hx hb dX1_isTrueWith_22 (by decide) ?_
    refine lv_goto (tgt := 27) hx hb dX1_isTrueWith_23 (by decide) ?_
    exact hJ_27 h_2 1 hF H _ ls hP hD hS (lv_sub hl [] rfl)
