def f_X7_wordKind_106 (k12 : HS → Int32 → Int32 → Int32 → Int32 → Int32 → Int32 → Option (Int32 × HS)) (h : HS) (x1 : Int32) (x2 : Int32) (x3 : Int32) (x4 : Int32) (x5 : Int32) (x6 : Int32) : Option (Int32 × HS) := (k12 h x1 x2 x3 x4 x5 (x6 + 1))
def f_X7_wordKind_94 (k12 : HS → Int32 → Int32 → Int32 → Int32 → Int32 → Int32 → Option (Int32 × HS)) (h : HS) (x1 : Int32) (x2 : Int32) (x3 : Int32) (x6 : Int32) : Option (Int32 × HS) := (f_X7_wordKind_106 k12 h x1 x2 (x3 + 1) (x6 + 1) 1 x6)
def f_X7_wordKind_73 (k12 : HS → Int32 → Int32 → Int32 → Int32 → Int32 → Int32 → Option (Int32 × HS)) (h : HS) (x1 : Int32) (x2 : Int32) (x3 : Int32) (x4 : Int32) (x6 : Int32) (y0 : Int32) : Option (Int32 × HS) := (f_X7_wordKind_106 k12 h x1 x2 x3 x4 y0 x6)
def f_X7_wordKind_72 (k12 : HS → Int32 → Int32 → Int32 → Int32 → Int32 → Int32 → Option (Int32 × HS)) (h : HS) (x1 : Int32) (x2 : Int32) (x3 : Int32) (x4 : Int32) (x6 : Int32) : Option (Int32 × HS) := (f_X7_wordKind_73 k12 h x1 x2 x3 x4 x6 0)
def f_X7_wordKind_12 : Nat → HS → Int32 → Int32 → Int32 → Int32 → Int32 → Int32 → Option (Int32 × HS)
  | 0, _, _, _, _, _, _, _ => none
  | n + 1, h, x1, x2, x3, x4, x5, x6 => (ob1 (f_J0_length) (fun r_1 => (if r_1 ≤ x6 then (some (1, h)) else (ob1 (f_J0_charAt x6) (fun r_3 => (if r_3 = 32 then (if x5 = 0 then (f_X7_wordKind_94 (f_X7_wordKind_12 n) h x1 x2 x3 x6) else (if (x6 - x4) = x2 then (some (x3, h)) else (f_X7_wordKind_94 (f_X7_wordKind_12 n) h x1 x2 x3 x6))) else (if x5 = 0 then (f_X7_wordKind_72 (f_X7_wordKind_12 n) h x1 x2 x3 x4 x6) else (if x2 ≤ (x6 - x4) then (f_X7_wordKind_72 (f_X7_wordKind_12 n) h x1 x2 x3 x4 x6) else (ob2 (f_X5_byteAt h ((x1 + x6) - x4)) (fun r_9 h_9 => (if r_9 = r_3 then (f_X7_wordKind_73 (f_X7_wordKind_12 n) h_9 x1 x2 x3 x4 x6 1) else (f_X7_wordKind_72 (f_X7_wordKind_12 n) h_9 x1 x2 x3 x4 x6))))))))))))
theorem f_X7_wordKind_12_s (n : Nat) (h : HS) (x1 : Int32) (x2 : Int32) (x3 : Int32) (x4 : Int32) (x5 : Int32) (x6 : Int32) : f_X7_wordKind_12 (n + 1) h x1 x2 x3 x4 x5 x6 = (ob1 (f_J0_length) (fun r_1 => (if r_1 ≤ x6 then (some (1, h)) else (ob1 (f_J0_charAt x6) (fun r_3 => (if r_3 = 32 then (if x5 = 0 then (f_X7_wordKind_94 (f_X7_wordKind_12 n) h x1 x2 x3 x6) else (if (x6 - x4) = x2 then (some (x3, h)) else (f_X7_wordKind_94 (f_X7_wordKind_12 n) h x1 x2 x3 x6))) else (if x5 = 0 then (f_X7_wordKind_72 (f_X7_wordKind_12 n) h x1 x2 x3 x4 x6) else (if x2 ≤ (x6 - x4) then (f_X7_wordKind_72 (f_X7_wordKind_12 n) h x1 x2 x3 x4 x6) else (ob2 (f_X5_byteAt h ((x1 + x6) - x4)) (fun r_9 h_9 => (if r_9 = r_3 then (f_X7_wordKind_73 (f_X7_wordKind_12 n) h_9 x1 x2 x3 x4 x6 1) else (f_X7_wordKind_72 (f_X7_wordKind_12 n) h_9 x1 x2 x3 x4 x6)))))))))))) := rfl
def f_X7_wordKind (h : HS) (p1 : Int32) (p2 : Int32) : Option (Int32 × HS) := (f_X7_wordKind_12 8589934592 h p1 p2 16 0 1 0)
set_option maxHeartbeats 4000000 in
set_option maxRecDepth 100000 in
theorem c_X7_wordKind (l : Launch) (G : va_G) (cI cJ cZ cB cT : ClassId) (q : Nat → Nat) (h : HS) (p1 : Int32) (p2 : Int32) (rr : Int32) (hh : HS) (hF : f_X7_wordKind h p1 p2 = some (rr, hh)) : gMi l yX7_wordKind (gws yX7_wordKind cX7_wordKind 8 (some .int)) 5 G (gT cI cJ cZ cB cT) [.ref (q 9), .int p1, .int p2] (wC q cI cJ cZ cB cT h) (fun x (_ : Unit) => x = rr) (fun (_ : Unit) => (wC q cI cJ cZ cB cT hh)) := by
  intro sz
  refine gM_start (y := yX7_wordKind) (av := [.ref (q 9), .int p1, .int p2]) (ws := (wC q cI cJ cZ cB cT h)) (Qf := fun A => va_Qi (fun x (_ : Unit) => x = rr) (gB G (fun (_ : Unit) => (wC q cI cJ cZ cB cT hh)) A) A) (cc := cX7_wordKind) (maxL := 8) (ret := (some .int)) (by decide) (Nat.le_of_ble_eq_true rfl) ?_
  intro p e s m args below meth c A ls H hx hb hr hts hown hin hlocks hml hP hK hD hA hS hl hE
  have hl : lv_has ls 8 [(0, .ref (q 9)), (1, .int p1), (2, .int p2)] := hl
  have hJ_12 : ∀ (n_12 : Nat) (h : HS) (x1 : Int32) (x2 : Int32) (x3 : Int32) (x4 : Int32) (x5 : Int32) (x6 : Int32), f_X7_wordKind_12 n_12 h x1 x2 x3 x4 x5 x6 = some (rr, hh) → ∀ (H : Heap) (locs : List Loc) (ls : Array Slot), va_P G vwCl (wC q cI cJ cZ cB cT h) H → va_D A (wC q cI cJ cZ cB cT h) → va_S A s.heap H locs → lv_has ls 8 [(0, .ref (q 9)), (1, .int x1), (2, .int x2), (3, .int x3), (4, .int x4), (5, .int x5), (6, .int x6)] → W p l e (gRm 5) s m args below meth c H locs 0 0 (MQ below (va_Qi (fun x (_ : Unit) => x = rr) (gB G (fun (_ : Unit) => (wC q cI cJ cZ cB cT hh)) A) A) args s 0 0 A) (F0 m 12 ls []) := by
    intro n_12
    induction n_12 with
    | zero =>
      intro h x1 x2 x3 x4 x5 x6 hF
      exact absurd hF (by simp [f_X7_wordKind_12])
    | succ n_12 ih_12 =>
      have hJ_106 : ∀ (h : HS) (x1 : Int32) (x2 : Int32) (x3 : Int32) (x4 : Int32) (x5 : Int32) (x6 : Int32), f_X7_wordKind_106 (f_X7_wordKind_12 n_12) h x1 x2 x3 x4 x5 x6 = some (rr, hh) → ∀ (H : Heap) (locs : List Loc) (ls : Array Slot), va_P G vwCl (wC q cI cJ cZ cB cT h) H → va_D A (wC q cI cJ cZ cB cT h) → va_S A s.heap H locs → lv_has ls 8 [(0, .ref (q 9)), (1, .int x1), (2, .int x2), (3, .int x3), (4, .int x4), (5, .int x5), (6, .int x6)] → W p l e (gRm 5) s m args below meth c H locs 0 0 (MQ below (va_Qi (fun x (_ : Unit) => x = rr) (gB G (fun (_ : Unit) => (wC q cI cJ cZ cB cT hh)) A) A) args s 0 0 A) (F0 m 106 ls []) := by
        intro h x1 x2 x3 x4 x5 x6 hF H locs ls hP hD hS hl
        unfold f_X7_wordKind_106 at hF
        refine lv_iinc (v := (x6 + 1)) (lv' := [(6, .int (x6 + 1)), (0, .ref (q 9)), (1, .int x1), (2, .int x2), (3, .int x3), (4, .int x4), (5, .int x5)]) hx hb dX7_wordKind_106 hl (k := 6) rfl rfl (by decide) rfl (fun ls hl => ?_)
        refine lv_goto (tgt := 12) hx hb dX7_wordKind_109 (by decide) ?_
        exact ih_12 h x1 x2 x3 x4 x5 (x6 + 1) hF H _ ls hP hD hS (lv_sub hl [1, 2, 3, 4, 5, 6, 0] rfl)
      have hJ_94 : ∀ (h : HS) (x1 : Int32) (x2 : Int32) (x3 : Int32) (x6 : Int32), f_X7_wordKind_94 (f_X7_wordKind_12 n_12) h x1 x2 x3 x6 = some (rr, hh) → ∀ (H : Heap) (locs : List Loc) (ls : Array Slot), va_P G vwCl (wC q cI cJ cZ cB cT h) H → va_D A (wC q cI cJ cZ cB cT h) → va_S A s.heap H locs → lv_has ls 8 [(0, .ref (q 9)), (1, .int x1), (2, .int x2), (3, .int x3), (6, .int x6)] → W p l e (gRm 5) s m args below meth c H locs 0 0 (MQ below (va_Qi (fun x (_ : Unit) => x = rr) (gB G (fun (_ : Unit) => (wC q cI cJ cZ cB cT hh)) A) A) args s 0 0 A) (F0 m 94 ls []) := by
        intro h x1 x2 x3 x6 hF H locs ls hP hD hS hl
        unfold f_X7_wordKind_94 at hF
        refine lv_iinc (v := (x3 + 1)) (lv' := [(3, .int (x3 + 1)), (0, .ref (q 9)), (1, .int x1), (2, .int x2), (6, .int x6)]) hx hb dX7_wordKind_94 hl (k := 3) rfl rfl (by decide) rfl (fun ls hl => ?_)
        refine lv_iload hx hb dX7_wordKind_97 (lv_at hl 4 rfl) ?_
        refine lv_iconst (v := 1) hx hb dX7_wordKind_99 (by decide) ?_
        refine lv_iadd hx hb dX7_wordKind_100 ?_
        refine lv_istore (lv' := [(4, .int (x6 + 1)), (3, .int (x3 + 1)), (0, .ref (q 9)), (1, .int x1), (2, .int x2), (6, .int x6)]) hx hb dX7_wordKind_101 hl (by decide) rfl (fun ls hl => ?_)
        refine lv_iconst (v := 1) hx hb dX7_wordKind_103 (by decide) ?_
        refine lv_istore (lv' := [(5, .int 1), (4, .int (x6 + 1)), (3, .int (x3 + 1)), (0, .ref (q 9)), (1, .int x1), (2, .int x2), (6, .int x6)]) hx hb dX7_wordKind_104 hl (by decide) rfl (fun ls hl => ?_)
        exact hJ_106 h x1 x2 (x3 + 1) (x6 + 1) 1 x6 hF H _ ls hP hD hS (lv_sub hl [3, 4, 5, 2, 1, 0, 6] rfl)
      have hJ_73 : ∀ (h : HS) (x1 : Int32) (x2 : Int32) (x3 : Int32) (x4 : Int32) (x6 : Int32) (y0 : Int32), f_X7_wordKind_73 (f_X7_wordKind_12 n_12) h x1 x2 x3 x4 x6 y0 = some (rr, hh) → ∀ (H : Heap) (locs : List Loc) (ls : Array Slot), va_P G vwCl (wC q cI cJ cZ cB cT h) H → va_D A (wC q cI cJ cZ cB cT h) → va_S A s.heap H locs → lv_has ls 8 [(0, .ref (q 9)), (1, .int x1), (2, .int x2), (3, .int x3), (4, .int x4), (6, .int x6)] → W p l e (gRm 5) s m args below meth c H locs 0 0 (MQ below (va_Qi (fun x (_ : Unit) => x = rr) (gB G (fun (_ : Unit) => (wC q cI cJ cZ cB cT hh)) A) A) args s 0 0 A) (F0 m 73 ls [.int y0]) := by
        intro h x1 x2 x3 x4 x6 y0 hF H locs ls hP hD hS hl
        unfold f_X7_wordKind_73 at hF
        refine lv_istore (lv' := [(5, .int y0), (0, .ref (q 9)), (1, .int x1), (2, .int x2), (3, .int x3), (4, .int x4), (6, .int x6)]) hx hb dX7_wordKind_73 hl (by decide) rfl (fun ls hl => ?_)
        refine lv_goto (tgt := 106) hx hb dX7_wordKind_75 (by decide) ?_
        exact hJ_106 h x1 x2 x3 x4 y0 x6 hF H _ ls hP hD hS (lv_sub hl [1, 2, 3, 4, 5, 0, 6] rfl)
      have hJ_72 : ∀ (h : HS) (x1 : Int32) (x2 : Int32) (x3 : Int32) (x4 : Int32) (x6 : Int32), f_X7_wordKind_72 (f_X7_wordKind_12 n_12) h x1 x2 x3 x4 x6 = some (rr, hh) → ∀ (H : Heap) (locs : List Loc) (ls : Array Slot), va_P G vwCl (wC q cI cJ cZ cB cT h) H → va_D A (wC q cI cJ cZ cB cT h) → va_S A s.heap H locs → lv_has ls 8 [(0, .ref (q 9)), (1, .int x1), (2, .int x2), (3, .int x3), (4, .int x4), (6, .int x6)] → W p l e (gRm 5) s m args below meth c H locs 0 0 (MQ below (va_Qi (fun x (_ : Unit) => x = rr) (gB G (fun (_ : Unit) => (wC q cI cJ cZ cB cT hh)) A) A) args s 0 0 A) (F0 m 72 ls []) := by
        intro h x1 x2 x3 x4 x6 hF H locs ls hP hD hS hl
        unfold f_X7_wordKind_72 at hF
        refine lv_iconst (v := 0) hx hb dX7_wordKind_72 (by decide) ?_
        exact hJ_73 h x1 x2 x3 x4 x6 0 hF H _ ls hP hD hS (lv_sub hl [0, 1, 2, 3, 4, 5] rfl)
      intro h x1 x2 x3 x4 x5 x6 hF H locs ls hP hD hS hl
      rw [f_X7_wordKind_12_s] at hF
      refine lv_iload hx hb dX7_wordKind_12 (lv_at hl 6 rfl) ?_
      refine va_ldcS hx hb hown hE.2.2.2.1.1 dX7_wordKind_14 ?_
      obtain ⟨r_1, e_1, hF⟩ := ob1_some hF
      refine gx_calli0 (gx_runV0 (As := []) (rest := [.int x6]) ⟨hx, hb, hml, hown, hts⟩ (c_J0_length_8abf5 l G cI cJ cZ cB cT    r_1 e_1 H.size) (gG_V m_525 m_526 m_527 m_511 m_524) rfl e_J0_length_8abf5 ⟨Nat.le_of_ble_eq_true rfl, Nat.le_of_ble_eq_true rfl⟩ hK hE hS hA (vk_recv hE.2.2.2.1.2 (i := 0) (by decide) hS) rfl hl.1 rfl (Nat.le_of_ble_eq_true rfl) dX7_wordKind_16 ⟨Nat.le_refl _, Nat.le_refl _⟩) hP hD hS hA (fun x_1 u_1 H locs hw_1 hP hD hS => ?_)
      subst x_1
      refine lv_icmp_ge (tgt := 112) hx hb dX7_wordKind_19 (by decide) (fun c_2 => ?_) (fun c_2 => ?_)
      · have hF := ob_pos c_2 hF
        refine lv_iconst (v := 1) hx hb dX7_wordKind_112 (by decide) ?_
        obtain ⟨rfl, rfl⟩ := ob_pair hF
        exact gw_iret () hx hb hr hlocks hP hD hS rfl dX7_wordKind_113
      · have hF := ob_neg c_2 hF
        refine va_ldcS hx hb hown hE.2.2.2.1.1 dX7_wordKind_22 ?_
        refine lv_iload hx hb dX7_wordKind_24 (lv_at hl 6 rfl) ?_
        obtain ⟨r_3, e_3, hF⟩ := ob1_some hF
        refine gx_calli0 (gx_runV0 (As := [.int x6]) (rest := []) ⟨hx, hb, hml, hown, hts⟩ (c_J0_charAt_5068e l G cI cJ cZ cB cT   x6 r_3 e_3 H.size) (gG_V m_529 m_530 m_531 m_511 m_528) rfl e_J0_charAt_5068e ⟨Nat.le_of_ble_eq_true rfl, Nat.le_of_ble_eq_true rfl⟩ hK hE hS hA (vk_recv hE.2.2.2.1.2 (i := 0) (by decide) hS) rfl hl.1 rfl (Nat.le_of_ble_eq_true rfl) dX7_wordKind_26 ⟨Nat.le_refl _, Nat.le_refl _⟩) hP hD hS hA (fun x_3 u_3 H locs hw_3 hP hD hS => ?_)
        subst x_3
        refine lv_istore (lv' := [(7, .int r_3), (0, .ref (q 9)), (1, .int x1), (2, .int x2), (3, .int x3), (4, .int x4), (5, .int x5), (6, .int x6)]) hx hb dX7_wordKind_29 hl (by decide) rfl (fun ls hl => ?_)
        refine lv_iload hx hb dX7_wordKind_31 (lv_at hl 0 rfl) ?_
        refine lv_bipush (v := 32) hx hb dX7_wordKind_33 (by decide) ?_
        refine lv_icmp_eq (tgt := 78) hx hb dX7_wordKind_35 (by decide) (fun c_4 => ?_) (fun c_4 => ?_)
        · have hF := ob_pos c_4 hF
          refine lv_iload hx hb dX7_wordKind_78 (lv_at hl 6 rfl) ?_
          refine lv_if_eq (tgt := 94) hx hb dX7_wordKind_80 (by decide) (fun c_5 => ?_) (fun c_5 => ?_)
          · have hF := ob_pos c_5 hF
            exact hJ_94 h x1 x2 x3 x6 hF H _ ls hP hD hS (lv_sub hl [1, 2, 3, 4, 7] rfl)
          · have hF := ob_neg c_5 hF
            refine lv_iload hx hb dX7_wordKind_83 (lv_at hl 7 rfl) ?_
            refine lv_iload hx hb dX7_wordKind_85 (lv_at hl 5 rfl) ?_
            refine lv_isub hx hb dX7_wordKind_87 ?_
            refine lv_iload_n hx hb dX7_wordKind_88 rfl (lv_at hl 3 rfl) ?_
            refine lv_icmp_ne (tgt := 94) hx hb dX7_wordKind_89 (by decide) (fun c_6 => ?_) (fun c_6 => ?_)
            · have hF := ob_neg c_6 hF
              exact hJ_94 h x1 x2 x3 x6 hF H _ ls hP hD hS (lv_sub hl [1, 2, 3, 4, 7] rfl)
            · have hF := ob_pos c_6 hF
              refine lv_iload_n hx hb dX7_wordKind_92 rfl (lv_at hl 4 rfl) ?_
              obtain ⟨rfl, rfl⟩ := ob_pair hF
              exact gw_iret () hx hb hr hlocks hP hD hS rfl dX7_wordKind_93
        · have hF := ob_neg c_4 hF
          refine lv_iload hx hb dX7_wordKind_38 (lv_at hl 6 rfl) ?_
          refine lv_if_eq (tgt := 72) hx hb dX7_wordKind_40 (by decide) (fun c_7 => ?_) (fun c_7 => ?_)
          · have hF := ob_pos c_7 hF
            exact hJ_72 h x1 x2 x3 x4 x6 hF H _ ls hP hD hS (lv_sub hl [1, 2, 3, 4, 5, 7] rfl)
          · have hF := ob_neg c_7 hF
            refine lv_iload hx hb dX7_wordKind_43 (lv_at hl 7 rfl) ?_
            refine lv_iload hx hb dX7_wordKind_45 (lv_at hl 5 rfl) ?_
            refine lv_isub hx hb dX7_wordKind_47 ?_
            refine lv_iload_n hx hb dX7_wordKind_48 rfl (lv_at hl 3 rfl) ?_
            refine lv_icmp_ge (tgt := 72) hx hb dX7_wordKind_49 (by decide) (fun c_8 => ?_) (fun c_8 => ?_)
            · have hF := ob_pos c_8 hF
              exact hJ_72 h x1 x2 x3 x4 x6 hF H _ ls hP hD hS (lv_sub hl [1, 2, 3, 4, 5, 7] rfl)
            · have hF := ob_neg c_8 hF
              refine lv_aload_n hx hb dX7_wordKind_52 rfl (lv_at hl 1 rfl) ?_
              refine lv_iload_n hx hb dX7_wordKind_53 rfl (lv_at hl 2 rfl) ?_
              refine lv_iload hx hb dX7_wordKind_54 (lv_at hl 7 rfl) ?_
              refine lv_iadd hx hb dX7_wordKind_56 ?_
              refine lv_iload hx hb dX7_wordKind_57 (lv_at hl 5 rfl) ?_
              refine lv_isub hx hb dX7_wordKind_59 ?_
              obtain ⟨r_9, h_9, e_9, hF⟩ := ob2_some hF
              refine gx_calli (gx_runV (As := [.int ((x1 + x6) - x4)]) (rest := []) ⟨hx, hb, hml, hown, hts⟩ (c_X5_byteAt l G cI cJ cZ cB cT q h ((x1 + x6) - x4) r_9 h_9 e_9 H.size) (gG_V m_410 m_411 m_412 m_413 m_409) rfl e_X5_byteAt ⟨Nat.le_of_ble_eq_true rfl, Nat.le_of_ble_eq_true rfl⟩ hK hP hD hE hS hA 9 wC_at9 rfl rfl hl.1 rfl (Nat.le_of_ble_eq_true rfl) dX7_wordKind_60 ⟨Nat.le_refl _, Nat.le_refl _⟩) hP hD hS hA (fun x_9 u_9 H locs hw_9 hP hD hS => ?_)
              subst x_9
              refine lv_iload hx hb dX7_wordKind_63 (lv_at hl 0 rfl) ?_
              refine lv_icmp_ne (tgt := 72) hx hb dX7_wordKind_65 (by decide) (fun c_10 => ?_) (fun c_10 => ?_)
              · have hF := ob_neg c_10 hF
                exact hJ_72 h_9 x1 x2 x3 x4 x6 hF H _ ls hP hD hS (lv_sub hl [1, 2, 3, 4, 5, 7] rfl)
              · have hF := ob_pos c_10 hF
                refine lv_iconst (v := 1) hx hb dX7_wordKind_68 (by decide) ?_
                refine lv_goto (tgt := 73) hx hb dX7_wordKind_69 (by decide) ?_
                exact hJ_73 h_9 x1 x2 x3 x4 x6 1 hF H _ ls hP hD hS (lv_sub hl [1, 2, 3, 4, 5, 7] rfl)
  unfold f_X7_wordKind at hF
  refine lv_bipush (v := 16) hx hb dX7_wordKind_0 (by decide) ?_
  refine lv_istore_n (lv' := [(3, .int 16), (0, .ref (q 9)), (1, .int p1), (2, .int p2)]) hx hb dX7_wordKind_2 rfl hl (by decide) rfl (fun ls hl => ?_)
  refine lv_iconst (v := 0) hx hb dX7_wordKind_3 (by decide) ?_
  refine lv_istore (lv' := [(4, .int 0), (3, .int 16), (0, .ref (q 9)), (1, .int p1), (2, .int p2)]) hx hb dX7_wordKind_4 hl (by decide) rfl (fun ls hl => ?_)
  refine lv_iconst (v := 1) hx hb dX7_wordKind_6 (by decide) ?_
  refine lv_istore (lv' := [(5, .int 1), (4, .int 0), (3, .int 16), (0, .ref (q 9)), (1, .int p1), (2, .int p2)]) hx hb dX7_wordKind_7 hl (by decide) rfl (fun ls hl => ?_)
  refine lv_iconst (v := 0) hx hb dX7_wordKind_9 (by decide) ?_
  refine lv_istore (lv' := [(6, .int 0), (5, .int 1), (4, .int 0), (3, .int 16), (0, .ref (q 9)), (1, .int p1), (2, .int p2)]) hx hb dX7_wordKind_10 hl (by decide) rfl (fun ls hl => ?_)
  exact hJ_12 8589934592 h p1 p2 16 0 1 0 hF H _ ls hP hD hS (lv_sub hl [4, 5, 6, 3, 2, 1, 0] rfl)
def f_X7_splitWord_27 (h : HS) (x2 : Int32) (x3 : Int32) : Option (Int32 × HS) := (ob2 (f_X7_wordKind h x2 (x3 - x2)) (fun r_5 h_5 => (ob1 (f_X7_add h_5 r_5 x2 0) (fun h_6 => (some (x3, h_6))))))
def f_X7_splitWord_2 : Nat → HS → Int32 → Int32 → Option (Int32 × HS)
  | 0, _, _, _ => none
  | n + 1, h, x2, x3 => (if (eI h 3 1) ≤ x3 then (f_X7_splitWord_27 h x2 x3) else (ob2 (f_X5_byteAt h x3) (fun r_2 h_2 => (ob1 (f_X7_isAlpha r_2) (fun r_3 => (if r_3 = 0 then (f_X7_splitWord_27 h_2 x2 x3) else ((f_X7_splitWord_2 n) h_2 x2 (x3 + 1))))))))
theorem f_X7_splitWord_2_s (n : Nat) (h : HS) (x2 : Int32) (x3 : Int32) : f_X7_splitWord_2 (n + 1) h x2 x3 = (if (eI h 3 1) ≤ x3 then (f_X7_splitWord_27 h x2 x3) else (ob2 (f_X5_byteAt h x3) (fun r_2 h_2 => (ob1 (f_X7_isAlpha r_2) (fun r_3 => (if r_3 = 0 then (f_X7_splitWord_27 h_2 x2 x3) else ((f_X7_splitWord_2 n) h_2 x2 (x3 + 1)))))))) := rfl
def f_X7_splitWord (h : HS) (p1 : Int32) : Option (Int32 × HS) := (f_X7_splitWord_2 8589934592 h p1 p1)
theorem e_X7_isAlpha : yX7_isAlpha.cls = RX7 ∧ yX7_isAlpha.cls ≠ "java/lang/invoke/MethodHandle" ∧ yX7_isAlpha.cls ≠ "java/lang/invoke/VarHandle" ∧ (parseMethodDescriptor yX7_isAlpha.desc).map (fun d => d.parameters.length) = some 1 := by decide +kernel
theorem e_X7_wordKind : yX7_wordKind.cls = RX7 ∧ yX7_wordKind.cls ≠ "java/lang/invoke/MethodHandle" ∧ yX7_wordKind.cls ≠ "java/lang/invoke/VarHandle" ∧ (parseMethodDescriptor yX7_wordKind.desc).map (fun d => d.parameters.length) = some 3 := by decide +kernel
set_option maxHeartbeats 4000000 in
set_option maxRecDepth 100000 in
theorem c_X7_splitWord (l : Launch) (G : va_G) (cI cJ cZ cB cT : ClassId) (q : Nat → Nat) (h : HS) (p1 : Int32) (rr : Int32) (hh : HS) (hF : f_X7_splitWord h p1 = some (rr, hh)) : gMi l yX7_splitWord (gws yX7_splitWord cX7_splitWord 4 (some .int)) 6 G (gT cI cJ cZ cB cT) [.ref (q 11), .ref (q 9), .int p1] (wC q cI cJ cZ cB cT h) (fun x (_ : Unit) => x = rr) (fun (_ : Unit) => (wC q cI cJ cZ cB cT hh)) := by
  intro sz
  refine gM_start (y := yX7_splitWord) (av := [.ref (q 11), .ref (q 9), .int p1]) (ws := (wC q cI cJ cZ cB cT h)) (Qf := fun A => va_Qi (fun x (_ : Unit) => x = rr) (gB G (fun (_ : Unit) => (wC q cI cJ cZ cB cT hh)) A) A) (cc := cX7_splitWord) (maxL := 4) (ret := (some .int)) (by decide) (Nat.le_of_ble_eq_true rfl) ?_
  intro p e s m args below meth c A ls H hx hb hr hts hown hin hlocks hml hP hK hD hA hS hl hE
  have hl : lv_has ls 4 [(0, .ref (q 11)), (1, .ref (q 9)), (2, .int p1)] := hl
  have hJ_27 : ∀ (h : HS) (x2 : Int32) (x3 : Int32), f_X7_splitWord_27 h x2 x3 = some (rr, hh) → ∀ (H : Heap) (locs : List Loc) (ls : Array Slot), va_P G vwCl (wC q cI cJ cZ cB cT h) H → va_D A (wC q cI cJ cZ cB cT h) → va_S A s.heap H locs → lv_has ls 4 [(0, .ref (q 11)), (1, .ref (q 9)), (2, .int x2), (3, .int x3)] → W p l e (gRm 6) s m args below meth c H locs 0 0 (MQ below (va_Qi (fun x (_ : Unit) => x = rr) (gB G (fun (_ : Unit) => (wC q cI cJ cZ cB cT hh)) A) A) args s 0 0 A) (F0 m 27 ls []) := by
    intro h x2 x3 hF H locs ls hP hD hS hl
    unfold f_X7_splitWord_27 at hF
    refine lv_aload_n hx hb dX7_splitWord_27 rfl (lv_at hl 0 rfl) ?_
    refine lv_aload_n hx hb dX7_splitWord_28 rfl (lv_at hl 1 rfl) ?_
    refine lv_iload_n hx hb dX7_splitWord_29 rfl (lv_at hl 2 rfl) ?_
    refine lv_iload_n hx hb dX7_splitWord_30 rfl (lv_at hl 3 rfl) ?_
    refine lv_iload_n hx hb dX7_splitWord_31 rfl (lv_at hl 2 rfl) ?_
    refine lv_isub hx hb dX7_splitWord_32 ?_
    obtain ⟨r_5, h_5, e_5, hF⟩ := ob2_some hF
    refine gx_calli (gx_runS (As := [.ref (q 9), .int x2, .int (x3 - x2)]) (rest := [.ref (q 11)]) ⟨hx, hb, hml, hown, hts⟩ (c_X7_wordKind l G cI cJ cZ cB cT q h x2 (x3 - x2) r_5 h_5 e_5 H.size) (gG_S m_536 m_537 m_417 m_535) rfl e_X7_wordKind ⟨Nat.le_of_ble_eq_true rfl, Nat.le_of_ble_eq_true rfl⟩ hK hP hD hE hS hA rfl hl.1 rfl (Nat.le_of_ble_eq_true rfl) dX7_splitWord_33 ⟨Nat.le_refl _, Nat.le_refl _⟩) hP hD hS hA (fun x_5 u_5 H locs hw_5 hP hD hS => ?_)
    subst x_5
    refine lv_iload_n hx hb dX7_splitWord_36 rfl (lv_at hl 2 rfl) ?_
    refine lv_iconst (v := 0) hx hb dX7_splitWord_37 (by decide) ?_
    obtain ⟨h_6, e_6, hF⟩ := ob1_some hF
    refine gx_callv (gx_runV (As := [.int r_5, .int x2, .int 0]) (rest := []) ⟨hx, hb, hml, hown, hts⟩ (c_X7_add l G cI cJ cZ cB cT q h_5 r_5 x2 0 h_6 e_6 H.size) (gG_V m_420 m_421 m_422 m_417 m_419) rfl e_X7_add ⟨Nat.le_of_ble_eq_true rfl, Nat.le_of_ble_eq_true rfl⟩ hK hP hD hE hS hA 11 wC_at11 rfl rfl hl.1 rfl (Nat.le_of_ble_eq_true rfl) dX7_splitWord_38 ⟨Nat.le_refl _, Nat.le_refl _⟩) hP hD hS hA (fun u_6 H locs hw_6 hP hD hS => ?_)
    refine lv_iload_n hx hb dX7_splitWord_41 rfl (lv_at hl 3 rfl) ?_
    obtain ⟨rfl, rfl⟩ := ob_pair hF
    exact gw_iret () hx hb hr hlocks hP hD hS rfl dX7_splitWord_42
  have hJ_2 : ∀ (n_2 : Nat) (h : HS) (x2 : Int32) (x3 : Int32), f_X7_splitWord_2 n_2 h x2 x3 = some (rr, hh) → ∀ (H : Heap) (locs : List Loc) (ls : Array Slot), va_P G vwCl (wC q cI cJ cZ cB cT h) H → va_D A (wC q cI cJ cZ cB cT h) → va_S A s.heap H locs → lv_has ls 4 [(0, .ref (q 11)), (1, .ref (q 9)), (2, .int x2), (3, .int x3)] → W p l e (gRm 6) s m args below meth c H locs 0 0 (MQ below (va_Qi (fun x (_ : Unit) => x = rr) (gB G (fun (_ : Unit) => (wC q cI cJ cZ cB cT hh)) A) A) args s 0 0 A) (F0 m 2 ls []) := by
    intro n_2
    induction n_2 with
    | zero =>
      intro h x2 x3 hF
      exact absurd hF (by simp [f_X7_splitWord_2])
    | succ n_2 ih_2 =>
      intro h x2 x3 hF H locs ls hP hD hS hl
      rw [f_X7_splitWord_2_s] at hF
      refine lv_iload_n hx hb dX7_splitWord_2 rfl (lv_at hl 3 rfl) ?_
      refine lv_aload_n hx hb dX7_splitWord_3 rfl (lv_at hl 1 rfl) ?_
      refine va_get (D := G) (ci := 5) (v := .int (eI h 3 1)) (C := RX5) (T := TX5) (N := 2) hx hb hts iX5 hown hK hP 9 wC_at9 rfl 1 (by decide) (hts _ m_408) (fun _ h9 => h9) rfl dX7_splitWord_4 ?_
      refine lv_icmp_ge (tgt := 27) hx hb dX7_splitWord_7 (by decide) (fun c_1 => ?_) (fun c_1 => ?_)
      · have hF := ob_pos c_1 hF
        exact hJ_27 h x2 x3 hF H _ ls hP hD hS (lv_sub hl [0, 1, 2, 3] rfl)
      · have hF := ob_neg c_1 hF
        refine lv_aload_n hx hb dX7_splitWord_10 rfl (lv_at hl 1 rfl) ?_
        refine lv_iload_n hx hb dX7_splitWord_11 rfl (lv_at hl 3 rfl) ?_
        obtain ⟨r_2, h_2, e_2, hF⟩ := ob2_some hF
        refine gx_calli (gx_runV (As := [.int x3]) (rest := []) ⟨hx, hb, hml, hown, hts⟩ (c_X5_byteAt l G cI cJ cZ cB cT q h x3 r_2 h_2 e_2 H.size) (gG_V m_410 m_411 m_412 m_413 m_409) rfl e_X5_byteAt ⟨Nat.le_of_ble_eq_true rfl, Nat.le_of_ble_eq_true rfl⟩ hK hP hD hE hS hA 9 wC_at9 rfl rfl hl.1 rfl (Nat.le_of_ble_eq_true rfl) dX7_splitWord_12 ⟨Nat.le_refl _, Nat.le_refl _⟩) hP hD hS hA (fun x_2 u_2 H locs hw_2 hP hD hS => ?_)
        subst x_2
        obtain ⟨r_3, e_3, hF⟩ := ob1_some hF
        refine gx_calli0 (gx_runS0 (As := [.int r_2]) (rest := []) ⟨hx, hb, hml, hown, hts⟩ (c_X7_isAlpha l G cI cJ cZ cB cT   r_2 r_3 e_3 H.size) (gG_S m_533 m_534 m_417 m_532) rfl e_X7_isAlpha ⟨Nat.le_of_ble_eq_true rfl, Nat.le_of_ble_eq_true rfl⟩ hK hE hS hA rfl hl.1 rfl (Nat.le_of_ble_eq_true rfl) dX7_splitWord_15 ⟨Nat.le_refl _, Nat.le_refl _⟩) hP hD hS hA (fun x_3 u_3 H locs hw_3 hP hD hS => ?_)
        subst x_3
        refine lv_if_eq (tgt := 27) hx hb dX7_splitWord_18 (by decide) (fun c_4 => ?_) (fun c_4 => ?_)
        · have hF := ob_pos c_4 hF
          exact hJ_27 h_2 x2 x3 hF H _ ls hP hD hS (lv_sub hl [0, 1, 2, 3] rfl)
        · have hF := ob_neg c_4 hF
          refine lv_iinc (v := (x3 + 1)) (lv' := [(3, .int (x3 + 1)), (0, .ref (q 11)), (1, .ref (q 9)), (2, .int x2)]) hx hb dX7_splitWord_21 hl (k := 3) rfl rfl (by decide) rfl (fun ls hl => ?_)
          refine lv_goto (tgt := 2) hx hb dX7_splitWord_24 (by decide) ?_
          exact ih_2 h_2 x2 (x3 + 1) hF H _ ls hP hD hS (lv_sub hl [1, 2, 3, 0] rfl)
  unfold f_X7_splitWord at hF
  refine lv_iload_n hx hb dX7_splitWord_0 rfl (lv_at hl 2 rfl) ?_
  refine lv_istore_n (lv' := [(3, .int p1), (0, .ref (q 11)), (1, .ref (q 9)), (2, .int p1)]) hx hb dX7_splitWord_1 rfl hl (by decide) rfl (fun ls hl => ?_)
  exact hJ_2 8589934592 h p1 p1 hF H _ ls hP hD hS (lv_sub hl [1, 2, 3, 0] rfl)
def f_X7_split_99 (h : HS) : Option HS := (ob1 (f_X7_add h 0 (eI h 3 1) 0) (fun h_13 => (some h_13)))
def f_X7_split_93 (k14 : HS → Int32 → Int32 → Option HS) (h : HS) (x2 : Int32) (x3 : Int32) : Option HS := (k14 h x2 (x3 + 1))
def f_X7_split_14 : Nat → HS → Int32 → Int32 → Option HS
  | 0, _, _, _ => none
  | n + 1, h, x2, x3 => (if 300 ≤ x3 then (f_X7_split_99 h) else (if (eI h 3 1) ≤ x2 then (f_X7_split_99 h) else (ob2 (f_X5_byteAt h x2) (fun r_3 h_3 => (ob1 (f_X7_isBlank r_3) (fun r_4 => (if r_4 = 0 then (ob1 (f_X7_isAlpha r_3) (fun r_6 => (if r_6 = 0 then (ob1 (f_X7_isNumeral r_3) (fun r_8 => (if r_8 = 0 then (ob2 (f_X7_splitSign h_3 x2) (fun r_10 h_10 => (f_X7_split_93 (f_X7_split_14 n) h_10 r_10 x3))) else (ob2 (f_X7_splitNumber h_3 x2) (fun r_11 h_11 => (f_X7_split_93 (f_X7_split_14 n) h_11 r_11 x3)))))) else (ob2 (f_X7_splitWord h_3 x2) (fun r_12 h_12 => (f_X7_split_93 (f_X7_split_14 n) h_12 r_12 x3)))))) else (f_X7_split_93 (f_X7_split_14 n) h_3 (x2 + 1) x3))))))))
theorem f_X7_split_14_s (n : Nat) (h : HS) (x2 : Int32) (x3 : Int32) : f_X7_split_14 (n + 1) h x2 x3 = (if 300 ≤ x3 then (f_X7_split_99 h) else (if (eI h 3 1) ≤ x2 then (f_X7_split_99 h) else (ob2 (f_X5_byteAt h x2) (fun r_3 h_3 => (ob1 (f_X7_isBlank r_3) (fun r_4 => (if r_4 = 0 then (ob1 (f_X7_isAlpha r_3) (fun r_6 => (if r_6 = 0 then (ob1 (f_X7_isNumeral r_3) (fun r_8 => (if r_8 = 0 then (ob2 (f_X7_splitSign h_3 x2) (fun r_10 h_10 => (f_X7_split_93 (f_X7_split_14 n) h_10 r_10 x3))) else (ob2 (f_X7_splitNumber h_3 x2) (fun r_11 h_11 => (f_X7_split_93 (f_X7_split_14 n) h_11 r_11 x3)))))) else (ob2 (f_X7_splitWord h_3 x2) (fun r_12 h_12 => (f_X7_split_93 (f_X7_split_14 n) h_12 r_12 x3)))))) else (f_X7_split_93 (f_X7_split_14 n) h_3 (x2 + 1) x3)))))))) := rfl
def f_X7_split (h : HS) : Option HS := (f_X7_split_14 8589934592 (sI (sI h 4 4 0) 4 3 0) 0 0)
theorem e_X7_isBlank : yX7_isBlank.cls = RX7 ∧ yX7_isBlank.cls ≠ "java/lang/invoke/MethodHandle" ∧ yX7_isBlank.cls ≠ "java/lang/invoke/VarHandle" ∧ (parseMethodDescriptor yX7_isBlank.desc).map (fun d => d.parameters.length) = some 1 := by decide +kernel
theorem e_X7_splitNumber : yX7_splitNumber.cls = RX7 ∧ yX7_splitNumber.cls ≠ "java/lang/invoke/MethodHandle" ∧ yX7_splitNumber.cls ≠ "java/lang/invoke/VarHandle" ∧ (parseMethodDescriptor yX7_splitNumber.desc).map (fun d => d.parameters.length) = some 2 := by decide +kernel
theorem e_X7_splitSign : yX7_splitSign.cls = RX7 ∧ yX7_splitSign.cls ≠ "java/lang/invoke/MethodHandle" ∧ yX7_splitSign.cls ≠ "java/lang/invoke/VarHandle" ∧ (parseMethodDescriptor yX7_splitSign.desc).map (fun d => d.parameters.length) = some 2 := by decide +kernel
theorem e_X7_splitWord : yX7_splitWord.cls = RX7 ∧ yX7_splitWord.cls ≠ "java/lang/invoke/MethodHandle" ∧ yX7_splitWord.cls ≠ "java/lang/invoke/VarHandle" ∧ (parseMethodDescriptor yX7_splitWord.desc).map (fun d => d.parameters.length) = some 2 := by decide +kernel
set_option maxHeartbeats 4000000 in
set_option maxRecDepth 100000 in
theorem c_X7_split (l : Launch) (G : va_G) (cI cJ cZ cB cT : ClassId) (q : Nat → Nat) (h : HS)  (hh : HS) (hF : f_X7_split h = some hh) : gMv l yX7_split (gws yX7_split cX7_split 5 none) 7 G (gT cI cJ cZ cB cT) [.ref (q 11), .ref (q 9)] (wC q cI cJ cZ cB cT h) (fun (_ : Unit) => True) (fun (_ : Unit) => (wC q cI cJ cZ cB cT hh)) := by
  intro sz
  refine gM_start (y := yX7_split) (av := [.ref (q 11), .ref (q 9)]) (ws := (wC q cI cJ cZ cB cT h)) (Qf := fun A => va_Qv (fun (_ : Unit) => True) (gB G (fun (_ : Unit) => (wC q cI cJ cZ cB cT hh)) A) A) (cc := cX7_split) (maxL := 5) (ret := none) (by decide) (Nat.le_of_ble_eq_true rfl) ?_
  intro p e s m args below meth c A ls H hx hb hr hts hown hin hlocks hml hP hK hD hA hS hl hE
  have hl : lv_has ls 5 [(0, .ref (q 11)), (1, .ref (q 9))] := hl
  have hJ_99 : ∀ (h : HS), f_X7_split_99 h = some hh → ∀ (H : Heap) (locs : List Loc) (ls : Array Slot), va_P G vwCl (wC q cI cJ cZ cB cT h) H → va_D A (wC q cI cJ cZ cB cT h) → va_S A s.heap H locs → lv_has ls 5 [(0, .ref (q 11)), (1, .ref (q 9))] → W p l e (gRm 7) s m args below meth c H locs 0 0 (MQ below (va_Qv (fun (_ : Unit) => True) (gB G (fun (_ : Unit) => (wC q cI cJ cZ cB cT hh)) A) A) args s 0 0 A) (F0 m 99 ls []) := by
    intro h hF H locs ls hP hD hS hl
    unfold f_X7_split_99 at hF
    refine lv_aload_n hx hb dX7_split_99 rfl (lv_at hl 0 rfl) ?_
    refine lv_iconst (v := 0) hx hb dX7_split_100 (by decide) ?_
    refine lv_aload_n hx hb dX7_split_101 rfl (lv_at hl 1 rfl) ?_
    refine va_get (D := G) (ci := 5) (v := .int (eI h 3 1)) (C := RX5) (T := TX5) (N := 2) hx hb hts iX5 hown hK hP 9 wC_at9 rfl 1 (by decide) (hts _ m_408) (fun _ h9 => h9) rfl dX7_split_102 ?_
    refine lv_iconst (v := 0) hx hb dX7_split_105 (by decide) ?_
    obtain ⟨h_13, e_13, hF⟩ := ob1_some hF
    refine gx_callv (gx_runV (As := [.int 0, .int (eI h 3 1), .int 0]) (rest := []) ⟨hx, hb, hml, hown, hts⟩ (c_X7_add l G cI cJ cZ cB cT q h 0 (eI h 3 1) 0 h_13 e_13 H.size) (gG_V m_420 m_421 m_422 m_417 m_419) rfl e_X7_add ⟨Nat.le_of_ble_eq_true rfl, Nat.le_of_ble_eq_true rfl⟩ hK hP hD hE hS hA 11 wC_at11 rfl rfl hl.1 rfl (Nat.le_of_ble_eq_true rfl) dX7_split_106 ⟨Nat.le_refl _, Nat.le_refl _⟩) hP hD hS hA (fun u_13 H locs hw_13 hP hD hS => ?_)
    obtain rfl := ob_one hF
    exact gw_vret () hx hb hr hlocks hP hD hS trivial dX7_split_109
  have hJ_14 : ∀ (n_14 : Nat) (h : HS) (x2 : Int32) (x3 : Int32), f_X7_split_14 n_14 h x2 x3 = some hh → ∀ (H : Heap) (locs : List Loc) (ls : Array Slot), va_P G vwCl (wC q cI cJ cZ cB cT h) H → va_D A (wC q cI cJ cZ cB cT h) → va_S A s.heap H locs → lv_has ls 5 [(0, .ref (q 11)), (1, .ref (q 9)), (2, .int x2), (3, .int x3)] → W p l e (gRm 7) s m args below meth c H locs 0 0 (MQ below (va_Qv (fun (_ : Unit) => True) (gB G (fun (_ : Unit) => (wC q cI cJ cZ cB cT hh)) A) A) args s 0 0 A) (F0 m 14 ls []) := by
    intro n_14
    induction n_14 with
    | zero =>
      intro h x2 x3 hF
      exact absurd hF (by simp [f_X7_split_14])
    | succ n_14 ih_14 =>
      have hJ_93 : ∀ (h : HS) (x2 : Int32) (x3 : Int32), f_X7_split_93 (f_X7_split_14 n_14) h x2 x3 = some hh → ∀ (H : Heap) (locs : List Loc) (ls : Array Slot), va_P G vwCl (wC q cI cJ cZ cB cT h) H → va_D A (wC q cI cJ cZ cB cT h) → va_S A s.heap H locs → lv_has ls 5 [(0, .ref (q 11)), (1, .ref (q 9)), (2, .int x2), (3, .int x3)] → W p l e (gRm 7) s m args below meth c H locs 0 0 (MQ below (va_Qv (fun (_ : Unit) => True) (gB G (fun (_ : Unit) => (wC q cI cJ cZ cB cT hh)) A) A) args s 0 0 A) (F0 m 93 ls []) := by
        intro h x2 x3 hF H locs ls hP hD hS hl
        unfold f_X7_split_93 at hF
        refine lv_iinc (v := (x3 + 1)) (lv' := [(3, .int (x3 + 1)), (0, .ref (q 11)), (1, .ref (q 9)), (2, .int x2)]) hx hb dX7_split_93 hl (k := 3) rfl rfl (by decide) rfl (fun ls hl => ?_)
        refine lv_goto (tgt := 14) hx hb dX7_split_96 (by decide) ?_
        exact ih_14 h x2 (x3 + 1) hF H _ ls hP hD hS (lv_sub hl [1, 2, 3, 0] rfl)
      intro h x2 x3 hF H locs ls hP hD hS hl
      rw [f_X7_split_14_s] at hF
      refine lv_iload_n hx hb dX7_split_14 rfl (lv_at hl 3 rfl) ?_
      refine lv_sipush (v := 300) hx hb dX7_split_15 (by decide) ?_
      refine lv_icmp_ge (tgt := 99) hx hb dX7_split_18 (by decide) (fun c_1 => ?_) (fun c_1 => ?_)
      · have hF := ob_pos c_1 hF
        exact hJ_99 h hF H _ ls hP hD hS (lv_sub hl [0, 1] rfl)
      · have hF := ob_neg c_1 hF
        refine lv_iload_n hx hb dX7_split_21 rfl (lv_at hl 2 rfl) ?_
        refine lv_aload_n hx hb dX7_split_22 rfl (lv_at hl 1 rfl) ?_
        refine va_get (D := G) (ci := 5) (v := .int (eI h 3 1)) (C := RX5) (T := TX5) (N := 2) hx hb hts iX5 hown hK hP 9 wC_at9 rfl 1 (by decide) (hts _ m_408) (fun _ h9 => h9) rfl dX7_split_23 ?_
        refine lv_icmp_ge (tgt := 99) hx hb dX7_split_26 (by decide) (fun c_2 => ?_) (fun c_2 => ?_)
        · have hF := ob_pos c_2 hF
          exact hJ_99 h hF H _ ls hP hD hS (lv_sub hl [0, 1] rfl)
        · have hF := ob_neg c_2 hF
          refine lv_aload_n hx hb dX7_split_29 rfl (lv_at hl 1 rfl) ?_
          refine lv_iload_n hx hb dX7_split_30 rfl (lv_at hl 2 rfl) ?_
          obtain ⟨r_3, h_3, e_3, hF⟩ := ob2_some hF
          refine gx_calli (gx_runV (As := [.int x2]) (rest := []) ⟨hx, hb, hml, hown, hts⟩ (c_X5_byteAt l G cI cJ cZ cB cT q h x2 r_3 h_3 e_3 H.size) (gG_V m_410 m_411 m_412 m_413 m_409) rfl e_X5_byteAt ⟨Nat.le_of_ble_eq_true rfl, Nat.le_of_ble_eq_true rfl⟩ hK hP hD hE hS hA 9 wC_at9 rfl rfl hl.1 rfl (Nat.le_of_ble_eq_true rfl) dX7_split_31 ⟨Nat.le_refl _, Nat.le_refl _⟩) hP hD hS hA (fun x_3 u_3 H locs hw_3 hP hD hS => ?_)
          subst x_3
          refine lv_istore (lv' := [(4, .int r_3), (0, .ref (q 11)), (1, .ref (q 9)), (2, .int x2), (3, .int x3)]) hx hb dX7_split_34 hl (by decide) rfl (fun ls hl => ?_)
          refine lv_iload hx hb dX7_split_36 (lv_at hl 0 rfl) ?_
          obtain ⟨r_4, e_4, hF⟩ := ob1_some hF
          refine gx_calli0 (gx_runS0 (As := [.int r_3]) (rest := []) ⟨hx, hb, hml, hown, hts⟩ (c_X7_isBlank l G cI cJ cZ cB cT   r_3 r_4 e_4 H.size) (gG_S m_539 m_540 m_417 m_538) rfl e_X7_isBlank ⟨Nat.le_of_ble_eq_true rfl, Nat.le_of_ble_eq_true rfl⟩ hK hE hS hA rfl hl.1 rfl (Nat.le_of_ble_eq_true rfl) dX7_split_38 ⟨Nat.le_refl _, Nat.le_refl _⟩) hP hD hS hA (fun x_4 u_4 H locs hw_4 hP hD hS => ?_)
          subst x_4
          refine lv_if_eq (tgt := 50) hx hb dX7_split_41 (by decide) (fun c_5 => ?_) (fun c_5 => ?_)
          · have hF := ob_pos c_5 hF
            refine lv_iload hx hb dX7_split_50 (lv_at hl 0 rfl) ?_
            obtain ⟨r_6, e_6, hF⟩ := ob1_some hF
            refine gx_calli0 (gx_runS0 (As := [.int r_3]) (rest := []) ⟨hx, hb, hml, hown, hts⟩ (c_X7_isAlpha l G cI cJ cZ cB cT   r_3 r_6 e_6 H.size) (gG_S m_533 m_534 m_417 m_532) rfl e_X7_isAlpha ⟨Nat.le_of_ble_eq_true rfl, Nat.le_of_ble_eq_true rfl⟩ hK hE hS hA rfl hl.1 rfl (Nat.le_of_ble_eq_true rfl) dX7_split_52 ⟨Nat.le_refl _, Nat.le_refl _⟩) hP hD hS hA (fun x_6 u_6 H locs hw_6 hP hD hS => ?_)
            subst x_6
            refine lv_if_eq (tgt := 68) hx hb dX7_split_55 (by decide) (fun c_7 => ?_) (fun c_7 => ?_)
            · have hF := ob_pos c_7 hF
              refine lv_iload hx hb dX7_split_68 (lv_at hl 0 rfl) ?_
              obtain ⟨r_8, e_8, hF⟩ := ob1_some hF
              refine gx_calli0 (gx_runS0 (As := [.int r_3]) (rest := []) ⟨hx, hb, hml, hown, hts⟩ (c_X7_isNumeral l G cI cJ cZ cB cT   r_3 r_8 e_8 H.size) (gG_S m_415 m_416 m_417 m_414) rfl e_X7_isNumeral ⟨Nat.le_of_ble_eq_true rfl, Nat.le_of_ble_eq_true rfl⟩ hK hE hS hA rfl hl.1 rfl (Nat.le_of_ble_eq_true rfl) dX7_split_70 ⟨Nat.le_refl _, Nat.le_refl _⟩) hP hD hS hA (fun x_8 u_8 H locs hw_8 hP hD hS => ?_)
              subst x_8
              refine lv_if_eq (tgt := 86) hx hb dX7_split_73 (by decide) (fun c_9 => ?_) (fun c_9 => ?_)
              · have hF := ob_pos c_9 hF
                refine lv_aload_n hx hb dX7_split_86 rfl (lv_at hl 1 rfl) ?_
                refine lv_aload_n hx hb dX7_split_87 rfl (lv_at hl 2 rfl) ?_
                refine lv_iload_n hx hb dX7_split_88 rfl (lv_at hl 3 rfl) ?_
                obtain ⟨r_10, h_10, e_10, hF⟩ := ob2_some hF
                refine gx_calli (gx_runV (As := [.ref (q 9), .int x2]) (rest := []) ⟨hx, hb, hml, hown, hts⟩ (c_X7_splitSign l G cI cJ cZ cB cT q h_3 x2 r_10 h_10 e_10 H.size) (gG_V m_542 m_543 m_544 m_417 m_541) rfl e_X7_splitSign ⟨Nat.le_of_ble_eq_true rfl, Nat.le_of_ble_eq_true rfl⟩ hK hP hD hE hS hA 11 wC_at11 rfl rfl hl.1 rfl (Nat.le_of_ble_eq_true rfl) dX7_split_89 ⟨Nat.le_refl _, Nat.le_refl _⟩) hP hD hS hA (fun x_10 u_10 H locs hw_10 hP hD hS => ?_)
                subst x_10
                refine lv_istore_n (lv' := [(2, .int r_10), (4, .int r_3), (0, .ref (q 11)), (1, .ref (q 9)), (3, .int x3)]) hx hb dX7_split_92 rfl hl (by decide) rfl (fun ls hl => ?_)
                exact hJ_93 h_10 r_10 x3 hF H _ ls hP hD hS (lv_sub hl [2, 3, 0, 4] rfl)
              · have hF := ob_neg c_9 hF
                refine lv_aload_n hx hb dX7_split_76 rfl (lv_at hl 1 rfl) ?_
                refine lv_aload_n hx hb dX7_split_77 rfl (lv_at hl 2 rfl) ?_
                refine lv_iload_n hx hb dX7_split_78 rfl (lv_at hl 3 rfl) ?_
                obtain ⟨r_11, h_11, e_11, hF⟩ := ob2_some hF
                refine gx_calli (gx_runV (As := [.ref (q 9), .int x2]) (rest := []) ⟨hx, hb, hml, hown, hts⟩ (c_X7_splitNumber l G cI cJ cZ cB cT q h_3 x2 r_11 h_11 e_11 H.size) (gG_V m_546 m_547 m_548 m_417 m_545) rfl e_X7_splitNumber ⟨Nat.le_of_ble_eq_true rfl, Nat.le_of_ble_eq_true rfl⟩ hK hP hD hE hS hA 11 wC_at11 rfl rfl hl.1 rfl (Nat.le_of_ble_eq_true rfl) dX7_split_79 ⟨Nat.le_refl _, Nat.le_refl _⟩) hP hD hS hA (fun x_11 u_11 H locs hw_11 hP hD hS => ?_)
                subst x_11
                refine lv_istore_n (lv' := [(2, .int r_11), (4, .int r_3), (0, .ref (q 11)), (1, .ref (q 9)), (3, .int x3)]) hx hb dX7_split_82 rfl hl (by decide) rfl (fun ls hl => ?_)
                refine lv_goto (tgt := 93) hx hb dX7_split_83 (by decide) ?_
                exact hJ_93 h_11 r_11 x3 hF H _ ls hP hD hS (lv_sub hl [2, 3, 0, 4] rfl)
            · have hF := ob_neg c_7 hF
              refine lv_aload_n hx hb dX7_split_58 rfl (lv_at hl 1 rfl) ?_
              refine lv_aload_n hx hb dX7_split_59 rfl (lv_at hl 2 rfl) ?_
              refine lv_iload_n hx hb dX7_split_60 rfl (lv_at hl 3 rfl) ?_
              obtain ⟨r_12, h_12, e_12, hF⟩ := ob2_some hF
              refine gx_calli (gx_runV (As := [.ref (q 9), .int x2]) (rest := []) ⟨hx, hb, hml, hown, hts⟩ (c_X7_splitWord l G cI cJ cZ cB cT q h_3 x2 r_12 h_12 e_12 H.size) (gG_V m_550 m_551 m_552 m_417 m_549) rfl e_X7_splitWord ⟨Nat.le_of_ble_eq_true rfl, Nat.le_of_ble_eq_true rfl⟩ hK hP hD hE hS hA 11 wC_at11 rfl rfl hl.1 rfl (Nat.le_of_ble_eq_true rfl) dX7_split_61 ⟨Nat.le_refl _, Nat.le_refl _⟩) hP hD hS hA (fun x_12 u_12 H locs hw_12 hP hD hS => ?_)
              subst x_12
              refine lv_istore_n (lv' := [(2, .int r_12), (4, .int r_3), (0, .ref (q 11)), (1, .ref (q 9)), (3, .int x3)]) hx hb dX7_split_64 rfl hl (by decide) rfl (fun ls hl => ?_)
              refine lv_goto (tgt := 93) hx hb dX7_split_65 (by decide) ?_
              exact hJ_93 h_12 r_12 x3 hF H _ ls hP hD hS (lv_sub hl [2, 3, 0, 4] rfl)
          · have hF := ob_neg c_5 hF
            refine lv_iinc (v := (x2 + 1)) (lv' := [(2, .int (x2 + 1)), (4, .int r_3), (0, .ref (q 11)), (1, .ref (q 9)), (3, .int x3)]) hx hb dX7_split_44 hl (k := 3) rfl rfl (by decide) rfl (fun ls hl => ?_)
            refine lv_goto (tgt := 93) hx hb dX7_split_47 (by decide) ?_
            exact hJ_93 h_3 (x2 + 1) x3 hF H _ ls hP hD hS (lv_sub hl [2, 3, 0, 4] rfl)
  unfold f_X7_split at hF
  refine lv_aload_n hx hb dX7_split_0 rfl (lv_at hl 0 rfl) ?_
  refine lv_iconst (v := 0) hx hb dX7_split_1 (by decide) ?_
  refine va_put (D := G) (ci := 7) (v := .int 0) (ty := .int) (C := RX7) (T := TX7) (N := 5) hx hb hts iX7 tyX7 tyX7_ok nmX7 hown hK hP hD hS 11 wC_at11 rfl 4 (by decide) (hts _ m_403) (fun _ h9 => h9) rfl (tyX7_ok 4 (by decide)) rfl rfl (Nat.le_of_ble_eq_true rfl) dX7_split_2 (fun H locs hP hD hS => ?_)
  rw [wC_sI11_4] at hP hD
  refine lv_aload_n hx hb dX7_split_5 rfl (lv_at hl 0 rfl) ?_
  refine lv_iconst (v := 0) hx hb dX7_split_6 (by decide) ?_
  refine va_put (D := G) (ci := 7) (v := .int 0) (ty := .int) (C := RX7) (T := TX7) (N := 5) hx hb hts iX7 tyX7 tyX7_ok nmX7 hown hK hP hD hS 11 wC_at11 rfl 3 (by decide) (hts _ m_404) (fun _ h9 => h9) rfl (tyX7_ok 3 (by decide)) rfl rfl (Nat.le_of_ble_eq_true rfl) dX7_split_7 (fun H locs hP hD hS => ?_)
  rw [wC_sI11_3] at hP hD
  refine lv_iconst (v := 0) hx hb dX7_split_10 (by decide) ?_
  refine lv_istore_n (lv' := [(2, .int 0), (0, .ref (q 11)), (1, .ref (q 9))]) hx hb dX7_split_11 rfl hl (by decide) rfl (fun ls hl => ?_)
  refine lv_iconst (v := 0) hx hb dX7_split_12 (by decide) ?_
  refine lv_istore_n (lv' := [(3, .int 0), (2, .int 0), (0, .ref (q 11)), (1, .ref (q 9))]) hx hb dX7_split_13 rfl hl (by decide) rfl (fun ls hl => ?_)
  exact hJ_14 8589934592 (sI (sI h 4 4 0) 4 3 0) 0 0 hF H _ ls hP hD hS (lv_sub hl [2, 3, 1, 0] rfl)
