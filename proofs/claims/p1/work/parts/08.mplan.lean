set_option maxHeartbeats 4000000 in
set_option maxRecDepth 100000 in
theorem c_next0 (l : Launch) (G : va_G) (cI cJ cZ cB cT : ClassId) (m0 : Nat) (r : Nat → Nat)  : gMv l yX9_next (gws yX9_next cX9_next 5 none) 1 G (gT cI cJ cZ cB cT) [.ref m0] [(m0, .inr (9, [.ref (r 0), .ref (r 1), .ref (r 2), .int 0, .int (-1), .int (-1), .ref (r 6), .ref (r 7), .ref (r 8), .ref (r 9), .ref (r 10), .ref (r 11), .ref (r 12), .ref (r 13), .int 0, .int 0, .int 0, .int 0, .int 0, .int 0, .int (-1), .int 0, .int 0, .ref (r 23), .ref (r 24), .int 0, .ref (r 26), .ref (r 27), .int 4, .int 0, .int 0, .ref (r 31), .ref (r 32), .ref (r 33), .ref (r 34), .ref (r 35), .int 0, .ref (r 37), .ref (r 38), .ref (r 39), .ref (r 40), .ref (r 41), .ref (r 42), .ref (r 43), .ref (r 44), .ref (r 45), .ref (r 46), .int 0, .ref (r 48), .ref (r 49), .ref (r 50), .ref (r 51), .long 0]))] (fun (_ : Unit) => True) (fun (_ : Unit) => ([(m0, .inr (9, [.ref (r 0), .ref (r 1), .ref (r 2), .int 0, .int (-1), .int (-1), .ref (r 6), .ref (r 7), .ref (r 8), .ref (r 9), .ref (r 10), .ref (r 11), .ref (r 12), .ref (r 13), .int 0, .int 0, .int 0, .int 0, .int 0, .int 0, .int (-1), .int 0, .int 0, .ref (r 23), .ref (r 24), .int 0, .ref (r 26), .ref (r 27), .int 4, .int 0, .int 0, .ref (r 31), .ref (r 32), .ref (r 33), .ref (r 34), .ref (r 35), .int 0, .ref (r 37), .ref (r 38), .ref (r 39), .ref (r 40), .ref (r 41), .ref (r 42), .ref (r 43), .ref (r 44), .ref (r 45), .ref (r 46), .int 0, .ref (r 48), .ref (r 49), .ref (r 50), .ref (r 51), .long 0]))] : va_W)) := by
  intro sz
  refine gM_start (y := yX9_next) (av := [.ref m0]) (ws := [(m0, .inr (9, [.ref (r 0), .ref (r 1), .ref (r 2), .int 0, .int (-1), .int (-1), .ref (r 6), .ref (r 7), .ref (r 8), .ref (r 9), .ref (r 10), .ref (r 11), .ref (r 12), .ref (r 13), .int 0, .int 0, .int 0, .int 0, .int 0, .int 0, .int (-1), .int 0, .int 0, .ref (r 23), .ref (r 24), .int 0, .ref (r 26), .ref (r 27), .int 4, .int 0, .int 0, .ref (r 31), .ref (r 32), .ref (r 33), .ref (r 34), .ref (r 35), .int 0, .ref (r 37), .ref (r 38), .ref (r 39), .ref (r 40), .ref (r 41), .ref (r 42), .ref (r 43), .ref (r 44), .ref (r 45), .ref (r 46), .int 0, .ref (r 48), .ref (r 49), .ref (r 50), .ref (r 51), .long 0]))]) (Qf := fun A => va_Qv (fun (_ : Unit) => True) (gB G (fun (_ : Unit) => ([(m0, .inr (9, [.ref (r 0), .ref (r 1), .ref (r 2), .int 0, .int (-1), .int (-1), .ref (r 6), .ref (r 7), .ref (r 8), .ref (r 9), .ref (r 10), .ref (r 11), .ref (r 12), .ref (r 13), .int 0, .int 0, .int 0, .int 0, .int 0, .int 0, .int (-1), .int 0, .int 0, .ref (r 23), .ref (r 24), .int 0, .ref (r 26), .ref (r 27), .int 4, .int 0, .int 0, .ref (r 31), .ref (r 32), .ref (r 33), .ref (r 34), .ref (r 35), .int 0, .ref (r 37), .ref (r 38), .ref (r 39), .ref (r 40), .ref (r 41), .ref (r 42), .ref (r 43), .ref (r 44), .ref (r 45), .ref (r 46), .int 0, .ref (r 48), .ref (r 49), .ref (r 50), .ref (r 51), .long 0]))] : va_W)) A) A) (cc := cX9_next) (maxL := 5) (ret := none) (by decide) (Nat.le_of_ble_eq_true rfl) ?_
  intro p e s m args below meth c A ls H hx hb hr hts hown hin hlocks hml hP hK hD hA hS hl
  have hl : lv_has ls 5 [(0, .ref m0)] := hl
  refine lv_aload_n hx hb dX9_next_0 rfl (lv_at hl 0 rfl) ?_
  refine va_get (D := G) (ci := 9) (v := .int 0) (C := RX9) (T := TX9) (N := 53) hx hb hts iX9 hown hK hP 0 rfl rfl 15 (by decide) (hts _ m_253) (fun _ h9 => h9) rfl dX9_next_1 ?_
  refine lv_aload_n hx hb dX9_next_4 rfl (lv_at hl 0 rfl) ?_
  refine va_get (D := G) (ci := 9) (v := .int 0) (C := RX9) (T := TX9) (N := 53) hx hb hts iX9 hown hK hP 0 rfl rfl 14 (by decide) (hts _ m_254) (fun _ h9 => h9) rfl dX9_next_5 ?_
  refine lv_icmp_ge (tgt := 52) hx hb dX9_next_8 (by decide) (fun _ => ?_) (fun c => absurd (by decide) c)
  refine lv_aload_n hx hb dX9_next_52 rfl (lv_at hl 0 rfl) ?_
  refine lv_aload_n hx hb dX9_next_53 rfl (lv_at hl 0 rfl) ?_
  refine va_get (D := G) (ci := 9) (v := .int 0) (C := RX9) (T := TX9) (N := 53) hx hb hts iX9 hown hK hP 0 rfl rfl 15 (by decide) (hts _ m_253) (fun _ h9 => h9) rfl dX9_next_54 ?_
  refine va_put (D := G) (ci := 9) (v := .int 0) (ty := .int) (C := RX9) (T := TX9) (N := 53) hx hb hts iX9 tyX9 tyX9_ok nmX9 hown hK hP hD hS 0 rfl rfl 16 (by decide) (hts _ m_255) (fun _ h9 => h9) rfl (tyX9_ok 16 (by decide)) rfl rfl (Nat.le_of_ble_eq_true rfl) dX9_next_57 (fun H locs hP hD hS => ?_)
  have hP : va_P G vwCl [(m0, .inr (9, [.ref (r 0), .ref (r 1), .ref (r 2), .int 0, .int (-1), .int (-1), .ref (r 6), .ref (r 7), .ref (r 8), .ref (r 9), .ref (r 10), .ref (r 11), .ref (r 12), .ref (r 13), .int 0, .int 0, .int 0, .int 0, .int 0, .int 0, .int (-1), .int 0, .int 0, .ref (r 23), .ref (r 24), .int 0, .ref (r 26), .ref (r 27), .int 4, .int 0, .int 0, .ref (r 31), .ref (r 32), .ref (r 33), .ref (r 34), .ref (r 35), .int 0, .ref (r 37), .ref (r 38), .ref (r 39), .ref (r 40), .ref (r 41), .ref (r 42), .ref (r 43), .ref (r 44), .ref (r 45), .ref (r 46), .int 0, .ref (r 48), .ref (r 49), .ref (r 50), .ref (r 51), .long 0]))] H := hP
  have hD : va_D A [(m0, .inr (9, [.ref (r 0), .ref (r 1), .ref (r 2), .int 0, .int (-1), .int (-1), .ref (r 6), .ref (r 7), .ref (r 8), .ref (r 9), .ref (r 10), .ref (r 11), .ref (r 12), .ref (r 13), .int 0, .int 0, .int 0, .int 0, .int 0, .int 0, .int (-1), .int 0, .int 0, .ref (r 23), .ref (r 24), .int 0, .ref (r 26), .ref (r 27), .int 4, .int 0, .int 0, .ref (r 31), .ref (r 32), .ref (r 33), .ref (r 34), .ref (r 35), .int 0, .ref (r 37), .ref (r 38), .ref (r 39), .ref (r 40), .ref (r 41), .ref (r 42), .ref (r 43), .ref (r 44), .ref (r 45), .ref (r 46), .int 0, .ref (r 48), .ref (r 49), .ref (r 50), .ref (r 51), .long 0]))] := hD
  refine lv_aload_n hx hb dX9_next_60 rfl (lv_at hl 0 rfl) ?_
  refine va_get (D := G) (ci := 9) (v := .int 0) (C := RX9) (T := TX9) (N := 53) hx hb hts iX9 hown hK hP 0 rfl rfl 15 (by decide) (hts _ m_253) (fun _ h9 => h9) rfl dX9_next_61 ?_
  refine lv_aload_n hx hb dX9_next_64 rfl (lv_at hl 0 rfl) ?_
  refine va_get (D := G) (ci := 9) (v := .int 0) (C := RX9) (T := TX9) (N := 53) hx hb hts iX9 hown hK hP 0 rfl rfl 14 (by decide) (hts _ m_254) (fun _ h9 => h9) rfl dX9_next_65 ?_
  refine lv_icmp_ne (tgt := 77) hx hb dX9_next_68 (by decide) (fun c => absurd (by decide) c) (fun _ => ?_)
  refine lv_aload_n hx hb dX9_next_71 rfl (lv_at hl 0 rfl) ?_
  refine lv_iconst (v := 0) hx hb dX9_next_72 (by decide) ?_
  refine va_put (D := G) (ci := 9) (v := .int 0) (ty := .int) (C := RX9) (T := TX9) (N := 53) hx hb hts iX9 tyX9 tyX9_ok nmX9 hown hK hP hD hS 0 rfl rfl 17 (by decide) (hts _ m_256) (fun _ h9 => h9) rfl (tyX9_ok 17 (by decide)) rfl rfl (Nat.le_of_ble_eq_true rfl) dX9_next_73 (fun H locs hP hD hS => ?_)
  have hP : va_P G vwCl [(m0, .inr (9, [.ref (r 0), .ref (r 1), .ref (r 2), .int 0, .int (-1), .int (-1), .ref (r 6), .ref (r 7), .ref (r 8), .ref (r 9), .ref (r 10), .ref (r 11), .ref (r 12), .ref (r 13), .int 0, .int 0, .int 0, .int 0, .int 0, .int 0, .int (-1), .int 0, .int 0, .ref (r 23), .ref (r 24), .int 0, .ref (r 26), .ref (r 27), .int 4, .int 0, .int 0, .ref (r 31), .ref (r 32), .ref (r 33), .ref (r 34), .ref (r 35), .int 0, .ref (r 37), .ref (r 38), .ref (r 39), .ref (r 40), .ref (r 41), .ref (r 42), .ref (r 43), .ref (r 44), .ref (r 45), .ref (r 46), .int 0, .ref (r 48), .ref (r 49), .ref (r 50), .ref (r 51), .long 0]))] H := hP
  have hD : va_D A [(m0, .inr (9, [.ref (r 0), .ref (r 1), .ref (r 2), .int 0, .int (-1), .int (-1), .ref (r 6), .ref (r 7), .ref (r 8), .ref (r 9), .ref (r 10), .ref (r 11), .ref (r 12), .ref (r 13), .int 0, .int 0, .int 0, .int 0, .int 0, .int 0, .int (-1), .int 0, .int 0, .ref (r 23), .ref (r 24), .int 0, .ref (r 26), .ref (r 27), .int 4, .int 0, .int 0, .ref (r 31), .ref (r 32), .ref (r 33), .ref (r 34), .ref (r 35), .int 0, .ref (r 37), .ref (r 38), .ref (r 39), .ref (r 40), .ref (r 41), .ref (r 42), .ref (r 43), .ref (r 44), .ref (r 45), .ref (r 46), .int 0, .ref (r 48), .ref (r 49), .ref (r 50), .ref (r 51), .long 0]))] := hD
  exact gw_vret () hx hb hr hlocks hP hD hS trivial dX9_next_76
theorem e_X9_next : yX9_next.cls = RX9 ∧ yX9_next.cls ≠ "java/lang/invoke/MethodHandle" ∧ yX9_next.cls ≠ "java/lang/invoke/VarHandle" ∧ (parseMethodDescriptor yX9_next.desc).map (fun d => d.parameters.length) = some 0 := by decide +kernel
set_option maxHeartbeats 4000000 in
set_option maxRecDepth 100000 in
theorem c_X9_text (l : Launch) (G : va_G) (cI cJ cZ cB cT : ClassId) (m0 : Nat) (r : Nat → Nat)  : gMi l yX9_text (gws yX9_text cX9_text 3 (some .int)) 2 G (gT cI cJ cZ cB cT) [.ref m0] [(m0, .inr (9, [.ref (r 0), .ref (r 1), .ref (r 2), .int 0, .int (-1), .int (-1), .ref (r 6), .ref (r 7), .ref (r 8), .ref (r 9), .ref (r 10), .ref (r 11), .ref (r 12), .ref (r 13), .int 0, .int 0, .int 0, .int 0, .int 0, .int 0, .int 0, .int 0, .int 0, .ref (r 23), .ref (r 24), .int 0, .ref (r 26), .ref (r 27), .int 0, .int 0, .int 0, .ref (r 31), .ref (r 32), .ref (r 33), .ref (r 34), .ref (r 35), .int 0, .ref (r 37), .ref (r 38), .ref (r 39), .ref (r 40), .ref (r 41), .ref (r 42), .ref (r 43), .ref (r 44), .ref (r 45), .ref (r 46), .int 0, .ref (r 48), .ref (r 49), .ref (r 50), .ref (r 51), .long 0])), ((r 0), .inl (cI, 1990, .inl (upd (upd (fun _ => 0) 4 (-1)) 122 9))), ((r 6), .inl (cI, 4, .inl (fun _ => 0)))] (fun r (_ : Unit) => r = 0) (fun (_ : Unit) => ([] : va_W)) := by
  intro sz
  refine gM_start (y := yX9_text) (av := [.ref m0]) (ws := [(m0, .inr (9, [.ref (r 0), .ref (r 1), .ref (r 2), .int 0, .int (-1), .int (-1), .ref (r 6), .ref (r 7), .ref (r 8), .ref (r 9), .ref (r 10), .ref (r 11), .ref (r 12), .ref (r 13), .int 0, .int 0, .int 0, .int 0, .int 0, .int 0, .int 0, .int 0, .int 0, .ref (r 23), .ref (r 24), .int 0, .ref (r 26), .ref (r 27), .int 0, .int 0, .int 0, .ref (r 31), .ref (r 32), .ref (r 33), .ref (r 34), .ref (r 35), .int 0, .ref (r 37), .ref (r 38), .ref (r 39), .ref (r 40), .ref (r 41), .ref (r 42), .ref (r 43), .ref (r 44), .ref (r 45), .ref (r 46), .int 0, .ref (r 48), .ref (r 49), .ref (r 50), .ref (r 51), .long 0])), ((r 0), .inl (cI, 1990, .inl (upd (upd (fun _ => 0) 4 (-1)) 122 9))), ((r 6), .inl (cI, 4, .inl (fun _ => 0)))]) (Qf := fun A => va_Qi (fun r (_ : Unit) => r = 0) (gB G (fun (_ : Unit) => ([] : va_W)) A) A) (cc := cX9_text) (maxL := 3) (ret := (some .int)) (by decide) (Nat.le_of_ble_eq_true rfl) ?_
  intro p e s m args below meth c A ls H hx hb hr hts hown hin hlocks hml hP hK hD hA hS hl
  have hl : lv_has ls 3 [(0, .ref m0)] := hl
  refine lv_aload_n hx hb dX9_text_0 rfl (lv_at hl 0 rfl) ?_
  refine va_get (D := G) (ci := 9) (v := .ref (r 0)) (C := RX9) (T := TX9) (N := 53) hx hb hts iX9 hown hK hP 0 rfl rfl 0 (by decide) (hts _ m_101) (fun _ h9 => h9) rfl dX9_text_1 ?_
  refine lv_iconst (v := 3) hx hb dX9_text_4 (by decide) ?_
  refine gw_iald (x := 0) hx hb hK hP 1 0 3 rfl rfl rfl (by decide) (by decide) rfl dX9_text_5 ?_
  refine lv_iconst (v := 4) hx hb dX9_text_6 (by decide) ?_
  refine lv_icmp_ne (tgt := 12) hx hb dX9_text_7 (by decide) (fun _ => ?_) (fun c => absurd c (by decide))
  refine lv_aload_n hx hb dX9_text_12 rfl (lv_at hl 0 rfl) ?_
  refine lv_aload_n hx hb dX9_text_13 rfl (lv_at hl 0 rfl) ?_
  refine va_get (D := G) (ci := 9) (v := .int 0) (C := RX9) (T := TX9) (N := 53) hx hb hts iX9 hown hK hP 0 rfl rfl 3 (by decide) (hts _ m_114) (fun _ h9 => h9) rfl dX9_text_14 ?_
  refine va_put (D := G) (ci := 9) (v := .int 0) (ty := .int) (C := RX9) (T := TX9) (N := 53) hx hb hts iX9 tyX9 tyX9_ok nmX9 hown hK hP hD hS 0 rfl rfl 14 (by decide) (hts _ m_254) (fun _ h9 => h9) rfl (tyX9_ok 14 (by decide)) rfl rfl (Nat.le_of_ble_eq_true rfl) dX9_text_17 (fun H locs hP hD hS => ?_)
  have hP : va_P G vwCl [(m0, .inr (9, [.ref (r 0), .ref (r 1), .ref (r 2), .int 0, .int (-1), .int (-1), .ref (r 6), .ref (r 7), .ref (r 8), .ref (r 9), .ref (r 10), .ref (r 11), .ref (r 12), .ref (r 13), .int 0, .int 0, .int 0, .int 0, .int 0, .int 0, .int 0, .int 0, .int 0, .ref (r 23), .ref (r 24), .int 0, .ref (r 26), .ref (r 27), .int 0, .int 0, .int 0, .ref (r 31), .ref (r 32), .ref (r 33), .ref (r 34), .ref (r 35), .int 0, .ref (r 37), .ref (r 38), .ref (r 39), .ref (r 40), .ref (r 41), .ref (r 42), .ref (r 43), .ref (r 44), .ref (r 45), .ref (r 46), .int 0, .ref (r 48), .ref (r 49), .ref (r 50), .ref (r 51), .long 0])), ((r 0), .inl (cI, 1990, .inl (upd (upd (fun _ => 0) 4 (-1)) 122 9))), ((r 6), .inl (cI, 4, .inl (fun _ => 0)))] H := hP
  have hD : va_D A [(m0, .inr (9, [.ref (r 0), .ref (r 1), .ref (r 2), .int 0, .int (-1), .int (-1), .ref (r 6), .ref (r 7), .ref (r 8), .ref (r 9), .ref (r 10), .ref (r 11), .ref (r 12), .ref (r 13), .int 0, .int 0, .int 0, .int 0, .int 0, .int 0, .int 0, .int 0, .int 0, .ref (r 23), .ref (r 24), .int 0, .ref (r 26), .ref (r 27), .int 0, .int 0, .int 0, .ref (r 31), .ref (r 32), .ref (r 33), .ref (r 34), .ref (r 35), .int 0, .ref (r 37), .ref (r 38), .ref (r 39), .ref (r 40), .ref (r 41), .ref (r 42), .ref (r 43), .ref (r 44), .ref (r 45), .ref (r 46), .int 0, .ref (r 48), .ref (r 49), .ref (r 50), .ref (r 51), .long 0])), ((r 0), .inl (cI, 1990, .inl (upd (upd (fun _ => 0) 4 (-1)) 122 9))), ((r 6), .inl (cI, 4, .inl (fun _ => 0)))] := hD
  refine lv_aload_n hx hb dX9_text_20 rfl (lv_at hl 0 rfl) ?_
  refine lv_iconst (v := 0) hx hb dX9_text_21 (by decide) ?_
  refine va_put (D := G) (ci := 9) (v := .int 0) (ty := .int) (C := RX9) (T := TX9) (N := 53) hx hb hts iX9 tyX9 tyX9_ok nmX9 hown hK hP hD hS 0 rfl rfl 3 (by decide) (hts _ m_114) (fun _ h9 => h9) rfl (tyX9_ok 3 (by decide)) rfl rfl (Nat.le_of_ble_eq_true rfl) dX9_text_22 (fun H locs hP hD hS => ?_)
  have hP : va_P G vwCl [(m0, .inr (9, [.ref (r 0), .ref (r 1), .ref (r 2), .int 0, .int (-1), .int (-1), .ref (r 6), .ref (r 7), .ref (r 8), .ref (r 9), .ref (r 10), .ref (r 11), .ref (r 12), .ref (r 13), .int 0, .int 0, .int 0, .int 0, .int 0, .int 0, .int 0, .int 0, .int 0, .ref (r 23), .ref (r 24), .int 0, .ref (r 26), .ref (r 27), .int 0, .int 0, .int 0, .ref (r 31), .ref (r 32), .ref (r 33), .ref (r 34), .ref (r 35), .int 0, .ref (r 37), .ref (r 38), .ref (r 39), .ref (r 40), .ref (r 41), .ref (r 42), .ref (r 43), .ref (r 44), .ref (r 45), .ref (r 46), .int 0, .ref (r 48), .ref (r 49), .ref (r 50), .ref (r 51), .long 0])), ((r 0), .inl (cI, 1990, .inl (upd (upd (fun _ => 0) 4 (-1)) 122 9))), ((r 6), .inl (cI, 4, .inl (fun _ => 0)))] H := hP
  have hD : va_D A [(m0, .inr (9, [.ref (r 0), .ref (r 1), .ref (r 2), .int 0, .int (-1), .int (-1), .ref (r 6), .ref (r 7), .ref (r 8), .ref (r 9), .ref (r 10), .ref (r 11), .ref (r 12), .ref (r 13), .int 0, .int 0, .int 0, .int 0, .int 0, .int 0, .int 0, .int 0, .int 0, .ref (r 23), .ref (r 24), .int 0, .ref (r 26), .ref (r 27), .int 0, .int 0, .int 0, .ref (r 31), .ref (r 32), .ref (r 33), .ref (r 34), .ref (r 35), .int 0, .ref (r 37), .ref (r 38), .ref (r 39), .ref (r 40), .ref (r 41), .ref (r 42), .ref (r 43), .ref (r 44), .ref (r 45), .ref (r 46), .int 0, .ref (r 48), .ref (r 49), .ref (r 50), .ref (r 51), .long 0])), ((r 0), .inl (cI, 1990, .inl (upd (upd (fun _ => 0) 4 (-1)) 122 9))), ((r 6), .inl (cI, 4, .inl (fun _ => 0)))] := hD
  refine lv_aload_n hx hb dX9_text_25 rfl (lv_at hl 0 rfl) ?_
  refine lv_iconst (v := 0) hx hb dX9_text_26 (by decide) ?_
  refine va_put (D := G) (ci := 9) (v := .int 0) (ty := .int) (C := RX9) (T := TX9) (N := 53) hx hb hts iX9 tyX9 tyX9_ok nmX9 hown hK hP hD hS 0 rfl rfl 15 (by decide) (hts _ m_253) (fun _ h9 => h9) rfl (tyX9_ok 15 (by decide)) rfl rfl (Nat.le_of_ble_eq_true rfl) dX9_text_27 (fun H locs hP hD hS => ?_)
  have hP : va_P G vwCl [(m0, .inr (9, [.ref (r 0), .ref (r 1), .ref (r 2), .int 0, .int (-1), .int (-1), .ref (r 6), .ref (r 7), .ref (r 8), .ref (r 9), .ref (r 10), .ref (r 11), .ref (r 12), .ref (r 13), .int 0, .int 0, .int 0, .int 0, .int 0, .int 0, .int 0, .int 0, .int 0, .ref (r 23), .ref (r 24), .int 0, .ref (r 26), .ref (r 27), .int 0, .int 0, .int 0, .ref (r 31), .ref (r 32), .ref (r 33), .ref (r 34), .ref (r 35), .int 0, .ref (r 37), .ref (r 38), .ref (r 39), .ref (r 40), .ref (r 41), .ref (r 42), .ref (r 43), .ref (r 44), .ref (r 45), .ref (r 46), .int 0, .ref (r 48), .ref (r 49), .ref (r 50), .ref (r 51), .long 0])), ((r 0), .inl (cI, 1990, .inl (upd (upd (fun _ => 0) 4 (-1)) 122 9))), ((r 6), .inl (cI, 4, .inl (fun _ => 0)))] H := hP
  have hD : va_D A [(m0, .inr (9, [.ref (r 0), .ref (r 1), .ref (r 2), .int 0, .int (-1), .int (-1), .ref (r 6), .ref (r 7), .ref (r 8), .ref (r 9), .ref (r 10), .ref (r 11), .ref (r 12), .ref (r 13), .int 0, .int 0, .int 0, .int 0, .int 0, .int 0, .int 0, .int 0, .int 0, .ref (r 23), .ref (r 24), .int 0, .ref (r 26), .ref (r 27), .int 0, .int 0, .int 0, .ref (r 31), .ref (r 32), .ref (r 33), .ref (r 34), .ref (r 35), .int 0, .ref (r 37), .ref (r 38), .ref (r 39), .ref (r 40), .ref (r 41), .ref (r 42), .ref (r 43), .ref (r 44), .ref (r 45), .ref (r 46), .int 0, .ref (r 48), .ref (r 49), .ref (r 50), .ref (r 51), .long 0])), ((r 0), .inl (cI, 1990, .inl (upd (upd (fun _ => 0) 4 (-1)) 122 9))), ((r 6), .inl (cI, 4, .inl (fun _ => 0)))] := hD
  refine lv_aload_n hx hb dX9_text_30 rfl (lv_at hl 0 rfl) ?_
  refine lv_iconst (v := 0) hx hb dX9_text_31 (by decide) ?_
  refine va_put (D := G) (ci := 9) (v := .int 0) (ty := .int) (C := RX9) (T := TX9) (N := 53) hx hb hts iX9 tyX9 tyX9_ok nmX9 hown hK hP hD hS 0 rfl rfl 19 (by decide) (hts _ m_257) (fun _ h9 => h9) rfl (tyX9_ok 19 (by decide)) rfl rfl (Nat.le_of_ble_eq_true rfl) dX9_text_32 (fun H locs hP hD hS => ?_)
  have hP : va_P G vwCl [(m0, .inr (9, [.ref (r 0), .ref (r 1), .ref (r 2), .int 0, .int (-1), .int (-1), .ref (r 6), .ref (r 7), .ref (r 8), .ref (r 9), .ref (r 10), .ref (r 11), .ref (r 12), .ref (r 13), .int 0, .int 0, .int 0, .int 0, .int 0, .int 0, .int 0, .int 0, .int 0, .ref (r 23), .ref (r 24), .int 0, .ref (r 26), .ref (r 27), .int 0, .int 0, .int 0, .ref (r 31), .ref (r 32), .ref (r 33), .ref (r 34), .ref (r 35), .int 0, .ref (r 37), .ref (r 38), .ref (r 39), .ref (r 40), .ref (r 41), .ref (r 42), .ref (r 43), .ref (r 44), .ref (r 45), .ref (r 46), .int 0, .ref (r 48), .ref (r 49), .ref (r 50), .ref (r 51), .long 0])), ((r 0), .inl (cI, 1990, .inl (upd (upd (fun _ => 0) 4 (-1)) 122 9))), ((r 6), .inl (cI, 4, .inl (fun _ => 0)))] H := hP
  have hD : va_D A [(m0, .inr (9, [.ref (r 0), .ref (r 1), .ref (r 2), .int 0, .int (-1), .int (-1), .ref (r 6), .ref (r 7), .ref (r 8), .ref (r 9), .ref (r 10), .ref (r 11), .ref (r 12), .ref (r 13), .int 0, .int 0, .int 0, .int 0, .int 0, .int 0, .int 0, .int 0, .int 0, .ref (r 23), .ref (r 24), .int 0, .ref (r 26), .ref (r 27), .int 0, .int 0, .int 0, .ref (r 31), .ref (r 32), .ref (r 33), .ref (r 34), .ref (r 35), .int 0, .ref (r 37), .ref (r 38), .ref (r 39), .ref (r 40), .ref (r 41), .ref (r 42), .ref (r 43), .ref (r 44), .ref (r 45), .ref (r 46), .int 0, .ref (r 48), .ref (r 49), .ref (r 50), .ref (r 51), .long 0])), ((r 0), .inl (cI, 1990, .inl (upd (upd (fun _ => 0) 4 (-1)) 122 9))), ((r 6), .inl (cI, 4, .inl (fun _ => 0)))] := hD
  refine lv_aload_n hx hb dX9_text_35 rfl (lv_at hl 0 rfl) ?_
  refine lv_iconst (v := (-1)) hx hb dX9_text_36 (by decide) ?_
  refine va_put (D := G) (ci := 9) (v := .int (-1)) (ty := .int) (C := RX9) (T := TX9) (N := 53) hx hb hts iX9 tyX9 tyX9_ok nmX9 hown hK hP hD hS 0 rfl rfl 20 (by decide) (hts _ m_258) (fun _ h9 => h9) rfl (tyX9_ok 20 (by decide)) rfl rfl (Nat.le_of_ble_eq_true rfl) dX9_text_37 (fun H locs hP hD hS => ?_)
  have hP : va_P G vwCl [(m0, .inr (9, [.ref (r 0), .ref (r 1), .ref (r 2), .int 0, .int (-1), .int (-1), .ref (r 6), .ref (r 7), .ref (r 8), .ref (r 9), .ref (r 10), .ref (r 11), .ref (r 12), .ref (r 13), .int 0, .int 0, .int 0, .int 0, .int 0, .int 0, .int (-1), .int 0, .int 0, .ref (r 23), .ref (r 24), .int 0, .ref (r 26), .ref (r 27), .int 0, .int 0, .int 0, .ref (r 31), .ref (r 32), .ref (r 33), .ref (r 34), .ref (r 35), .int 0, .ref (r 37), .ref (r 38), .ref (r 39), .ref (r 40), .ref (r 41), .ref (r 42), .ref (r 43), .ref (r 44), .ref (r 45), .ref (r 46), .int 0, .ref (r 48), .ref (r 49), .ref (r 50), .ref (r 51), .long 0])), ((r 0), .inl (cI, 1990, .inl (upd (upd (fun _ => 0) 4 (-1)) 122 9))), ((r 6), .inl (cI, 4, .inl (fun _ => 0)))] H := hP
  have hD : va_D A [(m0, .inr (9, [.ref (r 0), .ref (r 1), .ref (r 2), .int 0, .int (-1), .int (-1), .ref (r 6), .ref (r 7), .ref (r 8), .ref (r 9), .ref (r 10), .ref (r 11), .ref (r 12), .ref (r 13), .int 0, .int 0, .int 0, .int 0, .int 0, .int 0, .int (-1), .int 0, .int 0, .ref (r 23), .ref (r 24), .int 0, .ref (r 26), .ref (r 27), .int 0, .int 0, .int 0, .ref (r 31), .ref (r 32), .ref (r 33), .ref (r 34), .ref (r 35), .int 0, .ref (r 37), .ref (r 38), .ref (r 39), .ref (r 40), .ref (r 41), .ref (r 42), .ref (r 43), .ref (r 44), .ref (r 45), .ref (r 46), .int 0, .ref (r 48), .ref (r 49), .ref (r 50), .ref (r 51), .long 0])), ((r 0), .inl (cI, 1990, .inl (upd (upd (fun _ => 0) 4 (-1)) 122 9))), ((r 6), .inl (cI, 4, .inl (fun _ => 0)))] := hD
  refine lv_aload_n hx hb dX9_text_40 rfl (lv_at hl 0 rfl) ?_
  refine lv_iconst (v := 0) hx hb dX9_text_41 (by decide) ?_
  refine va_put (D := G) (ci := 9) (v := .int 0) (ty := .int) (C := RX9) (T := TX9) (N := 53) hx hb hts iX9 tyX9 tyX9_ok nmX9 hown hK hP hD hS 0 rfl rfl 21 (by decide) (hts _ m_259) (fun _ h9 => h9) rfl (tyX9_ok 21 (by decide)) rfl rfl (Nat.le_of_ble_eq_true rfl) dX9_text_42 (fun H locs hP hD hS => ?_)
  have hP : va_P G vwCl [(m0, .inr (9, [.ref (r 0), .ref (r 1), .ref (r 2), .int 0, .int (-1), .int (-1), .ref (r 6), .ref (r 7), .ref (r 8), .ref (r 9), .ref (r 10), .ref (r 11), .ref (r 12), .ref (r 13), .int 0, .int 0, .int 0, .int 0, .int 0, .int 0, .int (-1), .int 0, .int 0, .ref (r 23), .ref (r 24), .int 0, .ref (r 26), .ref (r 27), .int 0, .int 0, .int 0, .ref (r 31), .ref (r 32), .ref (r 33), .ref (r 34), .ref (r 35), .int 0, .ref (r 37), .ref (r 38), .ref (r 39), .ref (r 40), .ref (r 41), .ref (r 42), .ref (r 43), .ref (r 44), .ref (r 45), .ref (r 46), .int 0, .ref (r 48), .ref (r 49), .ref (r 50), .ref (r 51), .long 0])), ((r 0), .inl (cI, 1990, .inl (upd (upd (fun _ => 0) 4 (-1)) 122 9))), ((r 6), .inl (cI, 4, .inl (fun _ => 0)))] H := hP
  have hD : va_D A [(m0, .inr (9, [.ref (r 0), .ref (r 1), .ref (r 2), .int 0, .int (-1), .int (-1), .ref (r 6), .ref (r 7), .ref (r 8), .ref (r 9), .ref (r 10), .ref (r 11), .ref (r 12), .ref (r 13), .int 0, .int 0, .int 0, .int 0, .int 0, .int 0, .int (-1), .int 0, .int 0, .ref (r 23), .ref (r 24), .int 0, .ref (r 26), .ref (r 27), .int 0, .int 0, .int 0, .ref (r 31), .ref (r 32), .ref (r 33), .ref (r 34), .ref (r 35), .int 0, .ref (r 37), .ref (r 38), .ref (r 39), .ref (r 40), .ref (r 41), .ref (r 42), .ref (r 43), .ref (r 44), .ref (r 45), .ref (r 46), .int 0, .ref (r 48), .ref (r 49), .ref (r 50), .ref (r 51), .long 0])), ((r 0), .inl (cI, 1990, .inl (upd (upd (fun _ => 0) 4 (-1)) 122 9))), ((r 6), .inl (cI, 4, .inl (fun _ => 0)))] := hD
  refine lv_aload_n hx hb dX9_text_45 rfl (lv_at hl 0 rfl) ?_
  refine lv_iconst (v := 0) hx hb dX9_text_46 (by decide) ?_
  refine va_put (D := G) (ci := 9) (v := .int 0) (ty := .int) (C := RX9) (T := TX9) (N := 53) hx hb hts iX9 tyX9 tyX9_ok nmX9 hown hK hP hD hS 0 rfl rfl 22 (by decide) (hts _ m_260) (fun _ h9 => h9) rfl (tyX9_ok 22 (by decide)) rfl rfl (Nat.le_of_ble_eq_true rfl) dX9_text_47 (fun H locs hP hD hS => ?_)
  have hP : va_P G vwCl [(m0, .inr (9, [.ref (r 0), .ref (r 1), .ref (r 2), .int 0, .int (-1), .int (-1), .ref (r 6), .ref (r 7), .ref (r 8), .ref (r 9), .ref (r 10), .ref (r 11), .ref (r 12), .ref (r 13), .int 0, .int 0, .int 0, .int 0, .int 0, .int 0, .int (-1), .int 0, .int 0, .ref (r 23), .ref (r 24), .int 0, .ref (r 26), .ref (r 27), .int 0, .int 0, .int 0, .ref (r 31), .ref (r 32), .ref (r 33), .ref (r 34), .ref (r 35), .int 0, .ref (r 37), .ref (r 38), .ref (r 39), .ref (r 40), .ref (r 41), .ref (r 42), .ref (r 43), .ref (r 44), .ref (r 45), .ref (r 46), .int 0, .ref (r 48), .ref (r 49), .ref (r 50), .ref (r 51), .long 0])), ((r 0), .inl (cI, 1990, .inl (upd (upd (fun _ => 0) 4 (-1)) 122 9))), ((r 6), .inl (cI, 4, .inl (fun _ => 0)))] H := hP
  have hD : va_D A [(m0, .inr (9, [.ref (r 0), .ref (r 1), .ref (r 2), .int 0, .int (-1), .int (-1), .ref (r 6), .ref (r 7), .ref (r 8), .ref (r 9), .ref (r 10), .ref (r 11), .ref (r 12), .ref (r 13), .int 0, .int 0, .int 0, .int 0, .int 0, .int 0, .int (-1), .int 0, .int 0, .ref (r 23), .ref (r 24), .int 0, .ref (r 26), .ref (r 27), .int 0, .int 0, .int 0, .ref (r 31), .ref (r 32), .ref (r 33), .ref (r 34), .ref (r 35), .int 0, .ref (r 37), .ref (r 38), .ref (r 39), .ref (r 40), .ref (r 41), .ref (r 42), .ref (r 43), .ref (r 44), .ref (r 45), .ref (r 46), .int 0, .ref (r 48), .ref (r 49), .ref (r 50), .ref (r 51), .long 0])), ((r 0), .inl (cI, 1990, .inl (upd (upd (fun _ => 0) 4 (-1)) 122 9))), ((r 6), .inl (cI, 4, .inl (fun _ => 0)))] := hD
  refine lv_aload_n hx hb dX9_text_50 rfl (lv_at hl 0 rfl) ?_
  refine lv_iconst (v := 0) hx hb dX9_text_51 (by decide) ?_
  refine va_put (D := G) (ci := 9) (v := .int 0) (ty := .int) (C := RX9) (T := TX9) (N := 53) hx hb hts iX9 tyX9 tyX9_ok nmX9 hown hK hP hD hS 0 rfl rfl 25 (by decide) (hts _ m_261) (fun _ h9 => h9) rfl (tyX9_ok 25 (by decide)) rfl rfl (Nat.le_of_ble_eq_true rfl) dX9_text_52 (fun H locs hP hD hS => ?_)
  have hP : va_P G vwCl [(m0, .inr (9, [.ref (r 0), .ref (r 1), .ref (r 2), .int 0, .int (-1), .int (-1), .ref (r 6), .ref (r 7), .ref (r 8), .ref (r 9), .ref (r 10), .ref (r 11), .ref (r 12), .ref (r 13), .int 0, .int 0, .int 0, .int 0, .int 0, .int 0, .int (-1), .int 0, .int 0, .ref (r 23), .ref (r 24), .int 0, .ref (r 26), .ref (r 27), .int 0, .int 0, .int 0, .ref (r 31), .ref (r 32), .ref (r 33), .ref (r 34), .ref (r 35), .int 0, .ref (r 37), .ref (r 38), .ref (r 39), .ref (r 40), .ref (r 41), .ref (r 42), .ref (r 43), .ref (r 44), .ref (r 45), .ref (r 46), .int 0, .ref (r 48), .ref (r 49), .ref (r 50), .ref (r 51), .long 0])), ((r 0), .inl (cI, 1990, .inl (upd (upd (fun _ => 0) 4 (-1)) 122 9))), ((r 6), .inl (cI, 4, .inl (fun _ => 0)))] H := hP
  have hD : va_D A [(m0, .inr (9, [.ref (r 0), .ref (r 1), .ref (r 2), .int 0, .int (-1), .int (-1), .ref (r 6), .ref (r 7), .ref (r 8), .ref (r 9), .ref (r 10), .ref (r 11), .ref (r 12), .ref (r 13), .int 0, .int 0, .int 0, .int 0, .int 0, .int 0, .int (-1), .int 0, .int 0, .ref (r 23), .ref (r 24), .int 0, .ref (r 26), .ref (r 27), .int 0, .int 0, .int 0, .ref (r 31), .ref (r 32), .ref (r 33), .ref (r 34), .ref (r 35), .int 0, .ref (r 37), .ref (r 38), .ref (r 39), .ref (r 40), .ref (r 41), .ref (r 42), .ref (r 43), .ref (r 44), .ref (r 45), .ref (r 46), .int 0, .ref (r 48), .ref (r 49), .ref (r 50), .ref (r 51), .long 0])), ((r 0), .inl (cI, 1990, .inl (upd (upd (fun _ => 0) 4 (-1)) 122 9))), ((r 6), .inl (cI, 4, .inl (fun _ => 0)))] := hD
  refine lv_aload_n hx hb dX9_text_55 rfl (lv_at hl 0 rfl) ?_
  refine lv_iconst (v := 4) hx hb dX9_text_56 (by decide) ?_
  refine va_put (D := G) (ci := 9) (v := .int 4) (ty := .int) (C := RX9) (T := TX9) (N := 53) hx hb hts iX9 tyX9 tyX9_ok nmX9 hown hK hP hD hS 0 rfl rfl 28 (by decide) (hts _ m_262) (fun _ h9 => h9) rfl (tyX9_ok 28 (by decide)) rfl rfl (Nat.le_of_ble_eq_true rfl) dX9_text_57 (fun H locs hP hD hS => ?_)
  have hP : va_P G vwCl [(m0, .inr (9, [.ref (r 0), .ref (r 1), .ref (r 2), .int 0, .int (-1), .int (-1), .ref (r 6), .ref (r 7), .ref (r 8), .ref (r 9), .ref (r 10), .ref (r 11), .ref (r 12), .ref (r 13), .int 0, .int 0, .int 0, .int 0, .int 0, .int 0, .int (-1), .int 0, .int 0, .ref (r 23), .ref (r 24), .int 0, .ref (r 26), .ref (r 27), .int 4, .int 0, .int 0, .ref (r 31), .ref (r 32), .ref (r 33), .ref (r 34), .ref (r 35), .int 0, .ref (r 37), .ref (r 38), .ref (r 39), .ref (r 40), .ref (r 41), .ref (r 42), .ref (r 43), .ref (r 44), .ref (r 45), .ref (r 46), .int 0, .ref (r 48), .ref (r 49), .ref (r 50), .ref (r 51), .long 0])), ((r 0), .inl (cI, 1990, .inl (upd (upd (fun _ => 0) 4 (-1)) 122 9))), ((r 6), .inl (cI, 4, .inl (fun _ => 0)))] H := hP
  have hD : va_D A [(m0, .inr (9, [.ref (r 0), .ref (r 1), .ref (r 2), .int 0, .int (-1), .int (-1), .ref (r 6), .ref (r 7), .ref (r 8), .ref (r 9), .ref (r 10), .ref (r 11), .ref (r 12), .ref (r 13), .int 0, .int 0, .int 0, .int 0, .int 0, .int 0, .int (-1), .int 0, .int 0, .ref (r 23), .ref (r 24), .int 0, .ref (r 26), .ref (r 27), .int 4, .int 0, .int 0, .ref (r 31), .ref (r 32), .ref (r 33), .ref (r 34), .ref (r 35), .int 0, .ref (r 37), .ref (r 38), .ref (r 39), .ref (r 40), .ref (r 41), .ref (r 42), .ref (r 43), .ref (r 44), .ref (r 45), .ref (r 46), .int 0, .ref (r 48), .ref (r 49), .ref (r 50), .ref (r 51), .long 0])), ((r 0), .inl (cI, 1990, .inl (upd (upd (fun _ => 0) 4 (-1)) 122 9))), ((r 6), .inl (cI, 4, .inl (fun _ => 0)))] := hD
  refine lv_aload_n hx hb dX9_text_60 rfl (lv_at hl 0 rfl) ?_
  refine lv_iconst (v := 0) hx hb dX9_text_61 (by decide) ?_
  refine va_put (D := G) (ci := 9) (v := .int 0) (ty := .int) (C := RX9) (T := TX9) (N := 53) hx hb hts iX9 tyX9 tyX9_ok nmX9 hown hK hP hD hS 0 rfl rfl 29 (by decide) (hts _ m_263) (fun _ h9 => h9) rfl (tyX9_ok 29 (by decide)) rfl rfl (Nat.le_of_ble_eq_true rfl) dX9_text_62 (fun H locs hP hD hS => ?_)
  have hP : va_P G vwCl [(m0, .inr (9, [.ref (r 0), .ref (r 1), .ref (r 2), .int 0, .int (-1), .int (-1), .ref (r 6), .ref (r 7), .ref (r 8), .ref (r 9), .ref (r 10), .ref (r 11), .ref (r 12), .ref (r 13), .int 0, .int 0, .int 0, .int 0, .int 0, .int 0, .int (-1), .int 0, .int 0, .ref (r 23), .ref (r 24), .int 0, .ref (r 26), .ref (r 27), .int 4, .int 0, .int 0, .ref (r 31), .ref (r 32), .ref (r 33), .ref (r 34), .ref (r 35), .int 0, .ref (r 37), .ref (r 38), .ref (r 39), .ref (r 40), .ref (r 41), .ref (r 42), .ref (r 43), .ref (r 44), .ref (r 45), .ref (r 46), .int 0, .ref (r 48), .ref (r 49), .ref (r 50), .ref (r 51), .long 0])), ((r 0), .inl (cI, 1990, .inl (upd (upd (fun _ => 0) 4 (-1)) 122 9))), ((r 6), .inl (cI, 4, .inl (fun _ => 0)))] H := hP
  have hD : va_D A [(m0, .inr (9, [.ref (r 0), .ref (r 1), .ref (r 2), .int 0, .int (-1), .int (-1), .ref (r 6), .ref (r 7), .ref (r 8), .ref (r 9), .ref (r 10), .ref (r 11), .ref (r 12), .ref (r 13), .int 0, .int 0, .int 0, .int 0, .int 0, .int 0, .int (-1), .int 0, .int 0, .ref (r 23), .ref (r 24), .int 0, .ref (r 26), .ref (r 27), .int 4, .int 0, .int 0, .ref (r 31), .ref (r 32), .ref (r 33), .ref (r 34), .ref (r 35), .int 0, .ref (r 37), .ref (r 38), .ref (r 39), .ref (r 40), .ref (r 41), .ref (r 42), .ref (r 43), .ref (r 44), .ref (r 45), .ref (r 46), .int 0, .ref (r 48), .ref (r 49), .ref (r 50), .ref (r 51), .long 0])), ((r 0), .inl (cI, 1990, .inl (upd (upd (fun _ => 0) 4 (-1)) 122 9))), ((r 6), .inl (cI, 4, .inl (fun _ => 0)))] := hD
  refine lv_aload_n hx hb dX9_text_65 rfl (lv_at hl 0 rfl) ?_
  refine lv_iconst (v := 0) hx hb dX9_text_66 (by decide) ?_
  refine va_put (D := G) (ci := 9) (v := .int 0) (ty := .int) (C := RX9) (T := TX9) (N := 53) hx hb hts iX9 tyX9 tyX9_ok nmX9 hown hK hP hD hS 0 rfl rfl 36 (by decide) (hts _ m_264) (fun _ h9 => h9) rfl (tyX9_ok 36 (by decide)) rfl rfl (Nat.le_of_ble_eq_true rfl) dX9_text_67 (fun H locs hP hD hS => ?_)
  have hP : va_P G vwCl [(m0, .inr (9, [.ref (r 0), .ref (r 1), .ref (r 2), .int 0, .int (-1), .int (-1), .ref (r 6), .ref (r 7), .ref (r 8), .ref (r 9), .ref (r 10), .ref (r 11), .ref (r 12), .ref (r 13), .int 0, .int 0, .int 0, .int 0, .int 0, .int 0, .int (-1), .int 0, .int 0, .ref (r 23), .ref (r 24), .int 0, .ref (r 26), .ref (r 27), .int 4, .int 0, .int 0, .ref (r 31), .ref (r 32), .ref (r 33), .ref (r 34), .ref (r 35), .int 0, .ref (r 37), .ref (r 38), .ref (r 39), .ref (r 40), .ref (r 41), .ref (r 42), .ref (r 43), .ref (r 44), .ref (r 45), .ref (r 46), .int 0, .ref (r 48), .ref (r 49), .ref (r 50), .ref (r 51), .long 0])), ((r 0), .inl (cI, 1990, .inl (upd (upd (fun _ => 0) 4 (-1)) 122 9))), ((r 6), .inl (cI, 4, .inl (fun _ => 0)))] H := hP
  have hD : va_D A [(m0, .inr (9, [.ref (r 0), .ref (r 1), .ref (r 2), .int 0, .int (-1), .int (-1), .ref (r 6), .ref (r 7), .ref (r 8), .ref (r 9), .ref (r 10), .ref (r 11), .ref (r 12), .ref (r 13), .int 0, .int 0, .int 0, .int 0, .int 0, .int 0, .int (-1), .int 0, .int 0, .ref (r 23), .ref (r 24), .int 0, .ref (r 26), .ref (r 27), .int 4, .int 0, .int 0, .ref (r 31), .ref (r 32), .ref (r 33), .ref (r 34), .ref (r 35), .int 0, .ref (r 37), .ref (r 38), .ref (r 39), .ref (r 40), .ref (r 41), .ref (r 42), .ref (r 43), .ref (r 44), .ref (r 45), .ref (r 46), .int 0, .ref (r 48), .ref (r 49), .ref (r 50), .ref (r 51), .long 0])), ((r 0), .inl (cI, 1990, .inl (upd (upd (fun _ => 0) 4 (-1)) 122 9))), ((r 6), .inl (cI, 4, .inl (fun _ => 0)))] := hD
  refine lv_aload_n hx hb dX9_text_70 rfl (lv_at hl 0 rfl) ?_
  refine gw_callv (gw_runV (As := []) (rest := []) ⟨hx, hb, hml, hown, hts⟩ (c_next0 l G cI cJ cZ cB cT m0 r  H.size) (gG_V m_266 m_267 m_268 m_100 m_265) rfl e_X9_next ⟨Nat.le_of_ble_eq_true rfl, Nat.le_of_ble_eq_true rfl⟩ hK hP hD [0] rfl (by decide) rfl 0 rfl rfl rfl hl.1 rfl (Nat.le_of_ble_eq_true rfl) dX9_text_71 ⟨Nat.le_of_ble_eq_true rfl, Nat.le_of_ble_eq_true rfl⟩) hP hD hS hA [0] [1, 2] rfl rfl (by decide) (by decide) (fun u_1 H locs hw_1 hP hD hS => ?_)
  have hP : va_P G vwCl [((r 0), .inl (cI, 1990, .inl (upd (upd (fun _ => 0) 4 (-1)) 122 9))), ((r 6), .inl (cI, 4, .inl (fun _ => 0))), (m0, .inr (9, [.ref (r 0), .ref (r 1), .ref (r 2), .int 0, .int (-1), .int (-1), .ref (r 6), .ref (r 7), .ref (r 8), .ref (r 9), .ref (r 10), .ref (r 11), .ref (r 12), .ref (r 13), .int 0, .int 0, .int 0, .int 0, .int 0, .int 0, .int (-1), .int 0, .int 0, .ref (r 23), .ref (r 24), .int 0, .ref (r 26), .ref (r 27), .int 4, .int 0, .int 0, .ref (r 31), .ref (r 32), .ref (r 33), .ref (r 34), .ref (r 35), .int 0, .ref (r 37), .ref (r 38), .ref (r 39), .ref (r 40), .ref (r 41), .ref (r 42), .ref (r 43), .ref (r 44), .ref (r 45), .ref (r 46), .int 0, .ref (r 48), .ref (r 49), .ref (r 50), .ref (r 51), .long 0]))] H := hP
  have hD : va_D A [((r 0), .inl (cI, 1990, .inl (upd (upd (fun _ => 0) 4 (-1)) 122 9))), ((r 6), .inl (cI, 4, .inl (fun _ => 0))), (m0, .inr (9, [.ref (r 0), .ref (r 1), .ref (r 2), .int 0, .int (-1), .int (-1), .ref (r 6), .ref (r 7), .ref (r 8), .ref (r 9), .ref (r 10), .ref (r 11), .ref (r 12), .ref (r 13), .int 0, .int 0, .int 0, .int 0, .int 0, .int 0, .int (-1), .int 0, .int 0, .ref (r 23), .ref (r 24), .int 0, .ref (r 26), .ref (r 27), .int 4, .int 0, .int 0, .ref (r 31), .ref (r 32), .ref (r 33), .ref (r 34), .ref (r 35), .int 0, .ref (r 37), .ref (r 38), .ref (r 39), .ref (r 40), .ref (r 41), .ref (r 42), .ref (r 43), .ref (r 44), .ref (r 45), .ref (r 46), .int 0, .ref (r 48), .ref (r 49), .ref (r 50), .ref (r 51), .long 0]))] := hD
  refine lv_aload_n hx hb dX9_text_74 rfl (lv_at hl 0 rfl) ?_
  refine va_get (D := G) (ci := 9) (v := .int 0) (C := RX9) (T := TX9) (N := 53) hx hb hts iX9 hown hK hP 2 rfl rfl 19 (by decide) (hts _ m_257) (fun _ h9 => h9) rfl dX9_text_75 ?_
  refine lv_if_ne (tgt := 167) hx hb dX9_text_78 (by decide) (fun c => absurd (by decide) c) (fun _ => ?_)
  refine lv_aload_n hx hb dX9_text_81 rfl (lv_at hl 0 rfl) ?_
  refine va_get (D := G) (ci := 9) (v := .int 4) (C := RX9) (T := TX9) (N := 53) hx hb hts iX9 hown hK hP 2 rfl rfl 28 (by decide) (hts _ m_262) (fun _ h9 => h9) rfl dX9_text_82 ?_
  refine lv_iconst (v := 4) hx hb dX9_text_85 (by decide) ?_
  refine lv_icmp_ne (tgt := 96) hx hb dX9_text_86 (by decide) (fun c => absurd (by decide) c) (fun _ => ?_)
  refine lv_aload_n hx hb dX9_text_89 rfl (lv_at hl 0 rfl) ?_
  refine va_get (D := G) (ci := 9) (v := .int 0) (C := RX9) (T := TX9) (N := 53) hx hb hts iX9 hown hK hP 2 rfl rfl 17 (by decide) (hts _ m_256) (fun _ h9 => h9) rfl dX9_text_90 ?_
  refine lv_if_eq (tgt := 167) hx hb dX9_text_93 (by decide) (fun _ => ?_) (fun c => absurd (by decide) c)
  refine lv_aload_n hx hb dX9_text_167 rfl (lv_at hl 0 rfl) ?_
  refine lv_aload_n hx hb dX9_text_168 rfl (lv_at hl 0 rfl) ?_
  refine va_get (D := G) (ci := 9) (v := .int 0) (C := RX9) (T := TX9) (N := 53) hx hb hts iX9 hown hK hP 2 rfl rfl 19 (by decide) (hts _ m_257) (fun _ h9 => h9) rfl dX9_text_169 ?_
  refine va_put (D := G) (ci := 9) (v := .int 0) (ty := .int) (C := RX9) (T := TX9) (N := 53) hx hb hts iX9 tyX9 tyX9_ok nmX9 hown hK hP hD hS 2 rfl rfl 4 (by decide) (hts _ m_116) (fun _ h9 => h9) rfl (tyX9_ok 4 (by decide)) rfl rfl (Nat.le_of_ble_eq_true rfl) dX9_text_172 (fun H locs hP hD hS => ?_)
  have hP : va_P G vwCl [((r 0), .inl (cI, 1990, .inl (upd (upd (fun _ => 0) 4 (-1)) 122 9))), ((r 6), .inl (cI, 4, .inl (fun _ => 0))), (m0, .inr (9, [.ref (r 0), .ref (r 1), .ref (r 2), .int 0, .int 0, .int (-1), .ref (r 6), .ref (r 7), .ref (r 8), .ref (r 9), .ref (r 10), .ref (r 11), .ref (r 12), .ref (r 13), .int 0, .int 0, .int 0, .int 0, .int 0, .int 0, .int (-1), .int 0, .int 0, .ref (r 23), .ref (r 24), .int 0, .ref (r 26), .ref (r 27), .int 4, .int 0, .int 0, .ref (r 31), .ref (r 32), .ref (r 33), .ref (r 34), .ref (r 35), .int 0, .ref (r 37), .ref (r 38), .ref (r 39), .ref (r 40), .ref (r 41), .ref (r 42), .ref (r 43), .ref (r 44), .ref (r 45), .ref (r 46), .int 0, .ref (r 48), .ref (r 49), .ref (r 50), .ref (r 51), .long 0]))] H := hP
  have hD : va_D A [((r 0), .inl (cI, 1990, .inl (upd (upd (fun _ => 0) 4 (-1)) 122 9))), ((r 6), .inl (cI, 4, .inl (fun _ => 0))), (m0, .inr (9, [.ref (r 0), .ref (r 1), .ref (r 2), .int 0, .int 0, .int (-1), .ref (r 6), .ref (r 7), .ref (r 8), .ref (r 9), .ref (r 10), .ref (r 11), .ref (r 12), .ref (r 13), .int 0, .int 0, .int 0, .int 0, .int 0, .int 0, .int (-1), .int 0, .int 0, .ref (r 23), .ref (r 24), .int 0, .ref (r 26), .ref (r 27), .int 4, .int 0, .int 0, .ref (r 31), .ref (r 32), .ref (r 33), .ref (r 34), .ref (r 35), .int 0, .ref (r 37), .ref (r 38), .ref (r 39), .ref (r 40), .ref (r 41), .ref (r 42), .ref (r 43), .ref (r 44), .ref (r 45), .ref (r 46), .int 0, .ref (r 48), .ref (r 49), .ref (r 50), .ref (r 51), .long 0]))] := hD
  refine lv_aload_n hx hb dX9_text_175 rfl (lv_at hl 0 rfl) ?_
  refine lv_aload_n hx hb dX9_text_176 rfl (lv_at hl 0 rfl) ?_
  refine va_get (D := G) (ci := 9) (v := .int (-1)) (C := RX9) (T := TX9) (N := 53) hx hb hts iX9 hown hK hP 2 rfl rfl 20 (by decide) (hts _ m_258) (fun _ h9 => h9) rfl dX9_text_177 ?_
  refine va_put (D := G) (ci := 9) (v := .int (-1)) (ty := .int) (C := RX9) (T := TX9) (N := 53) hx hb hts iX9 tyX9 tyX9_ok nmX9 hown hK hP hD hS 2 rfl rfl 5 (by decide) (hts _ m_115) (fun _ h9 => h9) rfl (tyX9_ok 5 (by decide)) rfl rfl (Nat.le_of_ble_eq_true rfl) dX9_text_180 (fun H locs hP hD hS => ?_)
  have hP : va_P G vwCl [((r 0), .inl (cI, 1990, .inl (upd (upd (fun _ => 0) 4 (-1)) 122 9))), ((r 6), .inl (cI, 4, .inl (fun _ => 0))), (m0, .inr (9, [.ref (r 0), .ref (r 1), .ref (r 2), .int 0, .int 0, .int (-1), .ref (r 6), .ref (r 7), .ref (r 8), .ref (r 9), .ref (r 10), .ref (r 11), .ref (r 12), .ref (r 13), .int 0, .int 0, .int 0, .int 0, .int 0, .int 0, .int (-1), .int 0, .int 0, .ref (r 23), .ref (r 24), .int 0, .ref (r 26), .ref (r 27), .int 4, .int 0, .int 0, .ref (r 31), .ref (r 32), .ref (r 33), .ref (r 34), .ref (r 35), .int 0, .ref (r 37), .ref (r 38), .ref (r 39), .ref (r 40), .ref (r 41), .ref (r 42), .ref (r 43), .ref (r 44), .ref (r 45), .ref (r 46), .int 0, .ref (r 48), .ref (r 49), .ref (r 50), .ref (r 51), .long 0]))] H := hP
  have hD : va_D A [((r 0), .inl (cI, 1990, .inl (upd (upd (fun _ => 0) 4 (-1)) 122 9))), ((r 6), .inl (cI, 4, .inl (fun _ => 0))), (m0, .inr (9, [.ref (r 0), .ref (r 1), .ref (r 2), .int 0, .int 0, .int (-1), .ref (r 6), .ref (r 7), .ref (r 8), .ref (r 9), .ref (r 10), .ref (r 11), .ref (r 12), .ref (r 13), .int 0, .int 0, .int 0, .int 0, .int 0, .int 0, .int (-1), .int 0, .int 0, .ref (r 23), .ref (r 24), .int 0, .ref (r 26), .ref (r 27), .int 4, .int 0, .int 0, .ref (r 31), .ref (r 32), .ref (r 33), .ref (r 34), .ref (r 35), .int 0, .ref (r 37), .ref (r 38), .ref (r 39), .ref (r 40), .ref (r 41), .ref (r 42), .ref (r 43), .ref (r 44), .ref (r 45), .ref (r 46), .int 0, .ref (r 48), .ref (r 49), .ref (r 50), .ref (r 51), .long 0]))] := hD
  refine lv_aload_n hx hb dX9_text_183 rfl (lv_at hl 0 rfl) ?_
  refine va_get (D := G) (ci := 9) (v := .int 0) (C := RX9) (T := TX9) (N := 53) hx hb hts iX9 hown hK hP 2 rfl rfl 19 (by decide) (hts _ m_257) (fun _ h9 => h9) rfl dX9_text_184 ?_
  refine lv_if_le (tgt := 192) hx hb dX9_text_187 (by decide) (fun _ => ?_) (fun c => absurd (by decide) c)
  refine lv_aload_n hx hb dX9_text_192 rfl (lv_at hl 0 rfl) ?_
  refine va_get (D := G) (ci := 9) (v := .ref (r 0)) (C := RX9) (T := TX9) (N := 53) hx hb hts iX9 hown hK hP 2 rfl rfl 0 (by decide) (hts _ m_101) (fun _ h9 => h9) rfl dX9_text_193 ?_
  refine lv_iconst (v := 3) hx hb dX9_text_196 (by decide) ?_
  refine gw_iald (x := 0) hx hb hK hP 0 0 3 rfl rfl rfl (by decide) (by decide) rfl dX9_text_197 ?_
  refine lv_istore_n (lv' := [(1, .int 0), (0, .ref m0)]) hx hb dX9_text_198 rfl hl (by decide) rfl (fun ls hl => ?_)
  refine lv_aload_n hx hb dX9_text_199 rfl (lv_at hl 1 rfl) ?_
  refine va_get (D := G) (ci := 9) (v := .ref (r 6)) (C := RX9) (T := TX9) (N := 53) hx hb hts iX9 hown hK hP 2 rfl rfl 6 (by decide) (hts _ m_269) (fun _ h9 => h9) rfl dX9_text_200 ?_
  refine lv_iload_n hx hb dX9_text_203 rfl (lv_at hl 0 rfl) ?_
  refine lv_aload_n hx hb dX9_text_204 rfl (lv_at hl 1 rfl) ?_
  refine va_get (D := G) (ci := 9) (v := .int 0) (C := RX9) (T := TX9) (N := 53) hx hb hts iX9 hown hK hP 2 rfl rfl 29 (by decide) (hts _ m_263) (fun _ h9 => h9) rfl dX9_text_205 ?_
  refine gw_iast hx hb hK hP hD hS 1 0 0 rfl rfl rfl (by decide) (by decide) dX9_text_208 (fun H locs hP hD hS => ?_)
  have hP : va_P G vwCl [((r 0), .inl (cI, 1990, .inl (upd (upd (fun _ => 0) 4 (-1)) 122 9))), ((r 6), .inl (cI, 4, .inl (upd (fun _ => 0) 0 0))), (m0, .inr (9, [.ref (r 0), .ref (r 1), .ref (r 2), .int 0, .int 0, .int (-1), .ref (r 6), .ref (r 7), .ref (r 8), .ref (r 9), .ref (r 10), .ref (r 11), .ref (r 12), .ref (r 13), .int 0, .int 0, .int 0, .int 0, .int 0, .int 0, .int (-1), .int 0, .int 0, .ref (r 23), .ref (r 24), .int 0, .ref (r 26), .ref (r 27), .int 4, .int 0, .int 0, .ref (r 31), .ref (r 32), .ref (r 33), .ref (r 34), .ref (r 35), .int 0, .ref (r 37), .ref (r 38), .ref (r 39), .ref (r 40), .ref (r 41), .ref (r 42), .ref (r 43), .ref (r 44), .ref (r 45), .ref (r 46), .int 0, .ref (r 48), .ref (r 49), .ref (r 50), .ref (r 51), .long 0]))] H := hP
  have hD : va_D A [((r 0), .inl (cI, 1990, .inl (upd (upd (fun _ => 0) 4 (-1)) 122 9))), ((r 6), .inl (cI, 4, .inl (upd (fun _ => 0) 0 0))), (m0, .inr (9, [.ref (r 0), .ref (r 1), .ref (r 2), .int 0, .int 0, .int (-1), .ref (r 6), .ref (r 7), .ref (r 8), .ref (r 9), .ref (r 10), .ref (r 11), .ref (r 12), .ref (r 13), .int 0, .int 0, .int 0, .int 0, .int 0, .int 0, .int (-1), .int 0, .int 0, .ref (r 23), .ref (r 24), .int 0, .ref (r 26), .ref (r 27), .int 4, .int 0, .int 0, .ref (r 31), .ref (r 32), .ref (r 33), .ref (r 34), .ref (r 35), .int 0, .ref (r 37), .ref (r 38), .ref (r 39), .ref (r 40), .ref (r 41), .ref (r 42), .ref (r 43), .ref (r 44), .ref (r 45), .ref (r 46), .int 0, .ref (r 48), .ref (r 49), .ref (r 50), .ref (r 51), .long 0]))] := hD
  refine lv_iconst (v := 0) hx hb dX9_text_209 (by decide) ?_
  refine lv_istore_n (lv' := [(2, .int 0), (1, .int 0), (0, .ref m0)]) hx hb dX9_text_210 rfl hl (by decide) rfl (fun ls hl => ?_)
  refine lv_iload_n hx hb dX9_text_211 rfl (lv_at hl 0 rfl) ?_
  refine lv_aload_n hx hb dX9_text_212 rfl (lv_at hl 2 rfl) ?_
  refine va_get (D := G) (ci := 9) (v := .int 0) (C := RX9) (T := TX9) (N := 53) hx hb hts iX9 hown hK hP 2 rfl rfl 29 (by decide) (hts _ m_263) (fun _ h9 => h9) rfl dX9_text_213 ?_
  refine lv_icmp_ge (tgt := 316) hx hb dX9_text_216 (by decide) (fun _ => ?_) (fun c => absurd (by decide) c)
  refine lv_iconst (v := 0) hx hb dX9_text_316 (by decide) ?_
  refine lv_istore_n (lv' := [(2, .int 0), (1, .int 0), (0, .ref m0)]) hx hb dX9_text_317 rfl hl (by decide) rfl (fun ls hl => ?_)
  refine lv_iload_n hx hb dX9_text_318 rfl (lv_at hl 0 rfl) ?_
  refine lv_aload_n hx hb dX9_text_319 rfl (lv_at hl 2 rfl) ?_
  refine va_get (D := G) (ci := 9) (v := .int 0) (C := RX9) (T := TX9) (N := 53) hx hb hts iX9 hown hK hP 2 rfl rfl 36 (by decide) (hts _ m_264) (fun _ h9 => h9) rfl dX9_text_320 ?_
  refine lv_icmp_ge (tgt := 368) hx hb dX9_text_323 (by decide) (fun _ => ?_) (fun c => absurd (by decide) c)
  refine lv_aload_n hx hb dX9_text_368 rfl (lv_at hl 2 rfl) ?_
  refine va_get (D := G) (ci := 9) (v := .ref (r 0)) (C := RX9) (T := TX9) (N := 53) hx hb hts iX9 hown hK hP 2 rfl rfl 0 (by decide) (hts _ m_101) (fun _ h9 => h9) rfl dX9_text_369 ?_
  refine lv_iconst (v := 3) hx hb dX9_text_372 (by decide) ?_
  refine lv_dup2_11 hx hb dX9_text_373 rfl rfl ?_
  refine gw_iald (x := 0) hx hb hK hP 0 0 3 rfl rfl rfl (by decide) (by decide) rfl dX9_text_374 ?_
  refine lv_iconst (v := 1) hx hb dX9_text_375 (by decide) ?_
  refine lv_iadd hx hb dX9_text_376 ?_
  refine gw_topi (y := 1) (by decide) ?_
  refine gw_iast hx hb hK hP hD hS 0 0 3 rfl rfl rfl (by decide) (by decide) dX9_text_377 (fun H locs hP hD hS => ?_)
  have hP : va_P G vwCl [((r 0), .inl (cI, 1990, .inl (upd (upd (upd (fun _ => 0) 4 (-1)) 122 9) 3 1))), ((r 6), .inl (cI, 4, .inl (upd (fun _ => 0) 0 0))), (m0, .inr (9, [.ref (r 0), .ref (r 1), .ref (r 2), .int 0, .int 0, .int (-1), .ref (r 6), .ref (r 7), .ref (r 8), .ref (r 9), .ref (r 10), .ref (r 11), .ref (r 12), .ref (r 13), .int 0, .int 0, .int 0, .int 0, .int 0, .int 0, .int (-1), .int 0, .int 0, .ref (r 23), .ref (r 24), .int 0, .ref (r 26), .ref (r 27), .int 4, .int 0, .int 0, .ref (r 31), .ref (r 32), .ref (r 33), .ref (r 34), .ref (r 35), .int 0, .ref (r 37), .ref (r 38), .ref (r 39), .ref (r 40), .ref (r 41), .ref (r 42), .ref (r 43), .ref (r 44), .ref (r 45), .ref (r 46), .int 0, .ref (r 48), .ref (r 49), .ref (r 50), .ref (r 51), .long 0]))] H := hP
  have hD : va_D A [((r 0), .inl (cI, 1990, .inl (upd (upd (upd (fun _ => 0) 4 (-1)) 122 9) 3 1))), ((r 6), .inl (cI, 4, .inl (upd (fun _ => 0) 0 0))), (m0, .inr (9, [.ref (r 0), .ref (r 1), .ref (r 2), .int 0, .int 0, .int (-1), .ref (r 6), .ref (r 7), .ref (r 8), .ref (r 9), .ref (r 10), .ref (r 11), .ref (r 12), .ref (r 13), .int 0, .int 0, .int 0, .int 0, .int 0, .int 0, .int (-1), .int 0, .int 0, .ref (r 23), .ref (r 24), .int 0, .ref (r 26), .ref (r 27), .int 4, .int 0, .int 0, .ref (r 31), .ref (r 32), .ref (r 33), .ref (r 34), .ref (r 35), .int 0, .ref (r 37), .ref (r 38), .ref (r 39), .ref (r 40), .ref (r 41), .ref (r 42), .ref (r 43), .ref (r 44), .ref (r 45), .ref (r 46), .int 0, .ref (r 48), .ref (r 49), .ref (r 50), .ref (r 51), .long 0]))] := hD
  refine lv_iload_n hx hb dX9_text_378 rfl (lv_at hl 1 rfl) ?_
  exact gw_iret () hx hb hr hlocks (hP.sub [] rfl) (hD.sub [] (by decide) rfl) hS rfl dX9_text_379
theorem e_X9_copies : yX9_copies.cls = RX9 ∧ yX9_copies.cls ≠ "java/lang/invoke/MethodHandle" ∧ yX9_copies.cls ≠ "java/lang/invoke/VarHandle" ∧ (parseMethodDescriptor yX9_copies.desc).map (fun d => d.parameters.length) = some 1 := by decide +kernel
set_option maxHeartbeats 4000000 in
set_option maxRecDepth 100000 in
theorem c_X9_image (l : Launch) (G : va_G) (cI cJ cZ cB cT : ClassId) (m0 : Nat) (r : Nat → Nat) (im : Nat → Int32)  : gMi l yX9_image (gws yX9_image cX9_image 1 (some .int)) 2 G (gT cI cJ cZ cB cT) [.ref m0] [(m0, .inr (9, [.ref (r 0), .ref (r 1), .ref (r 2), .int 0, .int (-1), .int (-1), .ref (r 6), .ref (r 7), .ref (r 8), .ref (r 9), .ref (r 10), .ref (r 11), .ref (r 12), .ref (r 13), .int 0, .int 0, .int 0, .int 0, .int 0, .int 0, .int 0, .int 0, .int 0, .ref (r 23), .ref (r 24), .int 0, .ref (r 26), .ref (r 27), .int 0, .int 0, .int 0, .ref (r 31), .ref (r 32), .ref (r 33), .ref (r 34), .ref (r 35), .int 0, .ref (r 37), .ref (r 38), .ref (r 39), .ref (r 40), .ref (r 41), .ref (r 42), .ref (r 43), .ref (r 44), .ref (r 45), .ref (r 46), .int 0, .ref (r 48), .ref (r 49), .ref (r 50), .ref (r 51), .long 0])), ((r 0), .inl (cI, 1990, .inl (upd (upd (fun _ => 0) 4 (-1)) 122 9))), ((r 1), .inl (cI, 1990, .inl im))] (fun r (_ : Unit) => r = 0) (fun (_ : Unit) => ([] : va_W)) := by
  intro sz
  refine gM_start (y := yX9_image) (av := [.ref m0]) (ws := [(m0, .inr (9, [.ref (r 0), .ref (r 1), .ref (r 2), .int 0, .int (-1), .int (-1), .ref (r 6), .ref (r 7), .ref (r 8), .ref (r 9), .ref (r 10), .ref (r 11), .ref (r 12), .ref (r 13), .int 0, .int 0, .int 0, .int 0, .int 0, .int 0, .int 0, .int 0, .int 0, .ref (r 23), .ref (r 24), .int 0, .ref (r 26), .ref (r 27), .int 0, .int 0, .int 0, .ref (r 31), .ref (r 32), .ref (r 33), .ref (r 34), .ref (r 35), .int 0, .ref (r 37), .ref (r 38), .ref (r 39), .ref (r 40), .ref (r 41), .ref (r 42), .ref (r 43), .ref (r 44), .ref (r 45), .ref (r 46), .int 0, .ref (r 48), .ref (r 49), .ref (r 50), .ref (r 51), .long 0])), ((r 0), .inl (cI, 1990, .inl (upd (upd (fun _ => 0) 4 (-1)) 122 9))), ((r 1), .inl (cI, 1990, .inl im))]) (Qf := fun A => va_Qi (fun r (_ : Unit) => r = 0) (gB G (fun (_ : Unit) => ([] : va_W)) A) A) (cc := cX9_image) (maxL := 1) (ret := (some .int)) (by decide) (Nat.le_of_ble_eq_true rfl) ?_
  intro p e s m args below meth c A ls H hx hb hr hts hown hin hlocks hml hP hK hD hA hS hl
  have hl : lv_has ls 1 [(0, .ref m0)] := hl
  refine lv_aload_n hx hb dX9_image_0 rfl (lv_at hl 0 rfl) ?_
  refine lv_iconst (v := 1) hx hb dX9_image_1 (by decide) ?_
  refine gw_callv (gw_runV (As := [.int 1]) (rest := []) ⟨hx, hb, hml, hown, hts⟩ (c_copies1 l G cI cJ cZ cB cT m0 r (upd (upd (fun _ => 0) 4 (-1)) 122 9) im  H.size) (gG_V m_271 m_272 m_273 m_100 m_270) rfl e_X9_copies ⟨Nat.le_of_ble_eq_true rfl, Nat.le_of_ble_eq_true rfl⟩ hK hP hD [0, 1, 2] rfl (by decide) rfl 0 rfl rfl rfl hl.1 rfl (Nat.le_of_ble_eq_true rfl) dX9_image_2 ⟨Nat.le_of_ble_eq_true rfl, Nat.le_of_ble_eq_true rfl⟩) hP hD hS hA [0, 1, 2] [] rfl rfl (by decide) (by decide) (fun u_1 H locs hw_1 hP hD hS => ?_)
  have hP : va_P G vwCl [(m0, .inr (9, [.ref (r 0), .ref (r 1), .ref (r 2), .int 0, .int (-1), .int (-1), .ref (r 6), .ref (r 7), .ref (r 8), .ref (r 9), .ref (r 10), .ref (r 11), .ref (r 12), .ref (r 13), .int 0, .int 0, .int 0, .int 0, .int 0, .int 0, .int 0, .int 0, .int 0, .ref (r 23), .ref (r 24), .int 0, .ref (r 26), .ref (r 27), .int 0, .int 0, .int 0, .ref (r 31), .ref (r 32), .ref (r 33), .ref (r 34), .ref (r 35), .int 0, .ref (r 37), .ref (r 38), .ref (r 39), .ref (r 40), .ref (r 41), .ref (r 42), .ref (r 43), .ref (r 44), .ref (r 45), .ref (r 46), .int 0, .ref (r 48), .ref (r 49), .ref (r 50), .ref (r 51), .long 0])), ((r 0), .inl (cI, 1990, .inl (upd (upd (fun _ => 0) 4 (-1)) 122 9))), ((r 1), .inl (cI, 1990, .inl u_1))] H := hP
  have hD : va_D A [(m0, .inr (9, [.ref (r 0), .ref (r 1), .ref (r 2), .int 0, .int (-1), .int (-1), .ref (r 6), .ref (r 7), .ref (r 8), .ref (r 9), .ref (r 10), .ref (r 11), .ref (r 12), .ref (r 13), .int 0, .int 0, .int 0, .int 0, .int 0, .int 0, .int 0, .int 0, .int 0, .ref (r 23), .ref (r 24), .int 0, .ref (r 26), .ref (r 27), .int 0, .int 0, .int 0, .ref (r 31), .ref (r 32), .ref (r 33), .ref (r 34), .ref (r 35), .int 0, .ref (r 37), .ref (r 38), .ref (r 39), .ref (r 40), .ref (r 41), .ref (r 42), .ref (r 43), .ref (r 44), .ref (r 45), .ref (r 46), .int 0, .ref (r 48), .ref (r 49), .ref (r 50), .ref (r 51), .long 0])), ((r 0), .inl (cI, 1990, .inl (upd (upd (fun _ => 0) 4 (-1)) 122 9))), ((r 1), .inl (cI, 1990, .inl u_1))] := hD
  refine lv_aload_n hx hb dX9_image_5 rfl (lv_at hl 0 rfl) ?_
  refine va_get (D := G) (ci := 9) (v := .ref (r 0)) (C := RX9) (T := TX9) (N := 53) hx hb hts iX9 hown hK hP 0 rfl rfl 0 (by decide) (hts _ m_101) (fun _ h9 => h9) rfl dX9_image_6 ?_
  refine lv_bipush (v := 121) hx hb dX9_image_9 (by decide) ?_
  refine gw_iald (x := 0) hx hb hK hP 1 0 121 rfl rfl rfl (by decide) (by decide) rfl dX9_image_11 ?_
  exact gw_iret () hx hb hr hlocks (hP.sub [] rfl) (hD.sub [] (by decide) rfl) hS rfl dX9_image_12
set_option maxHeartbeats 4000000 in
set_option maxRecDepth 100000 in
theorem c_X9_back (l : Launch) (G : va_G) (cI cJ cZ cB cT : ClassId) (m0 : Nat) (r : Nat → Nat) (im : Nat → Int32) (him : im 121 = 0) : gMi l yX9_back (gws yX9_back cX9_back 1 (some .int)) 2 G (gT cI cJ cZ cB cT) [.ref m0] [(m0, .inr (9, [.ref (r 0), .ref (r 1), .ref (r 2), .int 0, .int (-1), .int (-1), .ref (r 6), .ref (r 7), .ref (r 8), .ref (r 9), .ref (r 10), .ref (r 11), .ref (r 12), .ref (r 13), .int 0, .int 0, .int 0, .int 0, .int 0, .int 0, .int 0, .int 0, .int 0, .ref (r 23), .ref (r 24), .int 0, .ref (r 26), .ref (r 27), .int 0, .int 0, .int 0, .ref (r 31), .ref (r 32), .ref (r 33), .ref (r 34), .ref (r 35), .int 0, .ref (r 37), .ref (r 38), .ref (r 39), .ref (r 40), .ref (r 41), .ref (r 42), .ref (r 43), .ref (r 44), .ref (r 45), .ref (r 46), .int 0, .ref (r 48), .ref (r 49), .ref (r 50), .ref (r 51), .long 0])), ((r 0), .inl (cI, 1990, .inl (upd (upd (fun _ => 0) 4 (-1)) 122 9))), ((r 1), .inl (cI, 1990, .inl im))] (fun r (_ : Unit) => r = 0) (fun (_ : Unit) => ([] : va_W)) := by
  intro sz
  refine gM_start (y := yX9_back) (av := [.ref m0]) (ws := [(m0, .inr (9, [.ref (r 0), .ref (r 1), .ref (r 2), .int 0, .int (-1), .int (-1), .ref (r 6), .ref (r 7), .ref (r 8), .ref (r 9), .ref (r 10), .ref (r 11), .ref (r 12), .ref (r 13), .int 0, .int 0, .int 0, .int 0, .int 0, .int 0, .int 0, .int 0, .int 0, .ref (r 23), .ref (r 24), .int 0, .ref (r 26), .ref (r 27), .int 0, .int 0, .int 0, .ref (r 31), .ref (r 32), .ref (r 33), .ref (r 34), .ref (r 35), .int 0, .ref (r 37), .ref (r 38), .ref (r 39), .ref (r 40), .ref (r 41), .ref (r 42), .ref (r 43), .ref (r 44), .ref (r 45), .ref (r 46), .int 0, .ref (r 48), .ref (r 49), .ref (r 50), .ref (r 51), .long 0])), ((r 0), .inl (cI, 1990, .inl (upd (upd (fun _ => 0) 4 (-1)) 122 9))), ((r 1), .inl (cI, 1990, .inl im))]) (Qf := fun A => va_Qi (fun r (_ : Unit) => r = 0) (gB G (fun (_ : Unit) => ([] : va_W)) A) A) (cc := cX9_back) (maxL := 1) (ret := (some .int)) (by decide) (Nat.le_of_ble_eq_true rfl) ?_
  intro p e s m args below meth c A ls H hx hb hr hts hown hin hlocks hml hP hK hD hA hS hl
  have hl : lv_has ls 1 [(0, .ref m0)] := hl
  refine lv_aload_n hx hb dX9_back_0 rfl (lv_at hl 0 rfl) ?_
  refine lv_iconst (v := 0) hx hb dX9_back_1 (by decide) ?_
  refine gw_callv (gw_runV (As := [.int 0]) (rest := []) ⟨hx, hb, hml, hown, hts⟩ (c_copies0 l G cI cJ cZ cB cT m0 r im (upd (upd (fun _ => 0) 4 (-1)) 122 9)  H.size) (gG_V m_271 m_272 m_273 m_100 m_270) rfl e_X9_copies ⟨Nat.le_of_ble_eq_true rfl, Nat.le_of_ble_eq_true rfl⟩ hK hP hD [0, 1, 2] rfl (by decide) rfl 0 rfl rfl rfl hl.1 rfl (Nat.le_of_ble_eq_true rfl) dX9_back_2 ⟨Nat.le_of_ble_eq_true rfl, Nat.le_of_ble_eq_true rfl⟩) hP hD hS hA [0, 1, 2] [] rfl rfl (by decide) (by decide) (fun u_1 H locs hw_1 hP hD hS => ?_)
  have hP : va_P G vwCl [(m0, .inr (9, [.ref (r 0), .ref (r 1), .ref (r 2), .int 0, .int (-1), .int (-1), .ref (r 6), .ref (r 7), .ref (r 8), .ref (r 9), .ref (r 10), .ref (r 11), .ref (r 12), .ref (r 13), .int 0, .int 0, .int 0, .int 0, .int 0, .int 0, .int 0, .int 0, .int 0, .ref (r 23), .ref (r 24), .int 0, .ref (r 26), .ref (r 27), .int 0, .int 0, .int 0, .ref (r 31), .ref (r 32), .ref (r 33), .ref (r 34), .ref (r 35), .int 0, .ref (r 37), .ref (r 38), .ref (r 39), .ref (r 40), .ref (r 41), .ref (r 42), .ref (r 43), .ref (r 44), .ref (r 45), .ref (r 46), .int 0, .ref (r 48), .ref (r 49), .ref (r 50), .ref (r 51), .long 0])), ((r 0), .inl (cI, 1990, .inl u_1)), ((r 1), .inl (cI, 1990, .inl im))] H := hP
  have hD : va_D A [(m0, .inr (9, [.ref (r 0), .ref (r 1), .ref (r 2), .int 0, .int (-1), .int (-1), .ref (r 6), .ref (r 7), .ref (r 8), .ref (r 9), .ref (r 10), .ref (r 11), .ref (r 12), .ref (r 13), .int 0, .int 0, .int 0, .int 0, .int 0, .int 0, .int 0, .int 0, .int 0, .ref (r 23), .ref (r 24), .int 0, .ref (r 26), .ref (r 27), .int 0, .int 0, .int 0, .ref (r 31), .ref (r 32), .ref (r 33), .ref (r 34), .ref (r 35), .int 0, .ref (r 37), .ref (r 38), .ref (r 39), .ref (r 40), .ref (r 41), .ref (r 42), .ref (r 43), .ref (r 44), .ref (r 45), .ref (r 46), .int 0, .ref (r 48), .ref (r 49), .ref (r 50), .ref (r 51), .long 0])), ((r 0), .inl (cI, 1990, .inl u_1)), ((r 1), .inl (cI, 1990, .inl im))] := hD
  refine lv_aload_n hx hb dX9_back_5 rfl (lv_at hl 0 rfl) ?_
  refine va_get (D := G) (ci := 9) (v := .ref (r 0)) (C := RX9) (T := TX9) (N := 53) hx hb hts iX9 hown hK hP 0 rfl rfl 0 (by decide) (hts _ m_101) (fun _ h9 => h9) rfl dX9_back_6 ?_
  refine lv_bipush (v := 121) hx hb dX9_back_9 (by decide) ?_
  refine gw_iald (x := 0) hx hb hK hP 1 0 121 rfl rfl rfl (by decide) (by decide) ((hw_1 121 (by decide)).trans him) dX9_back_11 ?_
  exact gw_iret () hx hb hr hlocks (hP.sub [] rfl) (hD.sub [] (by decide) rfl) hS rfl dX9_back_12
set_option maxHeartbeats 4000000 in
set_option maxRecDepth 100000 in
theorem c_plansOf1 (l : Launch) (G : va_G) (cI cJ cZ cB cT : ClassId) (m0 : Nat) (r : Nat → Nat) (ch0 : Nat → Int32) (be : Int64) (p2 : Int32)  : gMi l yX9_plansOf (gws yX9_plansOf cX9_plansOf 9 (some .boolean)) 1 G (gT cI cJ cZ cB cT) [.ref m0, .int 1, .int p2] [(m0, .inr (9, [.ref (r 0), .ref (r 1), .ref (r 2), .int 0, .int (-1), .int (-1), .ref (r 6), .ref (r 7), .ref (r 8), .ref (r 9), .ref (r 10), .ref (r 11), .ref (r 12), .ref (r 13), .int 0, .int 0, .int 0, .int 0, .int 0, .int 0, .int 0, .int 0, .int 0, .ref (r 23), .ref (r 24), .int 0, .ref (r 26), .ref (r 27), .int 0, .int 0, .int 0, .ref (r 31), .ref (r 32), .ref (r 33), .ref (r 34), .ref (r 35), .int 0, .ref (r 37), .ref (r 38), .ref (r 39), .ref (r 40), .ref (r 41), .ref (r 42), .ref (r 43), .ref (r 44), .ref (r 45), .ref (r 46), .int 0, .ref (r 48), .ref (r 49), .ref (r 50), .ref (r 51), .long be])), ((r 48), .inl (cI, 3, .inl ch0))] (fun (r : Int32) (_ : Nat → Int32) => r = 0) (fun (u : Nat → Int32) => ([(m0, .inr (9, [.ref (r 0), .ref (r 1), .ref (r 2), .int 0, .int (-1), .int (-1), .ref (r 6), .ref (r 7), .ref (r 8), .ref (r 9), .ref (r 10), .ref (r 11), .ref (r 12), .ref (r 13), .int 0, .int 0, .int 0, .int 0, .int 0, .int 0, .int 0, .int 0, .int 0, .ref (r 23), .ref (r 24), .int 0, .ref (r 26), .ref (r 27), .int 0, .int 0, .int 0, .ref (r 31), .ref (r 32), .ref (r 33), .ref (r 34), .ref (r 35), .int 0, .ref (r 37), .ref (r 38), .ref (r 39), .ref (r 40), .ref (r 41), .ref (r 42), .ref (r 43), .ref (r 44), .ref (r 45), .ref (r 46), .int 0, .ref (r 48), .ref (r 49), .ref (r 50), .ref (r 51), .long (-1)])), ((r 48), .inl (cI, 3, .inl u))] : va_W)) := by
  intro sz
  refine gM_start (y := yX9_plansOf) (av := [.ref m0, .int 1, .int p2]) (ws := [(m0, .inr (9, [.ref (r 0), .ref (r 1), .ref (r 2), .int 0, .int (-1), .int (-1), .ref (r 6), .ref (r 7), .ref (r 8), .ref (r 9), .ref (r 10), .ref (r 11), .ref (r 12), .ref (r 13), .int 0, .int 0, .int 0, .int 0, .int 0, .int 0, .int 0, .int 0, .int 0, .ref (r 23), .ref (r 24), .int 0, .ref (r 26), .ref (r 27), .int 0, .int 0, .int 0, .ref (r 31), .ref (r 32), .ref (r 33), .ref (r 34), .ref (r 35), .int 0, .ref (r 37), .ref (r 38), .ref (r 39), .ref (r 40), .ref (r 41), .ref (r 42), .ref (r 43), .ref (r 44), .ref (r 45), .ref (r 46), .int 0, .ref (r 48), .ref (r 49), .ref (r 50), .ref (r 51), .long be])), ((r 48), .inl (cI, 3, .inl ch0))]) (Qf := fun A => va_Qi (fun (r : Int32) (_ : Nat → Int32) => r = 0) (gB G (fun (u : Nat → Int32) => ([(m0, .inr (9, [.ref (r 0), .ref (r 1), .ref (r 2), .int 0, .int (-1), .int (-1), .ref (r 6), .ref (r 7), .ref (r 8), .ref (r 9), .ref (r 10), .ref (r 11), .ref (r 12), .ref (r 13), .int 0, .int 0, .int 0, .int 0, .int 0, .int 0, .int 0, .int 0, .int 0, .ref (r 23), .ref (r 24), .int 0, .ref (r 26), .ref (r 27), .int 0, .int 0, .int 0, .ref (r 31), .ref (r 32), .ref (r 33), .ref (r 34), .ref (r 35), .int 0, .ref (r 37), .ref (r 38), .ref (r 39), .ref (r 40), .ref (r 41), .ref (r 42), .ref (r 43), .ref (r 44), .ref (r 45), .ref (r 46), .int 0, .ref (r 48), .ref (r 49), .ref (r 50), .ref (r 51), .long (-1)])), ((r 48), .inl (cI, 3, .inl u))] : va_W)) A) A) (cc := cX9_plansOf) (maxL := 9) (ret := (some .boolean)) (by decide) (Nat.le_of_ble_eq_true rfl) ?_
  intro p e s m args below meth c A ls H hx hb hr hts hown hin hlocks hml hP hK hD hA hS hl
  have hl : lv_has ls 9 [(0, .ref m0), (1, .int 1), (2, .int p2)] := hl
  refine lv_aload_n hx hb dX9_plansOf_0 rfl (lv_at hl 0 rfl) ?_
  refine lv_ldc2 (v := (-1)) hx hb hown (hts _ m_244) dX9_plansOf_1 ?_
  refine va_put (D := G) (ci := 9) (v := .long (-1)) (ty := .long) (C := RX9) (T := TX9) (N := 53) hx hb hts iX9 tyX9 tyX9_ok nmX9 hown hK hP hD hS 0 rfl rfl 52 (by decide) (hts _ m_274) (fun _ h9 => h9) rfl (tyX9_ok 52 (by decide)) rfl rfl (Nat.le_of_ble_eq_true rfl) dX9_plansOf_4 (fun H locs hP hD hS => ?_)
  have hP : va_P G vwCl [(m0, .inr (9, [.ref (r 0), .ref (r 1), .ref (r 2), .int 0, .int (-1), .int (-1), .ref (r 6), .ref (r 7), .ref (r 8), .ref (r 9), .ref (r 10), .ref (r 11), .ref (r 12), .ref (r 13), .int 0, .int 0, .int 0, .int 0, .int 0, .int 0, .int 0, .int 0, .int 0, .ref (r 23), .ref (r 24), .int 0, .ref (r 26), .ref (r 27), .int 0, .int 0, .int 0, .ref (r 31), .ref (r 32), .ref (r 33), .ref (r 34), .ref (r 35), .int 0, .ref (r 37), .ref (r 38), .ref (r 39), .ref (r 40), .ref (r 41), .ref (r 42), .ref (r 43), .ref (r 44), .ref (r 45), .ref (r 46), .int 0, .ref (r 48), .ref (r 49), .ref (r 50), .ref (r 51), .long (-1)])), ((r 48), .inl (cI, 3, .inl ch0))] H := hP
  have hD : va_D A [(m0, .inr (9, [.ref (r 0), .ref (r 1), .ref (r 2), .int 0, .int (-1), .int (-1), .ref (r 6), .ref (r 7), .ref (r 8), .ref (r 9), .ref (r 10), .ref (r 11), .ref (r 12), .ref (r 13), .int 0, .int 0, .int 0, .int 0, .int 0, .int 0, .int 0, .int 0, .int 0, .ref (r 23), .ref (r 24), .int 0, .ref (r 26), .ref (r 27), .int 0, .int 0, .int 0, .ref (r 31), .ref (r 32), .ref (r 33), .ref (r 34), .ref (r 35), .int 0, .ref (r 37), .ref (r 38), .ref (r 39), .ref (r 40), .ref (r 41), .ref (r 42), .ref (r 43), .ref (r 44), .ref (r 45), .ref (r 46), .int 0, .ref (r 48), .ref (r 49), .ref (r 50), .ref (r 51), .long (-1)])), ((r 48), .inl (cI, 3, .inl ch0))] := hD
  refine lv_iconst (v := 0) hx hb dX9_plansOf_7 (by decide) ?_
  refine lv_istore_n (lv' := [(3, .int 0), (0, .ref m0), (1, .int 1), (2, .int p2)]) hx hb dX9_plansOf_8 rfl hl (by decide) rfl (fun ls hl => ?_)
  have hloop_1 : ∀ (n i : Nat) (ch : Nat → Int32), i + n = 1024 → ∀ (H : Heap) (locs : List Loc) (ls : Array Slot), va_P G vwCl [(m0, .inr (9, [.ref (r 0), .ref (r 1), .ref (r 2), .int 0, .int (-1), .int (-1), .ref (r 6), .ref (r 7), .ref (r 8), .ref (r 9), .ref (r 10), .ref (r 11), .ref (r 12), .ref (r 13), .int 0, .int 0, .int 0, .int 0, .int 0, .int 0, .int 0, .int 0, .int 0, .ref (r 23), .ref (r 24), .int 0, .ref (r 26), .ref (r 27), .int 0, .int 0, .int 0, .ref (r 31), .ref (r 32), .ref (r 33), .ref (r 34), .ref (r 35), .int 0, .ref (r 37), .ref (r 38), .ref (r 39), .ref (r 40), .ref (r 41), .ref (r 42), .ref (r 43), .ref (r 44), .ref (r 45), .ref (r 46), .int 0, .ref (r 48), .ref (r 49), .ref (r 50), .ref (r 51), .long (-1)])), ((r 48), .inl (cI, 3, .inl ch))] H → va_D A [(m0, .inr (9, [.ref (r 0), .ref (r 1), .ref (r 2), .int 0, .int (-1), .int (-1), .ref (r 6), .ref (r 7), .ref (r 8), .ref (r 9), .ref (r 10), .ref (r 11), .ref (r 12), .ref (r 13), .int 0, .int 0, .int 0, .int 0, .int 0, .int 0, .int 0, .int 0, .int 0, .ref (r 23), .ref (r 24), .int 0, .ref (r 26), .ref (r 27), .int 0, .int 0, .int 0, .ref (r 31), .ref (r 32), .ref (r 33), .ref (r 34), .ref (r 35), .int 0, .ref (r 37), .ref (r 38), .ref (r 39), .ref (r 40), .ref (r 41), .ref (r 42), .ref (r 43), .ref (r 44), .ref (r 45), .ref (r 46), .int 0, .ref (r 48), .ref (r 49), .ref (r 50), .ref (r 51), .long (-1)])), ((r 48), .inl (cI, 3, .inl ch))] → va_S A s.heap H locs → lv_has ls 9 [(3, .int (nI i)), (0, .ref m0), (1, .int 1), (2, .int p2)] → W p l e (gRm 1) s m args below meth c H locs 0 0 (MQ below (va_Qi (fun (r : Int32) (_ : Nat → Int32) => r = 0) (gB G (fun (u : Nat → Int32) => ([(m0, .inr (9, [.ref (r 0), .ref (r 1), .ref (r 2), .int 0, .int (-1), .int (-1), .ref (r 6), .ref (r 7), .ref (r 8), .ref (r 9), .ref (r 10), .ref (r 11), .ref (r 12), .ref (r 13), .int 0, .int 0, .int 0, .int 0, .int 0, .int 0, .int 0, .int 0, .int 0, .ref (r 23), .ref (r 24), .int 0, .ref (r 26), .ref (r 27), .int 0, .int 0, .int 0, .ref (r 31), .ref (r 32), .ref (r 33), .ref (r 34), .ref (r 35), .int 0, .ref (r 37), .ref (r 38), .ref (r 39), .ref (r 40), .ref (r 41), .ref (r 42), .ref (r 43), .ref (r 44), .ref (r 45), .ref (r 46), .int 0, .ref (r 48), .ref (r 49), .ref (r 50), .ref (r 51), .long (-1)])), ((r 48), .inl (cI, 3, .inl u))] : va_W)) A) A) args s 0 0 A) (F0 m 9 ls []) := by
    intro n
    induction n with
    | zero =>
      intro i ch hin H locs ls hP hD hS hl
      obtain rfl : 1024 = i := by omega
      have hl : lv_has ls 9 [(3, .int 1024), (0, .ref m0), (1, .int 1), (2, .int p2)] := hl
      have hP : va_P G vwCl [(m0, .inr (9, [.ref (r 0), .ref (r 1), .ref (r 2), .int 0, .int (-1), .int (-1), .ref (r 6), .ref (r 7), .ref (r 8), .ref (r 9), .ref (r 10), .ref (r 11), .ref (r 12), .ref (r 13), .int 0, .int 0, .int 0, .int 0, .int 0, .int 0, .int 0, .int 0, .int 0, .ref (r 23), .ref (r 24), .int 0, .ref (r 26), .ref (r 27), .int 0, .int 0, .int 0, .ref (r 31), .ref (r 32), .ref (r 33), .ref (r 34), .ref (r 35), .int 0, .ref (r 37), .ref (r 38), .ref (r 39), .ref (r 40), .ref (r 41), .ref (r 42), .ref (r 43), .ref (r 44), .ref (r 45), .ref (r 46), .int 0, .ref (r 48), .ref (r 49), .ref (r 50), .ref (r 51), .long (-1)])), ((r 48), .inl (cI, 3, .inl ch))] H := hP
      have hD : va_D A [(m0, .inr (9, [.ref (r 0), .ref (r 1), .ref (r 2), .int 0, .int (-1), .int (-1), .ref (r 6), .ref (r 7), .ref (r 8), .ref (r 9), .ref (r 10), .ref (r 11), .ref (r 12), .ref (r 13), .int 0, .int 0, .int 0, .int 0, .int 0, .int 0, .int 0, .int 0, .int 0, .ref (r 23), .ref (r 24), .int 0, .ref (r 26), .ref (r 27), .int 0, .int 0, .int 0, .ref (r 31), .ref (r 32), .ref (r 33), .ref (r 34), .ref (r 35), .int 0, .ref (r 37), .ref (r 38), .ref (r 39), .ref (r 40), .ref (r 41), .ref (r 42), .ref (r 43), .ref (r 44), .ref (r 45), .ref (r 46), .int 0, .ref (r 48), .ref (r 49), .ref (r 50), .ref (r 51), .long (-1)])), ((r 48), .inl (cI, 3, .inl ch))] := hD
      refine lv_iload_n hx hb dX9_plansOf_9 rfl (lv_at hl 0 rfl) ?_
      refine lv_sipush (v := 1024) hx hb dX9_plansOf_10 (by decide) ?_
      refine lv_icmp_ge (tgt := 151) hx hb dX9_plansOf_13 (by decide) (fun _ => ?_) (fun c => absurd (by decide) c)
      refine lv_aload_n hx hb dX9_plansOf_151 rfl (lv_at hl 1 rfl) ?_
      refine va_get (D := G) (ci := 9) (v := .long (-1)) (C := RX9) (T := TX9) (N := 53) hx hb hts iX9 hown hK hP 0 rfl rfl 52 (by decide) (hts _ m_274) (fun _ h9 => h9) rfl dX9_plansOf_152 ?_
      refine lv_ldc2 (v := (-1)) hx hb hown (hts _ m_244) dX9_plansOf_155 ?_
      refine W.lcmp hx hb dX9_plansOf_158 ?_
      refine gw_topi (y := 0) (by decide) ?_
      refine lv_if_eq (tgt := 166) hx hb dX9_plansOf_159 (by decide) (fun _ => ?_) (fun c => absurd (by decide) c)
      refine lv_iconst (v := 0) hx hb dX9_plansOf_166 (by decide) ?_
      exact gw_zret ch hx hb hr hlocks rfl hP hD hS rfl dX9_plansOf_167
    | succ n ih =>
      intro i ch hin H locs ls hP hD hS hl
      have hlt : i < 1024 := by omega
      refine lv_iload_n hx hb dX9_plansOf_9 rfl (lv_at hl 0 rfl) ?_
      refine lv_sipush (v := 1024) hx hb dX9_plansOf_10 (by decide) ?_
      refine lv_icmp_ge (tgt := 151) hx hb dX9_plansOf_13 (by decide) (fun c => absurd c (nI_ge (a := i) (b := 1024) (by omega) (by decide))) (fun _ => ?_)
      refine lv_iconst (v := 0) hx hb dX9_plansOf_16 (by decide) ?_
      refine lv_istore (lv' := [(4, .int 0), (3, .int (nI i)), (0, .ref m0), (1, .int 1), (2, .int p2)]) hx hb dX9_plansOf_17 hl (by decide) rfl (fun ls hl => ?_)
      refine lv_iconst (v := 1) hx hb dX9_plansOf_19 (by decide) ?_
      refine lv_istore (lv' := [(5, .int 1), (4, .int 0), (3, .int (nI i)), (0, .ref m0), (1, .int 1), (2, .int p2)]) hx hb dX9_plansOf_20 hl (by decide) rfl (fun ls hl => ?_)
      refine lv_iconst (v := 0) hx hb dX9_plansOf_22 (by decide) ?_
      refine lv_istore (lv' := [(6, .int 0), (5, .int 1), (4, .int 0), (3, .int (nI i)), (0, .ref m0), (1, .int 1), (2, .int p2)]) hx hb dX9_plansOf_23 hl (by decide) rfl (fun ls hl => ?_)
      have hloop_2 : ∀ (n i2 : Nat) (sz : Nat) (b : Int32) (ch2 : Nat → Int32), i2 + n = 10 → sz ≤ i2 → (b = 0 ∨ (b = 1 ∧ sz = 0)) → ∀ (H : Heap) (locs : List Loc) (ls : Array Slot), va_P G vwCl [(m0, .inr (9, [.ref (r 0), .ref (r 1), .ref (r 2), .int 0, .int (-1), .int (-1), .ref (r 6), .ref (r 7), .ref (r 8), .ref (r 9), .ref (r 10), .ref (r 11), .ref (r 12), .ref (r 13), .int 0, .int 0, .int 0, .int 0, .int 0, .int 0, .int 0, .int 0, .int 0, .ref (r 23), .ref (r 24), .int 0, .ref (r 26), .ref (r 27), .int 0, .int 0, .int 0, .ref (r 31), .ref (r 32), .ref (r 33), .ref (r 34), .ref (r 35), .int 0, .ref (r 37), .ref (r 38), .ref (r 39), .ref (r 40), .ref (r 41), .ref (r 42), .ref (r 43), .ref (r 44), .ref (r 45), .ref (r 46), .int 0, .ref (r 48), .ref (r 49), .ref (r 50), .ref (r 51), .long (-1)])), ((r 48), .inl (cI, 3, .inl ch2))] H → va_D A [(m0, .inr (9, [.ref (r 0), .ref (r 1), .ref (r 2), .int 0, .int (-1), .int (-1), .ref (r 6), .ref (r 7), .ref (r 8), .ref (r 9), .ref (r 10), .ref (r 11), .ref (r 12), .ref (r 13), .int 0, .int 0, .int 0, .int 0, .int 0, .int 0, .int 0, .int 0, .int 0, .ref (r 23), .ref (r 24), .int 0, .ref (r 26), .ref (r 27), .int 0, .int 0, .int 0, .ref (r 31), .ref (r 32), .ref (r 33), .ref (r 34), .ref (r 35), .int 0, .ref (r 37), .ref (r 38), .ref (r 39), .ref (r 40), .ref (r 41), .ref (r 42), .ref (r 43), .ref (r 44), .ref (r 45), .ref (r 46), .int 0, .ref (r 48), .ref (r 49), .ref (r 50), .ref (r 51), .long (-1)])), ((r 48), .inl (cI, 3, .inl ch2))] → va_S A s.heap H locs → lv_has ls 9 [(6, .int (nI i2)), (5, .int b), (4, .int (nI sz)), (3, .int (nI i)), (0, .ref m0), (1, .int 1), (2, .int p2)] → W p l e (gRm 1) s m args below meth c H locs 0 0 (MQ below (va_Qi (fun (r : Int32) (_ : Nat → Int32) => r = 0) (gB G (fun (u : Nat → Int32) => ([(m0, .inr (9, [.ref (r 0), .ref (r 1), .ref (r 2), .int 0, .int (-1), .int (-1), .ref (r 6), .ref (r 7), .ref (r 8), .ref (r 9), .ref (r 10), .ref (r 11), .ref (r 12), .ref (r 13), .int 0, .int 0, .int 0, .int 0, .int 0, .int 0, .int 0, .int 0, .int 0, .ref (r 23), .ref (r 24), .int 0, .ref (r 26), .ref (r 27), .int 0, .int 0, .int 0, .ref (r 31), .ref (r 32), .ref (r 33), .ref (r 34), .ref (r 35), .int 0, .ref (r 37), .ref (r 38), .ref (r 39), .ref (r 40), .ref (r 41), .ref (r 42), .ref (r 43), .ref (r 44), .ref (r 45), .ref (r 46), .int 0, .ref (r 48), .ref (r 49), .ref (r 50), .ref (r 51), .long (-1)])), ((r 48), .inl (cI, 3, .inl u))] : va_W)) A) A) args s 0 0 A) (F0 m 25 ls []) := by
        intro n
        induction n with
        | zero =>
          intro i2 sz b ch2 hin hsz hbz H locs ls hP hD hS hl
          obtain rfl : 10 = i2 := by omega
          have hl : lv_has ls 9 [(6, .int 10), (5, .int b), (4, .int (nI sz)), (3, .int (nI i)), (0, .ref m0), (1, .int 1), (2, .int p2)] := hl
          have hP : va_P G vwCl [(m0, .inr (9, [.ref (r 0), .ref (r 1), .ref (r 2), .int 0, .int (-1), .int (-1), .ref (r 6), .ref (r 7), .ref (r 8), .ref (r 9), .ref (r 10), .ref (r 11), .ref (r 12), .ref (r 13), .int 0, .int 0, .int 0, .int 0, .int 0, .int 0, .int 0, .int 0, .int 0, .ref (r 23), .ref (r 24), .int 0, .ref (r 26), .ref (r 27), .int 0, .int 0, .int 0, .ref (r 31), .ref (r 32), .ref (r 33), .ref (r 34), .ref (r 35), .int 0, .ref (r 37), .ref (r 38), .ref (r 39), .ref (r 40), .ref (r 41), .ref (r 42), .ref (r 43), .ref (r 44), .ref (r 45), .ref (r 46), .int 0, .ref (r 48), .ref (r 49), .ref (r 50), .ref (r 51), .long (-1)])), ((r 48), .inl (cI, 3, .inl ch2))] H := hP
          have hD : va_D A [(m0, .inr (9, [.ref (r 0), .ref (r 1), .ref (r 2), .int 0, .int (-1), .int (-1), .ref (r 6), .ref (r 7), .ref (r 8), .ref (r 9), .ref (r 10), .ref (r 11), .ref (r 12), .ref (r 13), .int 0, .int 0, .int 0, .int 0, .int 0, .int 0, .int 0, .int 0, .int 0, .ref (r 23), .ref (r 24), .int 0, .ref (r 26), .ref (r 27), .int 0, .int 0, .int 0, .ref (r 31), .ref (r 32), .ref (r 33), .ref (r 34), .ref (r 35), .int 0, .ref (r 37), .ref (r 38), .ref (r 39), .ref (r 40), .ref (r 41), .ref (r 42), .ref (r 43), .ref (r 44), .ref (r 45), .ref (r 46), .int 0, .ref (r 48), .ref (r 49), .ref (r 50), .ref (r 51), .long (-1)])), ((r 48), .inl (cI, 3, .inl ch2))] := hD
          refine lv_iload hx hb dX9_plansOf_25 (lv_at hl 0 rfl) ?_
          refine lv_bipush (v := 10) hx hb dX9_plansOf_27 (by decide) ?_
          refine lv_icmp_ge (tgt := 128) hx hb dX9_plansOf_29 (by decide) (fun _ => ?_) (fun c => absurd (by decide) c)
          refine lv_iload hx hb dX9_plansOf_128 (lv_at hl 1 rfl) ?_
          refine lv_if_eq (tgt := 145) hx hb dX9_plansOf_130 (by decide) (fun c_3 => ?_) (fun c_3 => ?_)
          · refine lv_iinc (v := (nI (i + 1))) (lv' := [(3, .int (nI (i + 1))), (6, .int 10), (5, .int b), (4, .int (nI sz)), (0, .ref m0), (1, .int 1), (2, .int p2)]) hx hb dX9_plansOf_145 hl (k := 3) rfl (nI_1 i) (by decide) rfl (fun ls hl => ?_)
            refine lv_goto (tgt := 9) hx hb dX9_plansOf_148 (by decide) ?_
            exact ih (i + 1) ch2 (by omega)  H _ ls hP hD hS (lv_sub hl [0, 4, 5, 6] rfl)
          · obtain rfl : sz = 0 := (hbz.resolve_left c_3).2
            have hl : lv_has ls 9 [(6, .int 10), (5, .int b), (4, .int 0), (3, .int (nI i)), (0, .ref m0), (1, .int 1), (2, .int p2)] := hl
            refine lv_iload hx hb dX9_plansOf_133 (lv_at hl 2 rfl) ?_
            refine lv_iload_n hx hb dX9_plansOf_135 rfl (lv_at hl 5 rfl) ?_
            refine lv_icmp_ne (tgt := 145) hx hb dX9_plansOf_136 (by decide) (fun _ => ?_) (fun c => absurd c (by decide))
            refine lv_iinc (v := (nI (i + 1))) (lv' := [(3, .int (nI (i + 1))), (6, .int 10), (5, .int b), (4, .int 0), (0, .ref m0), (1, .int 1), (2, .int p2)]) hx hb dX9_plansOf_145 hl (k := 3) rfl (nI_1 i) (by decide) rfl (fun ls hl => ?_)
            refine lv_goto (tgt := 9) hx hb dX9_plansOf_148 (by decide) ?_
            exact ih (i + 1) ch2 (by omega)  H _ ls hP hD hS (lv_sub hl [0, 4, 5, 6] rfl)
        | succ n ih =>
          intro i2 sz b ch2 hin hsz hbz H locs ls hP hD hS hl
          have hlt : i2 < 10 := by omega
          refine lv_iload hx hb dX9_plansOf_25 (lv_at hl 0 rfl) ?_
          refine lv_bipush (v := 10) hx hb dX9_plansOf_27 (by decide) ?_
          refine lv_icmp_ge (tgt := 128) hx hb dX9_plansOf_29 (by decide) (fun c => absurd c (nI_ge (a := i2) (b := 10) (by omega) (by decide))) (fun _ => ?_)
          refine lv_iload_n hx hb dX9_plansOf_32 rfl (lv_at hl 3 rfl) ?_
          refine lv_iload hx hb dX9_plansOf_33 (lv_at hl 0 rfl) ?_
          refine lv_ishr hx hb dX9_plansOf_35 ?_
          refine lv_iconst (v := 1) hx hb dX9_plansOf_36 (by decide) ?_
          refine lv_iand hx hb dX9_plansOf_37 ?_
          refine lv_iconst (v := 1) hx hb dX9_plansOf_38 (by decide) ?_
          refine lv_icmp_ne (tgt := 122) hx hb dX9_plansOf_39 (by decide) (fun c_4 => ?_) (fun c_4 => ?_)
          · refine lv_iinc (v := (nI (i2 + 1))) (lv' := [(6, .int (nI (i2 + 1))), (5, .int b), (4, .int (nI sz)), (3, .int (nI i)), (0, .ref m0), (1, .int 1), (2, .int p2)]) hx hb dX9_plansOf_122 hl (k := 0) rfl (nI_1 i2) (by decide) rfl (fun ls hl => ?_)
            refine lv_goto (tgt := 25) hx hb dX9_plansOf_125 (by decide) ?_
            exact ih (i2 + 1) sz b ch2 (by omega) (by omega) hbz H _ ls hP hD hS (lv_sub hl [0, 1, 2, 3, 4, 5, 6] rfl)
          · refine lv_iconst (v := 0) hx hb dX9_plansOf_42 (by decide) ?_
            refine lv_istore (lv' := [(7, .int 0), (6, .int (nI i2)), (5, .int b), (4, .int (nI sz)), (3, .int (nI i)), (0, .ref m0), (1, .int 1), (2, .int p2)]) hx hb dX9_plansOf_43 hl (by decide) rfl (fun ls hl => ?_)
            refine lv_iconst (v := 0) hx hb dX9_plansOf_45 (by decide) ?_
            refine lv_istore (lv' := [(8, .int 0), (7, .int 0), (6, .int (nI i2)), (5, .int b), (4, .int (nI sz)), (3, .int (nI i)), (0, .ref m0), (1, .int 1), (2, .int p2)]) hx hb dX9_plansOf_46 hl (by decide) rfl (fun ls hl => ?_)
            refine lv_iload hx hb dX9_plansOf_48 (lv_at hl 0 rfl) ?_
            refine lv_aload_n hx hb dX9_plansOf_50 rfl (lv_at hl 6 rfl) ?_
            refine va_get (D := G) (ci := 9) (v := .int 0) (C := RX9) (T := TX9) (N := 53) hx hb hts iX9 hown hK hP 0 rfl rfl 47 (by decide) (hts _ m_275) (fun _ h9 => h9) rfl dX9_plansOf_51 ?_
            refine lv_icmp_ge (tgt := 87) hx hb dX9_plansOf_54 (by decide) (fun _ => ?_) (fun c => absurd (by decide) c)
            refine lv_iload hx hb dX9_plansOf_87 (lv_at hl 3 rfl) ?_
            refine lv_if_eq (tgt := 101) hx hb dX9_plansOf_89 (by decide) (fun c_5 => ?_) (fun c_5 => ?_)
            · refine lv_iconst (v := 0) hx hb dX9_plansOf_101 (by decide) ?_
              refine lv_istore (lv' := [(5, .int 0), (8, .int 0), (7, .int 0), (6, .int (nI i2)), (4, .int (nI sz)), (3, .int (nI i)), (0, .ref m0), (1, .int 1), (2, .int p2)]) hx hb dX9_plansOf_102 hl (by decide) rfl (fun ls hl => ?_)
              refine lv_iload hx hb dX9_plansOf_104 (lv_at hl 4 rfl) ?_
              refine lv_iconst (v := 3) hx hb dX9_plansOf_106 (by decide) ?_
              refine lv_icmp_ge (tgt := 119) hx hb dX9_plansOf_107 (by decide) (fun c_6 => ?_) (fun c_6 => ?_)
              · refine lv_iinc (v := (nI (sz + 1))) (lv' := [(4, .int (nI (sz + 1))), (5, .int 0), (8, .int 0), (7, .int 0), (6, .int (nI i2)), (3, .int (nI i)), (0, .ref m0), (1, .int 1), (2, .int p2)]) hx hb dX9_plansOf_119 hl (k := 4) rfl (nI_1 sz) (by decide) rfl (fun ls hl => ?_)
                refine lv_iinc (v := (nI (i2 + 1))) (lv' := [(6, .int (nI (i2 + 1))), (4, .int (nI (sz + 1))), (5, .int 0), (8, .int 0), (7, .int 0), (3, .int (nI i)), (0, .ref m0), (1, .int 1), (2, .int p2)]) hx hb dX9_plansOf_122 hl (k := 4) rfl (nI_1 i2) (by decide) rfl (fun ls hl => ?_)
                refine lv_goto (tgt := 25) hx hb dX9_plansOf_125 (by decide) ?_
                exact ih (i2 + 1) (sz + 1) 0 ch2 (by omega) (by omega) (Or.inl rfl) H _ ls hP hD hS (lv_sub hl [0, 2, 1, 5, 6, 7, 8] rfl)
              · have hsz3 : sz < 3 := by
                  rcases Nat.lt_or_ge sz 3 with h9 | h9
                  · exact h9
                  · exact absurd (nI_le (a := 3) (b := sz) h9 (by omega)) c_6
                refine lv_aload_n hx hb dX9_plansOf_110 rfl (lv_at hl 6 rfl) ?_
                refine va_get (D := G) (ci := 9) (v := .ref (r 48)) (C := RX9) (T := TX9) (N := 53) hx hb hts iX9 hown hK hP 0 rfl rfl 48 (by decide) (hts _ m_276) (fun _ h9 => h9) rfl dX9_plansOf_111 ?_
                refine lv_iload hx hb dX9_plansOf_114 (lv_at hl 4 rfl) ?_
                refine lv_iload hx hb dX9_plansOf_116 (lv_at hl 3 rfl) ?_
                refine gw_iast hx hb hK hP hD hS 1 0 sz rfl rfl rfl (by omega) (by decide) dX9_plansOf_118 (fun H locs hP hD hS => ?_)
                have hP : va_P G vwCl [(m0, .inr (9, [.ref (r 0), .ref (r 1), .ref (r 2), .int 0, .int (-1), .int (-1), .ref (r 6), .ref (r 7), .ref (r 8), .ref (r 9), .ref (r 10), .ref (r 11), .ref (r 12), .ref (r 13), .int 0, .int 0, .int 0, .int 0, .int 0, .int 0, .int 0, .int 0, .int 0, .ref (r 23), .ref (r 24), .int 0, .ref (r 26), .ref (r 27), .int 0, .int 0, .int 0, .ref (r 31), .ref (r 32), .ref (r 33), .ref (r 34), .ref (r 35), .int 0, .ref (r 37), .ref (r 38), .ref (r 39), .ref (r 40), .ref (r 41), .ref (r 42), .ref (r 43), .ref (r 44), .ref (r 45), .ref (r 46), .int 0, .ref (r 48), .ref (r 49), .ref (r 50), .ref (r 51), .long (-1)])), ((r 48), .inl (cI, 3, .inl (upd ch2 sz (nI i2))))] H := hP
                have hD : va_D A [(m0, .inr (9, [.ref (r 0), .ref (r 1), .ref (r 2), .int 0, .int (-1), .int (-1), .ref (r 6), .ref (r 7), .ref (r 8), .ref (r 9), .ref (r 10), .ref (r 11), .ref (r 12), .ref (r 13), .int 0, .int 0, .int 0, .int 0, .int 0, .int 0, .int 0, .int 0, .int 0, .ref (r 23), .ref (r 24), .int 0, .ref (r 26), .ref (r 27), .int 0, .int 0, .int 0, .ref (r 31), .ref (r 32), .ref (r 33), .ref (r 34), .ref (r 35), .int 0, .ref (r 37), .ref (r 38), .ref (r 39), .ref (r 40), .ref (r 41), .ref (r 42), .ref (r 43), .ref (r 44), .ref (r 45), .ref (r 46), .int 0, .ref (r 48), .ref (r 49), .ref (r 50), .ref (r 51), .long (-1)])), ((r 48), .inl (cI, 3, .inl (upd ch2 sz (nI i2))))] := hD
                refine lv_iinc (v := (nI (sz + 1))) (lv' := [(4, .int (nI (sz + 1))), (5, .int 0), (8, .int 0), (7, .int 0), (6, .int (nI i2)), (3, .int (nI i)), (0, .ref m0), (1, .int 1), (2, .int p2)]) hx hb dX9_plansOf_119 hl (k := 4) rfl (nI_1 sz) (by decide) rfl (fun ls hl => ?_)
                refine lv_iinc (v := (nI (i2 + 1))) (lv' := [(6, .int (nI (i2 + 1))), (4, .int (nI (sz + 1))), (5, .int 0), (8, .int 0), (7, .int 0), (3, .int (nI i)), (0, .ref m0), (1, .int 1), (2, .int p2)]) hx hb dX9_plansOf_122 hl (k := 4) rfl (nI_1 i2) (by decide) rfl (fun ls hl => ?_)
                refine lv_goto (tgt := 25) hx hb dX9_plansOf_125 (by decide) ?_
                exact ih (i2 + 1) (sz + 1) 0 (upd ch2 sz (nI i2)) (by omega) (by omega) (Or.inl rfl) H _ ls hP hD hS (lv_sub hl [0, 2, 1, 5, 6, 7, 8] rfl)
            · refine lv_iload hx hb dX9_plansOf_92 (lv_at hl 1 rfl) ?_
              refine lv_if_eq (tgt := 101) hx hb dX9_plansOf_94 (by decide) (fun _ => ?_) (fun c => absurd (by decide) c)
              refine lv_iconst (v := 0) hx hb dX9_plansOf_101 (by decide) ?_
              refine lv_istore (lv' := [(5, .int 0), (8, .int 0), (7, .int 0), (6, .int (nI i2)), (4, .int (nI sz)), (3, .int (nI i)), (0, .ref m0), (1, .int 1), (2, .int p2)]) hx hb dX9_plansOf_102 hl (by decide) rfl (fun ls hl => ?_)
              refine lv_iload hx hb dX9_plansOf_104 (lv_at hl 4 rfl) ?_
              refine lv_iconst (v := 3) hx hb dX9_plansOf_106 (by decide) ?_
              refine lv_icmp_ge (tgt := 119) hx hb dX9_plansOf_107 (by decide) (fun c_7 => ?_) (fun c_7 => ?_)
              · refine lv_iinc (v := (nI (sz + 1))) (lv' := [(4, .int (nI (sz + 1))), (5, .int 0), (8, .int 0), (7, .int 0), (6, .int (nI i2)), (3, .int (nI i)), (0, .ref m0), (1, .int 1), (2, .int p2)]) hx hb dX9_plansOf_119 hl (k := 4) rfl (nI_1 sz) (by decide) rfl (fun ls hl => ?_)
                refine lv_iinc (v := (nI (i2 + 1))) (lv' := [(6, .int (nI (i2 + 1))), (4, .int (nI (sz + 1))), (5, .int 0), (8, .int 0), (7, .int 0), (3, .int (nI i)), (0, .ref m0), (1, .int 1), (2, .int p2)]) hx hb dX9_plansOf_122 hl (k := 4) rfl (nI_1 i2) (by decide) rfl (fun ls hl => ?_)
                refine lv_goto (tgt := 25) hx hb dX9_plansOf_125 (by decide) ?_
                exact ih (i2 + 1) (sz + 1) 0 ch2 (by omega) (by omega) (Or.inl rfl) H _ ls hP hD hS (lv_sub hl [0, 2, 1, 5, 6, 7, 8] rfl)
              · have hsz3 : sz < 3 := by
                  rcases Nat.lt_or_ge sz 3 with h9 | h9
                  · exact h9
                  · exact absurd (nI_le (a := 3) (b := sz) h9 (by omega)) c_7
                refine lv_aload_n hx hb dX9_plansOf_110 rfl (lv_at hl 6 rfl) ?_
                refine va_get (D := G) (ci := 9) (v := .ref (r 48)) (C := RX9) (T := TX9) (N := 53) hx hb hts iX9 hown hK hP 0 rfl rfl 48 (by decide) (hts _ m_276) (fun _ h9 => h9) rfl dX9_plansOf_111 ?_
                refine lv_iload hx hb dX9_plansOf_114 (lv_at hl 4 rfl) ?_
                refine lv_iload hx hb dX9_plansOf_116 (lv_at hl 3 rfl) ?_
                refine gw_iast hx hb hK hP hD hS 1 0 sz rfl rfl rfl (by omega) (by decide) dX9_plansOf_118 (fun H locs hP hD hS => ?_)
                have hP : va_P G vwCl [(m0, .inr (9, [.ref (r 0), .ref (r 1), .ref (r 2), .int 0, .int (-1), .int (-1), .ref (r 6), .ref (r 7), .ref (r 8), .ref (r 9), .ref (r 10), .ref (r 11), .ref (r 12), .ref (r 13), .int 0, .int 0, .int 0, .int 0, .int 0, .int 0, .int 0, .int 0, .int 0, .ref (r 23), .ref (r 24), .int 0, .ref (r 26), .ref (r 27), .int 0, .int 0, .int 0, .ref (r 31), .ref (r 32), .ref (r 33), .ref (r 34), .ref (r 35), .int 0, .ref (r 37), .ref (r 38), .ref (r 39), .ref (r 40), .ref (r 41), .ref (r 42), .ref (r 43), .ref (r 44), .ref (r 45), .ref (r 46), .int 0, .ref (r 48), .ref (r 49), .ref (r 50), .ref (r 51), .long (-1)])), ((r 48), .inl (cI, 3, .inl (upd ch2 sz (nI i2))))] H := hP
                have hD : va_D A [(m0, .inr (9, [.ref (r 0), .ref (r 1), .ref (r 2), .int 0, .int (-1), .int (-1), .ref (r 6), .ref (r 7), .ref (r 8), .ref (r 9), .ref (r 10), .ref (r 11), .ref (r 12), .ref (r 13), .int 0, .int 0, .int 0, .int 0, .int 0, .int 0, .int 0, .int 0, .int 0, .ref (r 23), .ref (r 24), .int 0, .ref (r 26), .ref (r 27), .int 0, .int 0, .int 0, .ref (r 31), .ref (r 32), .ref (r 33), .ref (r 34), .ref (r 35), .int 0, .ref (r 37), .ref (r 38), .ref (r 39), .ref (r 40), .ref (r 41), .ref (r 42), .ref (r 43), .ref (r 44), .ref (r 45), .ref (r 46), .int 0, .ref (r 48), .ref (r 49), .ref (r 50), .ref (r 51), .long (-1)])), ((r 48), .inl (cI, 3, .inl (upd ch2 sz (nI i2))))] := hD
                refine lv_iinc (v := (nI (sz + 1))) (lv' := [(4, .int (nI (sz + 1))), (5, .int 0), (8, .int 0), (7, .int 0), (6, .int (nI i2)), (3, .int (nI i)), (0, .ref m0), (1, .int 1), (2, .int p2)]) hx hb dX9_plansOf_119 hl (k := 4) rfl (nI_1 sz) (by decide) rfl (fun ls hl => ?_)
                refine lv_iinc (v := (nI (i2 + 1))) (lv' := [(6, .int (nI (i2 + 1))), (4, .int (nI (sz + 1))), (5, .int 0), (8, .int 0), (7, .int 0), (3, .int (nI i)), (0, .ref m0), (1, .int 1), (2, .int p2)]) hx hb dX9_plansOf_122 hl (k := 4) rfl (nI_1 i2) (by decide) rfl (fun ls hl => ?_)
                refine lv_goto (tgt := 25) hx hb dX9_plansOf_125 (by decide) ?_
                exact ih (i2 + 1) (sz + 1) 0 (upd ch2 sz (nI i2)) (by omega) (by omega) (Or.inl rfl) H _ ls hP hD hS (lv_sub hl [0, 2, 1, 5, 6, 7, 8] rfl)
      exact hloop_2 10 0 0 1 ch (by omega) (by omega) (Or.inr ⟨rfl, rfl⟩) H _ ls hP hD hS (lv_sub hl [0, 1, 2, 3, 4, 5, 6] rfl)
  exact hloop_1 1024 0 ch0 (by omega)  H _ ls hP hD hS (lv_sub hl [0, 1, 2, 3] rfl)
set_option maxHeartbeats 4000000 in
set_option maxRecDepth 100000 in
theorem c_plansOf2 (l : Launch) (G : va_G) (cI cJ cZ cB cT : ClassId) (m0 : Nat) (r : Nat → Nat) (ch0 : Nat → Int32) (be : Int64) (p2 : Int32)  : gMi l yX9_plansOf (gws yX9_plansOf cX9_plansOf 9 (some .boolean)) 1 G (gT cI cJ cZ cB cT) [.ref m0, .int 2, .int p2] [(m0, .inr (9, [.ref (r 0), .ref (r 1), .ref (r 2), .int 0, .int (-1), .int (-1), .ref (r 6), .ref (r 7), .ref (r 8), .ref (r 9), .ref (r 10), .ref (r 11), .ref (r 12), .ref (r 13), .int 0, .int 0, .int 0, .int 0, .int 0, .int 0, .int 0, .int 0, .int 0, .ref (r 23), .ref (r 24), .int 0, .ref (r 26), .ref (r 27), .int 0, .int 0, .int 0, .ref (r 31), .ref (r 32), .ref (r 33), .ref (r 34), .ref (r 35), .int 0, .ref (r 37), .ref (r 38), .ref (r 39), .ref (r 40), .ref (r 41), .ref (r 42), .ref (r 43), .ref (r 44), .ref (r 45), .ref (r 46), .int 0, .ref (r 48), .ref (r 49), .ref (r 50), .ref (r 51), .long be])), ((r 48), .inl (cI, 3, .inl ch0))] (fun (r : Int32) (_ : Nat → Int32) => r = 0) (fun (u : Nat → Int32) => ([(m0, .inr (9, [.ref (r 0), .ref (r 1), .ref (r 2), .int 0, .int (-1), .int (-1), .ref (r 6), .ref (r 7), .ref (r 8), .ref (r 9), .ref (r 10), .ref (r 11), .ref (r 12), .ref (r 13), .int 0, .int 0, .int 0, .int 0, .int 0, .int 0, .int 0, .int 0, .int 0, .ref (r 23), .ref (r 24), .int 0, .ref (r 26), .ref (r 27), .int 0, .int 0, .int 0, .ref (r 31), .ref (r 32), .ref (r 33), .ref (r 34), .ref (r 35), .int 0, .ref (r 37), .ref (r 38), .ref (r 39), .ref (r 40), .ref (r 41), .ref (r 42), .ref (r 43), .ref (r 44), .ref (r 45), .ref (r 46), .int 0, .ref (r 48), .ref (r 49), .ref (r 50), .ref (r 51), .long (-1)])), ((r 48), .inl (cI, 3, .inl u))] : va_W)) := by
  intro sz
  refine gM_start (y := yX9_plansOf) (av := [.ref m0, .int 2, .int p2]) (ws := [(m0, .inr (9, [.ref (r 0), .ref (r 1), .ref (r 2), .int 0, .int (-1), .int (-1), .ref (r 6), .ref (r 7), .ref (r 8), .ref (r 9), .ref (r 10), .ref (r 11), .ref (r 12), .ref (r 13), .int 0, .int 0, .int 0, .int 0, .int 0, .int 0, .int 0, .int 0, .int 0, .ref (r 23), .ref (r 24), .int 0, .ref (r 26), .ref (r 27), .int 0, .int 0, .int 0, .ref (r 31), .ref (r 32), .ref (r 33), .ref (r 34), .ref (r 35), .int 0, .ref (r 37), .ref (r 38), .ref (r 39), .ref (r 40), .ref (r 41), .ref (r 42), .ref (r 43), .ref (r 44), .ref (r 45), .ref (r 46), .int 0, .ref (r 48), .ref (r 49), .ref (r 50), .ref (r 51), .long be])), ((r 48), .inl (cI, 3, .inl ch0))]) (Qf := fun A => va_Qi (fun (r : Int32) (_ : Nat → Int32) => r = 0) (gB G (fun (u : Nat → Int32) => ([(m0, .inr (9, [.ref (r 0), .ref (r 1), .ref (r 2), .int 0, .int (-1), .int (-1), .ref (r 6), .ref (r 7), .ref (r 8), .ref (r 9), .ref (r 10), .ref (r 11), .ref (r 12), .ref (r 13), .int 0, .int 0, .int 0, .int 0, .int 0, .int 0, .int 0, .int 0, .int 0, .ref (r 23), .ref (r 24), .int 0, .ref (r 26), .ref (r 27), .int 0, .int 0, .int 0, .ref (r 31), .ref (r 32), .ref (r 33), .ref (r 34), .ref (r 35), .int 0, .ref (r 37), .ref (r 38), .ref (r 39), .ref (r 40), .ref (r 41), .ref (r 42), .ref (r 43), .ref (r 44), .ref (r 45), .ref (r 46), .int 0, .ref (r 48), .ref (r 49), .ref (r 50), .ref (r 51), .long (-1)])), ((r 48), .inl (cI, 3, .inl u))] : va_W)) A) A) (cc := cX9_plansOf) (maxL := 9) (ret := (some .boolean)) (by decide) (Nat.le_of_ble_eq_true rfl) ?_
  intro p e s m args below meth c A ls H hx hb hr hts hown hin hlocks hml hP hK hD hA hS hl
  have hl : lv_has ls 9 [(0, .ref m0), (1, .int 2), (2, .int p2)] := hl
  refine lv_aload_n hx hb dX9_plansOf_0 rfl (lv_at hl 0 rfl) ?_
  refine lv_ldc2 (v := (-1)) hx hb hown (hts _ m_244) dX9_plansOf_1 ?_
  refine va_put (D := G) (ci := 9) (v := .long (-1)) (ty := .long) (C := RX9) (T := TX9) (N := 53) hx hb hts iX9 tyX9 tyX9_ok nmX9 hown hK hP hD hS 0 rfl rfl 52 (by decide) (hts _ m_274) (fun _ h9 => h9) rfl (tyX9_ok 52 (by decide)) rfl rfl (Nat.le_of_ble_eq_true rfl) dX9_plansOf_4 (fun H locs hP hD hS => ?_)
  have hP : va_P G vwCl [(m0, .inr (9, [.ref (r 0), .ref (r 1), .ref (r 2), .int 0, .int (-1), .int (-1), .ref (r 6), .ref (r 7), .ref (r 8), .ref (r 9), .ref (r 10), .ref (r 11), .ref (r 12), .ref (r 13), .int 0, .int 0, .int 0, .int 0, .int 0, .int 0, .int 0, .int 0, .int 0, .ref (r 23), .ref (r 24), .int 0, .ref (r 26), .ref (r 27), .int 0, .int 0, .int 0, .ref (r 31), .ref (r 32), .ref (r 33), .ref (r 34), .ref (r 35), .int 0, .ref (r 37), .ref (r 38), .ref (r 39), .ref (r 40), .ref (r 41), .ref (r 42), .ref (r 43), .ref (r 44), .ref (r 45), .ref (r 46), .int 0, .ref (r 48), .ref (r 49), .ref (r 50), .ref (r 51), .long (-1)])), ((r 48), .inl (cI, 3, .inl ch0))] H := hP
  have hD : va_D A [(m0, .inr (9, [.ref (r 0), .ref (r 1), .ref (r 2), .int 0, .int (-1), .int (-1), .ref (r 6), .ref (r 7), .ref (r 8), .ref (r 9), .ref (r 10), .ref (r 11), .ref (r 12), .ref (r 13), .int 0, .int 0, .int 0, .int 0, .int 0, .int 0, .int 0, .int 0, .int 0, .ref (r 23), .ref (r 24), .int 0, .ref (r 26), .ref (r 27), .int 0, .int 0, .int 0, .ref (r 31), .ref (r 32), .ref (r 33), .ref (r 34), .ref (r 35), .int 0, .ref (r 37), .ref (r 38), .ref (r 39), .ref (r 40), .ref (r 41), .ref (r 42), .ref (r 43), .ref (r 44), .ref (r 45), .ref (r 46), .int 0, .ref (r 48), .ref (r 49), .ref (r 50), .ref (r 51), .long (-1)])), ((r 48), .inl (cI, 3, .inl ch0))] := hD
  refine lv_iconst (v := 0) hx hb dX9_plansOf_7 (by decide) ?_
  refine lv_istore_n (lv' := [(3, .int 0), (0, .ref m0), (1, .int 2), (2, .int p2)]) hx hb dX9_plansOf_8 rfl hl (by decide) rfl (fun ls hl => ?_)
  have hloop_1 : ∀ (n i : Nat) (ch : Nat → Int32), i + n = 1024 → ∀ (H : Heap) (locs : List Loc) (ls : Array Slot), va_P G vwCl [(m0, .inr (9, [.ref (r 0), .ref (r 1), .ref (r 2), .int 0, .int (-1), .int (-1), .ref (r 6), .ref (r 7), .ref (r 8), .ref (r 9), .ref (r 10), .ref (r 11), .ref (r 12), .ref (r 13), .int 0, .int 0, .int 0, .int 0, .int 0, .int 0, .int 0, .int 0, .int 0, .ref (r 23), .ref (r 24), .int 0, .ref (r 26), .ref (r 27), .int 0, .int 0, .int 0, .ref (r 31), .ref (r 32), .ref (r 33), .ref (r 34), .ref (r 35), .int 0, .ref (r 37), .ref (r 38), .ref (r 39), .ref (r 40), .ref (r 41), .ref (r 42), .ref (r 43), .ref (r 44), .ref (r 45), .ref (r 46), .int 0, .ref (r 48), .ref (r 49), .ref (r 50), .ref (r 51), .long (-1)])), ((r 48), .inl (cI, 3, .inl ch))] H → va_D A [(m0, .inr (9, [.ref (r 0), .ref (r 1), .ref (r 2), .int 0, .int (-1), .int (-1), .ref (r 6), .ref (r 7), .ref (r 8), .ref (r 9), .ref (r 10), .ref (r 11), .ref (r 12), .ref (r 13), .int 0, .int 0, .int 0, .int 0, .int 0, .int 0, .int 0, .int 0, .int 0, .ref (r 23), .ref (r 24), .int 0, .ref (r 26), .ref (r 27), .int 0, .int 0, .int 0, .ref (r 31), .ref (r 32), .ref (r 33), .ref (r 34), .ref (r 35), .int 0, .ref (r 37), .ref (r 38), .ref (r 39), .ref (r 40), .ref (r 41), .ref (r 42), .ref (r 43), .ref (r 44), .ref (r 45), .ref (r 46), .int 0, .ref (r 48), .ref (r 49), .ref (r 50), .ref (r 51), .long (-1)])), ((r 48), .inl (cI, 3, .inl ch))] → va_S A s.heap H locs → lv_has ls 9 [(3, .int (nI i)), (0, .ref m0), (1, .int 2), (2, .int p2)] → W p l e (gRm 1) s m args below meth c H locs 0 0 (MQ below (va_Qi (fun (r : Int32) (_ : Nat → Int32) => r = 0) (gB G (fun (u : Nat → Int32) => ([(m0, .inr (9, [.ref (r 0), .ref (r 1), .ref (r 2), .int 0, .int (-1), .int (-1), .ref (r 6), .ref (r 7), .ref (r 8), .ref (r 9), .ref (r 10), .ref (r 11), .ref (r 12), .ref (r 13), .int 0, .int 0, .int 0, .int 0, .int 0, .int 0, .int 0, .int 0, .int 0, .ref (r 23), .ref (r 24), .int 0, .ref (r 26), .ref (r 27), .int 0, .int 0, .int 0, .ref (r 31), .ref (r 32), .ref (r 33), .ref (r 34), .ref (r 35), .int 0, .ref (r 37), .ref (r 38), .ref (r 39), .ref (r 40), .ref (r 41), .ref (r 42), .ref (r 43), .ref (r 44), .ref (r 45), .ref (r 46), .int 0, .ref (r 48), .ref (r 49), .ref (r 50), .ref (r 51), .long (-1)])), ((r 48), .inl (cI, 3, .inl u))] : va_W)) A) A) args s 0 0 A) (F0 m 9 ls []) := by
    intro n
    induction n with
    | zero =>
      intro i ch hin H locs ls hP hD hS hl
      obtain rfl : 1024 = i := by omega
      have hl : lv_has ls 9 [(3, .int 1024), (0, .ref m0), (1, .int 2), (2, .int p2)] := hl
      have hP : va_P G vwCl [(m0, .inr (9, [.ref (r 0), .ref (r 1), .ref (r 2), .int 0, .int (-1), .int (-1), .ref (r 6), .ref (r 7), .ref (r 8), .ref (r 9), .ref (r 10), .ref (r 11), .ref (r 12), .ref (r 13), .int 0, .int 0, .int 0, .int 0, .int 0, .int 0, .int 0, .int 0, .int 0, .ref (r 23), .ref (r 24), .int 0, .ref (r 26), .ref (r 27), .int 0, .int 0, .int 0, .ref (r 31), .ref (r 32), .ref (r 33), .ref (r 34), .ref (r 35), .int 0, .ref (r 37), .ref (r 38), .ref (r 39), .ref (r 40), .ref (r 41), .ref (r 42), .ref (r 43), .ref (r 44), .ref (r 45), .ref (r 46), .int 0, .ref (r 48), .ref (r 49), .ref (r 50), .ref (r 51), .long (-1)])), ((r 48), .inl (cI, 3, .inl ch))] H := hP
      have hD : va_D A [(m0, .inr (9, [.ref (r 0), .ref (r 1), .ref (r 2), .int 0, .int (-1), .int (-1), .ref (r 6), .ref (r 7), .ref (r 8), .ref (r 9), .ref (r 10), .ref (r 11), .ref (r 12), .ref (r 13), .int 0, .int 0, .int 0, .int 0, .int 0, .int 0, .int 0, .int 0, .int 0, .ref (r 23), .ref (r 24), .int 0, .ref (r 26), .ref (r 27), .int 0, .int 0, .int 0, .ref (r 31), .ref (r 32), .ref (r 33), .ref (r 34), .ref (r 35), .int 0, .ref (r 37), .ref (r 38), .ref (r 39), .ref (r 40), .ref (r 41), .ref (r 42), .ref (r 43), .ref (r 44), .ref (r 45), .ref (r 46), .int 0, .ref (r 48), .ref (r 49), .ref (r 50), .ref (r 51), .long (-1)])), ((r 48), .inl (cI, 3, .inl ch))] := hD
      refine lv_iload_n hx hb dX9_plansOf_9 rfl (lv_at hl 0 rfl) ?_
      refine lv_sipush (v := 1024) hx hb dX9_plansOf_10 (by decide) ?_
      refine lv_icmp_ge (tgt := 151) hx hb dX9_plansOf_13 (by decide) (fun _ => ?_) (fun c => absurd (by decide) c)
      refine lv_aload_n hx hb dX9_plansOf_151 rfl (lv_at hl 1 rfl) ?_
      refine va_get (D := G) (ci := 9) (v := .long (-1)) (C := RX9) (T := TX9) (N := 53) hx hb hts iX9 hown hK hP 0 rfl rfl 52 (by decide) (hts _ m_274) (fun _ h9 => h9) rfl dX9_plansOf_152 ?_
      refine lv_ldc2 (v := (-1)) hx hb hown (hts _ m_244) dX9_plansOf_155 ?_
      refine W.lcmp hx hb dX9_plansOf_158 ?_
      refine gw_topi (y := 0) (by decide) ?_
      refine lv_if_eq (tgt := 166) hx hb dX9_plansOf_159 (by decide) (fun _ => ?_) (fun c => absurd (by decide) c)
      refine lv_iconst (v := 0) hx hb dX9_plansOf_166 (by decide) ?_
      exact gw_zret ch hx hb hr hlocks rfl hP hD hS rfl dX9_plansOf_167
    | succ n ih =>
      intro i ch hin H locs ls hP hD hS hl
      have hlt : i < 1024 := by omega
      refine lv_iload_n hx hb dX9_plansOf_9 rfl (lv_at hl 0 rfl) ?_
      refine lv_sipush (v := 1024) hx hb dX9_plansOf_10 (by decide) ?_
      refine lv_icmp_ge (tgt := 151) hx hb dX9_plansOf_13 (by decide) (fun c => absurd c (nI_ge (a := i) (b := 1024) (by omega) (by decide))) (fun _ => ?_)
      refine lv_iconst (v := 0) hx hb dX9_plansOf_16 (by decide) ?_
      refine lv_istore (lv' := [(4, .int 0), (3, .int (nI i)), (0, .ref m0), (1, .int 2), (2, .int p2)]) hx hb dX9_plansOf_17 hl (by decide) rfl (fun ls hl => ?_)
      refine lv_iconst (v := 1) hx hb dX9_plansOf_19 (by decide) ?_
      refine lv_istore (lv' := [(5, .int 1), (4, .int 0), (3, .int (nI i)), (0, .ref m0), (1, .int 2), (2, .int p2)]) hx hb dX9_plansOf_20 hl (by decide) rfl (fun ls hl => ?_)
      refine lv_iconst (v := 0) hx hb dX9_plansOf_22 (by decide) ?_
      refine lv_istore (lv' := [(6, .int 0), (5, .int 1), (4, .int 0), (3, .int (nI i)), (0, .ref m0), (1, .int 2), (2, .int p2)]) hx hb dX9_plansOf_23 hl (by decide) rfl (fun ls hl => ?_)
      have hloop_2 : ∀ (n i2 : Nat) (sz : Nat) (b : Int32) (ch2 : Nat → Int32), i2 + n = 10 → sz ≤ i2 → (b = 0 ∨ (b = 1 ∧ sz = 0)) → ∀ (H : Heap) (locs : List Loc) (ls : Array Slot), va_P G vwCl [(m0, .inr (9, [.ref (r 0), .ref (r 1), .ref (r 2), .int 0, .int (-1), .int (-1), .ref (r 6), .ref (r 7), .ref (r 8), .ref (r 9), .ref (r 10), .ref (r 11), .ref (r 12), .ref (r 13), .int 0, .int 0, .int 0, .int 0, .int 0, .int 0, .int 0, .int 0, .int 0, .ref (r 23), .ref (r 24), .int 0, .ref (r 26), .ref (r 27), .int 0, .int 0, .int 0, .ref (r 31), .ref (r 32), .ref (r 33), .ref (r 34), .ref (r 35), .int 0, .ref (r 37), .ref (r 38), .ref (r 39), .ref (r 40), .ref (r 41), .ref (r 42), .ref (r 43), .ref (r 44), .ref (r 45), .ref (r 46), .int 0, .ref (r 48), .ref (r 49), .ref (r 50), .ref (r 51), .long (-1)])), ((r 48), .inl (cI, 3, .inl ch2))] H → va_D A [(m0, .inr (9, [.ref (r 0), .ref (r 1), .ref (r 2), .int 0, .int (-1), .int (-1), .ref (r 6), .ref (r 7), .ref (r 8), .ref (r 9), .ref (r 10), .ref (r 11), .ref (r 12), .ref (r 13), .int 0, .int 0, .int 0, .int 0, .int 0, .int 0, .int 0, .int 0, .int 0, .ref (r 23), .ref (r 24), .int 0, .ref (r 26), .ref (r 27), .int 0, .int 0, .int 0, .ref (r 31), .ref (r 32), .ref (r 33), .ref (r 34), .ref (r 35), .int 0, .ref (r 37), .ref (r 38), .ref (r 39), .ref (r 40), .ref (r 41), .ref (r 42), .ref (r 43), .ref (r 44), .ref (r 45), .ref (r 46), .int 0, .ref (r 48), .ref (r 49), .ref (r 50), .ref (r 51), .long (-1)])), ((r 48), .inl (cI, 3, .inl ch2))] → va_S A s.heap H locs → lv_has ls 9 [(6, .int (nI i2)), (5, .int b), (4, .int (nI sz)), (3, .int (nI i)), (0, .ref m0), (1, .int 2), (2, .int p2)] → W p l e (gRm 1) s m args below meth c H locs 0 0 (MQ below (va_Qi (fun (r : Int32) (_ : Nat → Int32) => r = 0) (gB G (fun (u : Nat → Int32) => ([(m0, .inr (9, [.ref (r 0), .ref (r 1), .ref (r 2), .int 0, .int (-1), .int (-1), .ref (r 6), .ref (r 7), .ref (r 8), .ref (r 9), .ref (r 10), .ref (r 11), .ref (r 12), .ref (r 13), .int 0, .int 0, .int 0, .int 0, .int 0, .int 0, .int 0, .int 0, .int 0, .ref (r 23), .ref (r 24), .int 0, .ref (r 26), .ref (r 27), .int 0, .int 0, .int 0, .ref (r 31), .ref (r 32), .ref (r 33), .ref (r 34), .ref (r 35), .int 0, .ref (r 37), .ref (r 38), .ref (r 39), .ref (r 40), .ref (r 41), .ref (r 42), .ref (r 43), .ref (r 44), .ref (r 45), .ref (r 46), .int 0, .ref (r 48), .ref (r 49), .ref (r 50), .ref (r 51), .long (-1)])), ((r 48), .inl (cI, 3, .inl u))] : va_W)) A) A) args s 0 0 A) (F0 m 25 ls []) := by
        intro n
        induction n with
        | zero =>
          intro i2 sz b ch2 hin hsz hbz H locs ls hP hD hS hl
          obtain rfl : 10 = i2 := by omega
          have hl : lv_has ls 9 [(6, .int 10), (5, .int b), (4, .int (nI sz)), (3, .int (nI i)), (0, .ref m0), (1, .int 2), (2, .int p2)] := hl
          have hP : va_P G vwCl [(m0, .inr (9, [.ref (r 0), .ref (r 1), .ref (r 2), .int 0, .int (-1), .int (-1), .ref (r 6), .ref (r 7), .ref (r 8), .ref (r 9), .ref (r 10), .ref (r 11), .ref (r 12), .ref (r 13), .int 0, .int 0, .int 0, .int 0, .int 0, .int 0, .int 0, .int 0, .int 0, .ref (r 23), .ref (r 24), .int 0, .ref (r 26), .ref (r 27), .int 0, .int 0, .int 0, .ref (r 31), .ref (r 32), .ref (r 33), .ref (r 34), .ref (r 35), .int 0, .ref (r 37), .ref (r 38), .ref (r 39), .ref (r 40), .ref (r 41), .ref (r 42), .ref (r 43), .ref (r 44), .ref (r 45), .ref (r 46), .int 0, .ref (r 48), .ref (r 49), .ref (r 50), .ref (r 51), .long (-1)])), ((r 48), .inl (cI, 3, .inl ch2))] H := hP
          have hD : va_D A [(m0, .inr (9, [.ref (r 0), .ref (r 1), .ref (r 2), .int 0, .int (-1), .int (-1), .ref (r 6), .ref (r 7), .ref (r 8), .ref (r 9), .ref (r 10), .ref (r 11), .ref (r 12), .ref (r 13), .int 0, .int 0, .int 0, .int 0, .int 0, .int 0, .int 0, .int 0, .int 0, .ref (r 23), .ref (r 24), .int 0, .ref (r 26), .ref (r 27), .int 0, .int 0, .int 0, .ref (r 31), .ref (r 32), .ref (r 33), .ref (r 34), .ref (r 35), .int 0, .ref (r 37), .ref (r 38), .ref (r 39), .ref (r 40), .ref (r 41), .ref (r 42), .ref (r 43), .ref (r 44), .ref (r 45), .ref (r 46), .int 0, .ref (r 48), .ref (r 49), .ref (r 50), .ref (r 51), .long (-1)])), ((r 48), .inl (cI, 3, .inl ch2))] := hD
          refine lv_iload hx hb dX9_plansOf_25 (lv_at hl 0 rfl) ?_
          refine lv_bipush (v := 10) hx hb dX9_plansOf_27 (by decide) ?_
          refine lv_icmp_ge (tgt := 128) hx hb dX9_plansOf_29 (by decide) (fun _ => ?_) (fun c => absurd (by decide) c)
          refine lv_iload hx hb dX9_plansOf_128 (lv_at hl 1 rfl) ?_
          refine lv_if_eq (tgt := 145) hx hb dX9_plansOf_130 (by decide) (fun c_3 => ?_) (fun c_3 => ?_)
          · refine lv_iinc (v := (nI (i + 1))) (lv' := [(3, .int (nI (i + 1))), (6, .int 10), (5, .int b), (4, .int (nI sz)), (0, .ref m0), (1, .int 2), (2, .int p2)]) hx hb dX9_plansOf_145 hl (k := 3) rfl (nI_1 i) (by decide) rfl (fun ls hl => ?_)
            refine lv_goto (tgt := 9) hx hb dX9_plansOf_148 (by decide) ?_
            exact ih (i + 1) ch2 (by omega)  H _ ls hP hD hS (lv_sub hl [0, 4, 5, 6] rfl)
          · obtain rfl : sz = 0 := (hbz.resolve_left c_3).2
            have hl : lv_has ls 9 [(6, .int 10), (5, .int b), (4, .int 0), (3, .int (nI i)), (0, .ref m0), (1, .int 2), (2, .int p2)] := hl
            refine lv_iload hx hb dX9_plansOf_133 (lv_at hl 2 rfl) ?_
            refine lv_iload_n hx hb dX9_plansOf_135 rfl (lv_at hl 5 rfl) ?_
            refine lv_icmp_ne (tgt := 145) hx hb dX9_plansOf_136 (by decide) (fun _ => ?_) (fun c => absurd c (by decide))
            refine lv_iinc (v := (nI (i + 1))) (lv' := [(3, .int (nI (i + 1))), (6, .int 10), (5, .int b), (4, .int 0), (0, .ref m0), (1, .int 2), (2, .int p2)]) hx hb dX9_plansOf_145 hl (k := 3) rfl (nI_1 i) (by decide) rfl (fun ls hl => ?_)
            refine lv_goto (tgt := 9) hx hb dX9_plansOf_148 (by decide) ?_
            exact ih (i + 1) ch2 (by omega)  H _ ls hP hD hS (lv_sub hl [0, 4, 5, 6] rfl)
        | succ n ih =>
          intro i2 sz b ch2 hin hsz hbz H locs ls hP hD hS hl
          have hlt : i2 < 10 := by omega
          refine lv_iload hx hb dX9_plansOf_25 (lv_at hl 0 rfl) ?_
          refine lv_bipush (v := 10) hx hb dX9_plansOf_27 (by decide) ?_
          refine lv_icmp_ge (tgt := 128) hx hb dX9_plansOf_29 (by decide) (fun c => absurd c (nI_ge (a := i2) (b := 10) (by omega) (by decide))) (fun _ => ?_)
          refine lv_iload_n hx hb dX9_plansOf_32 rfl (lv_at hl 3 rfl) ?_
          refine lv_iload hx hb dX9_plansOf_33 (lv_at hl 0 rfl) ?_
          refine lv_ishr hx hb dX9_plansOf_35 ?_
          refine lv_iconst (v := 1) hx hb dX9_plansOf_36 (by decide) ?_
          refine lv_iand hx hb dX9_plansOf_37 ?_
          refine lv_iconst (v := 1) hx hb dX9_plansOf_38 (by decide) ?_
          refine lv_icmp_ne (tgt := 122) hx hb dX9_plansOf_39 (by decide) (fun c_4 => ?_) (fun c_4 => ?_)
          · refine lv_iinc (v := (nI (i2 + 1))) (lv' := [(6, .int (nI (i2 + 1))), (5, .int b), (4, .int (nI sz)), (3, .int (nI i)), (0, .ref m0), (1, .int 2), (2, .int p2)]) hx hb dX9_plansOf_122 hl (k := 0) rfl (nI_1 i2) (by decide) rfl (fun ls hl => ?_)
            refine lv_goto (tgt := 25) hx hb dX9_plansOf_125 (by decide) ?_
            exact ih (i2 + 1) sz b ch2 (by omega) (by omega) hbz H _ ls hP hD hS (lv_sub hl [0, 1, 2, 3, 4, 5, 6] rfl)
          · refine lv_iconst (v := 0) hx hb dX9_plansOf_42 (by decide) ?_
            refine lv_istore (lv' := [(7, .int 0), (6, .int (nI i2)), (5, .int b), (4, .int (nI sz)), (3, .int (nI i)), (0, .ref m0), (1, .int 2), (2, .int p2)]) hx hb dX9_plansOf_43 hl (by decide) rfl (fun ls hl => ?_)
            refine lv_iconst (v := 0) hx hb dX9_plansOf_45 (by decide) ?_
            refine lv_istore (lv' := [(8, .int 0), (7, .int 0), (6, .int (nI i2)), (5, .int b), (4, .int (nI sz)), (3, .int (nI i)), (0, .ref m0), (1, .int 2), (2, .int p2)]) hx hb dX9_plansOf_46 hl (by decide) rfl (fun ls hl => ?_)
            refine lv_iload hx hb dX9_plansOf_48 (lv_at hl 0 rfl) ?_
            refine lv_aload_n hx hb dX9_plansOf_50 rfl (lv_at hl 6 rfl) ?_
            refine va_get (D := G) (ci := 9) (v := .int 0) (C := RX9) (T := TX9) (N := 53) hx hb hts iX9 hown hK hP 0 rfl rfl 47 (by decide) (hts _ m_275) (fun _ h9 => h9) rfl dX9_plansOf_51 ?_
            refine lv_icmp_ge (tgt := 87) hx hb dX9_plansOf_54 (by decide) (fun _ => ?_) (fun c => absurd (by decide) c)
            refine lv_iload hx hb dX9_plansOf_87 (lv_at hl 3 rfl) ?_
            refine lv_if_eq (tgt := 101) hx hb dX9_plansOf_89 (by decide) (fun c_5 => ?_) (fun c_5 => ?_)
            · refine lv_iconst (v := 0) hx hb dX9_plansOf_101 (by decide) ?_
              refine lv_istore (lv' := [(5, .int 0), (8, .int 0), (7, .int 0), (6, .int (nI i2)), (4, .int (nI sz)), (3, .int (nI i)), (0, .ref m0), (1, .int 2), (2, .int p2)]) hx hb dX9_plansOf_102 hl (by decide) rfl (fun ls hl => ?_)
              refine lv_iload hx hb dX9_plansOf_104 (lv_at hl 4 rfl) ?_
              refine lv_iconst (v := 3) hx hb dX9_plansOf_106 (by decide) ?_
              refine lv_icmp_ge (tgt := 119) hx hb dX9_plansOf_107 (by decide) (fun c_6 => ?_) (fun c_6 => ?_)
              · refine lv_iinc (v := (nI (sz + 1))) (lv' := [(4, .int (nI (sz + 1))), (5, .int 0), (8, .int 0), (7, .int 0), (6, .int (nI i2)), (3, .int (nI i)), (0, .ref m0), (1, .int 2), (2, .int p2)]) hx hb dX9_plansOf_119 hl (k := 4) rfl (nI_1 sz) (by decide) rfl (fun ls hl => ?_)
                refine lv_iinc (v := (nI (i2 + 1))) (lv' := [(6, .int (nI (i2 + 1))), (4, .int (nI (sz + 1))), (5, .int 0), (8, .int 0), (7, .int 0), (3, .int (nI i)), (0, .ref m0), (1, .int 2), (2, .int p2)]) hx hb dX9_plansOf_122 hl (k := 4) rfl (nI_1 i2) (by decide) rfl (fun ls hl => ?_)
                refine lv_goto (tgt := 25) hx hb dX9_plansOf_125 (by decide) ?_
                exact ih (i2 + 1) (sz + 1) 0 ch2 (by omega) (by omega) (Or.inl rfl) H _ ls hP hD hS (lv_sub hl [0, 2, 1, 5, 6, 7, 8] rfl)
              · have hsz3 : sz < 3 := by
                  rcases Nat.lt_or_ge sz 3 with h9 | h9
                  · exact h9
                  · exact absurd (nI_le (a := 3) (b := sz) h9 (by omega)) c_6
                refine lv_aload_n hx hb dX9_plansOf_110 rfl (lv_at hl 6 rfl) ?_
                refine va_get (D := G) (ci := 9) (v := .ref (r 48)) (C := RX9) (T := TX9) (N := 53) hx hb hts iX9 hown hK hP 0 rfl rfl 48 (by decide) (hts _ m_276) (fun _ h9 => h9) rfl dX9_plansOf_111 ?_
                refine lv_iload hx hb dX9_plansOf_114 (lv_at hl 4 rfl) ?_
                refine lv_iload hx hb dX9_plansOf_116 (lv_at hl 3 rfl) ?_
                refine gw_iast hx hb hK hP hD hS 1 0 sz rfl rfl rfl (by omega) (by decide) dX9_plansOf_118 (fun H locs hP hD hS => ?_)
                have hP : va_P G vwCl [(m0, .inr (9, [.ref (r 0), .ref (r 1), .ref (r 2), .int 0, .int (-1), .int (-1), .ref (r 6), .ref (r 7), .ref (r 8), .ref (r 9), .ref (r 10), .ref (r 11), .ref (r 12), .ref (r 13), .int 0, .int 0, .int 0, .int 0, .int 0, .int 0, .int 0, .int 0, .int 0, .ref (r 23), .ref (r 24), .int 0, .ref (r 26), .ref (r 27), .int 0, .int 0, .int 0, .ref (r 31), .ref (r 32), .ref (r 33), .ref (r 34), .ref (r 35), .int 0, .ref (r 37), .ref (r 38), .ref (r 39), .ref (r 40), .ref (r 41), .ref (r 42), .ref (r 43), .ref (r 44), .ref (r 45), .ref (r 46), .int 0, .ref (r 48), .ref (r 49), .ref (r 50), .ref (r 51), .long (-1)])), ((r 48), .inl (cI, 3, .inl (upd ch2 sz (nI i2))))] H := hP
                have hD : va_D A [(m0, .inr (9, [.ref (r 0), .ref (r 1), .ref (r 2), .int 0, .int (-1), .int (-1), .ref (r 6), .ref (r 7), .ref (r 8), .ref (r 9), .ref (r 10), .ref (r 11), .ref (r 12), .ref (r 13), .int 0, .int 0, .int 0, .int 0, .int 0, .int 0, .int 0, .int 0, .int 0, .ref (r 23), .ref (r 24), .int 0, .ref (r 26), .ref (r 27), .int 0, .int 0, .int 0, .ref (r 31), .ref (r 32), .ref (r 33), .ref (r 34), .ref (r 35), .int 0, .ref (r 37), .ref (r 38), .ref (r 39), .ref (r 40), .ref (r 41), .ref (r 42), .ref (r 43), .ref (r 44), .ref (r 45), .ref (r 46), .int 0, .ref (r 48), .ref (r 49), .ref (r 50), .ref (r 51), .long (-1)])), ((r 48), .inl (cI, 3, .inl (upd ch2 sz (nI i2))))] := hD
                refine lv_iinc (v := (nI (sz + 1))) (lv' := [(4, .int (nI (sz + 1))), (5, .int 0), (8, .int 0), (7, .int 0), (6, .int (nI i2)), (3, .int (nI i)), (0, .ref m0), (1, .int 2), (2, .int p2)]) hx hb dX9_plansOf_119 hl (k := 4) rfl (nI_1 sz) (by decide) rfl (fun ls hl => ?_)
                refine lv_iinc (v := (nI (i2 + 1))) (lv' := [(6, .int (nI (i2 + 1))), (4, .int (nI (sz + 1))), (5, .int 0), (8, .int 0), (7, .int 0), (3, .int (nI i)), (0, .ref m0), (1, .int 2), (2, .int p2)]) hx hb dX9_plansOf_122 hl (k := 4) rfl (nI_1 i2) (by decide) rfl (fun ls hl => ?_)
                refine lv_goto (tgt := 25) hx hb dX9_plansOf_125 (by decide) ?_
                exact ih (i2 + 1) (sz + 1) 0 (upd ch2 sz (nI i2)) (by omega) (by omega) (Or.inl rfl) H _ ls hP hD hS (lv_sub hl [0, 2, 1, 5, 6, 7, 8] rfl)
            · refine lv_iload hx hb dX9_plansOf_92 (lv_at hl 1 rfl) ?_
              refine lv_if_eq (tgt := 101) hx hb dX9_plansOf_94 (by decide) (fun _ => ?_) (fun c => absurd (by decide) c)
              refine lv_iconst (v := 0) hx hb dX9_plansOf_101 (by decide) ?_
              refine lv_istore (lv' := [(5, .int 0), (8, .int 0), (7, .int 0), (6, .int (nI i2)), (4, .int (nI sz)), (3, .int (nI i)), (0, .ref m0), (1, .int 2), (2, .int p2)]) hx hb dX9_plansOf_102 hl (by decide) rfl (fun ls hl => ?_)
              refine lv_iload hx hb dX9_plansOf_104 (lv_at hl 4 rfl) ?_
              refine lv_iconst (v := 3) hx hb dX9_plansOf_106 (by decide) ?_
              refine lv_icmp_ge (tgt := 119) hx hb dX9_plansOf_107 (by decide) (fun c_7 => ?_) (fun c_7 => ?_)
              · refine lv_iinc (v := (nI (sz + 1))) (lv' := [(4, .int (nI (sz + 1))), (5, .int 0), (8, .int 0), (7, .int 0), (6, .int (nI i2)), (3, .int (nI i)), (0, .ref m0), (1, .int 2), (2, .int p2)]) hx hb dX9_plansOf_119 hl (k := 4) rfl (nI_1 sz) (by decide) rfl (fun ls hl => ?_)
                refine lv_iinc (v := (nI (i2 + 1))) (lv' := [(6, .int (nI (i2 + 1))), (4, .int (nI (sz + 1))), (5, .int 0), (8, .int 0), (7, .int 0), (3, .int (nI i)), (0, .ref m0), (1, .int 2), (2, .int p2)]) hx hb dX9_plansOf_122 hl (k := 4) rfl (nI_1 i2) (by decide) rfl (fun ls hl => ?_)
                refine lv_goto (tgt := 25) hx hb dX9_plansOf_125 (by decide) ?_
                exact ih (i2 + 1) (sz + 1) 0 ch2 (by omega) (by omega) (Or.inl rfl) H _ ls hP hD hS (lv_sub hl [0, 2, 1, 5, 6, 7, 8] rfl)
              · have hsz3 : sz < 3 := by
                  rcases Nat.lt_or_ge sz 3 with h9 | h9
                  · exact h9
                  · exact absurd (nI_le (a := 3) (b := sz) h9 (by omega)) c_7
                refine lv_aload_n hx hb dX9_plansOf_110 rfl (lv_at hl 6 rfl) ?_
                refine va_get (D := G) (ci := 9) (v := .ref (r 48)) (C := RX9) (T := TX9) (N := 53) hx hb hts iX9 hown hK hP 0 rfl rfl 48 (by decide) (hts _ m_276) (fun _ h9 => h9) rfl dX9_plansOf_111 ?_
                refine lv_iload hx hb dX9_plansOf_114 (lv_at hl 4 rfl) ?_
                refine lv_iload hx hb dX9_plansOf_116 (lv_at hl 3 rfl) ?_
                refine gw_iast hx hb hK hP hD hS 1 0 sz rfl rfl rfl (by omega) (by decide) dX9_plansOf_118 (fun H locs hP hD hS => ?_)
                have hP : va_P G vwCl [(m0, .inr (9, [.ref (r 0), .ref (r 1), .ref (r 2), .int 0, .int (-1), .int (-1), .ref (r 6), .ref (r 7), .ref (r 8), .ref (r 9), .ref (r 10), .ref (r 11), .ref (r 12), .ref (r 13), .int 0, .int 0, .int 0, .int 0, .int 0, .int 0, .int 0, .int 0, .int 0, .ref (r 23), .ref (r 24), .int 0, .ref (r 26), .ref (r 27), .int 0, .int 0, .int 0, .ref (r 31), .ref (r 32), .ref (r 33), .ref (r 34), .ref (r 35), .int 0, .ref (r 37), .ref (r 38), .ref (r 39), .ref (r 40), .ref (r 41), .ref (r 42), .ref (r 43), .ref (r 44), .ref (r 45), .ref (r 46), .int 0, .ref (r 48), .ref (r 49), .ref (r 50), .ref (r 51), .long (-1)])), ((r 48), .inl (cI, 3, .inl (upd ch2 sz (nI i2))))] H := hP
                have hD : va_D A [(m0, .inr (9, [.ref (r 0), .ref (r 1), .ref (r 2), .int 0, .int (-1), .int (-1), .ref (r 6), .ref (r 7), .ref (r 8), .ref (r 9), .ref (r 10), .ref (r 11), .ref (r 12), .ref (r 13), .int 0, .int 0, .int 0, .int 0, .int 0, .int 0, .int 0, .int 0, .int 0, .ref (r 23), .ref (r 24), .int 0, .ref (r 26), .ref (r 27), .int 0, .int 0, .int 0, .ref (r 31), .ref (r 32), .ref (r 33), .ref (r 34), .ref (r 35), .int 0, .ref (r 37), .ref (r 38), .ref (r 39), .ref (r 40), .ref (r 41), .ref (r 42), .ref (r 43), .ref (r 44), .ref (r 45), .ref (r 46), .int 0, .ref (r 48), .ref (r 49), .ref (r 50), .ref (r 51), .long (-1)])), ((r 48), .inl (cI, 3, .inl (upd ch2 sz (nI i2))))] := hD
                refine lv_iinc (v := (nI (sz + 1))) (lv' := [(4, .int (nI (sz + 1))), (5, .int 0), (8, .int 0), (7, .int 0), (6, .int (nI i2)), (3, .int (nI i)), (0, .ref m0), (1, .int 2), (2, .int p2)]) hx hb dX9_plansOf_119 hl (k := 4) rfl (nI_1 sz) (by decide) rfl (fun ls hl => ?_)
                refine lv_iinc (v := (nI (i2 + 1))) (lv' := [(6, .int (nI (i2 + 1))), (4, .int (nI (sz + 1))), (5, .int 0), (8, .int 0), (7, .int 0), (3, .int (nI i)), (0, .ref m0), (1, .int 2), (2, .int p2)]) hx hb dX9_plansOf_122 hl (k := 4) rfl (nI_1 i2) (by decide) rfl (fun ls hl => ?_)
                refine lv_goto (tgt := 25) hx hb dX9_plansOf_125 (by decide) ?_
                exact ih (i2 + 1) (sz + 1) 0 (upd ch2 sz (nI i2)) (by omega) (by omega) (Or.inl rfl) H _ ls hP hD hS (lv_sub hl [0, 2, 1, 5, 6, 7, 8] rfl)
      exact hloop_2 10 0 0 1 ch (by omega) (by omega) (Or.inr ⟨rfl, rfl⟩) H _ ls hP hD hS (lv_sub hl [0, 1, 2, 3, 4, 5, 6] rfl)
  exact hloop_1 1024 0 ch0 (by omega)  H _ ls hP hD hS (lv_sub hl [0, 1, 2, 3] rfl)
set_option maxHeartbeats 4000000 in
set_option maxRecDepth 100000 in
theorem c_plansOf3 (l : Launch) (G : va_G) (cI cJ cZ cB cT : ClassId) (m0 : Nat) (r : Nat → Nat) (ch0 : Nat → Int32) (be : Int64) (p2 : Int32)  : gMi l yX9_plansOf (gws yX9_plansOf cX9_plansOf 9 (some .boolean)) 1 G (gT cI cJ cZ cB cT) [.ref m0, .int 3, .int p2] [(m0, .inr (9, [.ref (r 0), .ref (r 1), .ref (r 2), .int 0, .int (-1), .int (-1), .ref (r 6), .ref (r 7), .ref (r 8), .ref (r 9), .ref (r 10), .ref (r 11), .ref (r 12), .ref (r 13), .int 0, .int 0, .int 0, .int 0, .int 0, .int 0, .int 0, .int 0, .int 0, .ref (r 23), .ref (r 24), .int 0, .ref (r 26), .ref (r 27), .int 0, .int 0, .int 0, .ref (r 31), .ref (r 32), .ref (r 33), .ref (r 34), .ref (r 35), .int 0, .ref (r 37), .ref (r 38), .ref (r 39), .ref (r 40), .ref (r 41), .ref (r 42), .ref (r 43), .ref (r 44), .ref (r 45), .ref (r 46), .int 0, .ref (r 48), .ref (r 49), .ref (r 50), .ref (r 51), .long be])), ((r 48), .inl (cI, 3, .inl ch0))] (fun (r : Int32) (_ : Nat → Int32) => r = 0) (fun (u : Nat → Int32) => ([(m0, .inr (9, [.ref (r 0), .ref (r 1), .ref (r 2), .int 0, .int (-1), .int (-1), .ref (r 6), .ref (r 7), .ref (r 8), .ref (r 9), .ref (r 10), .ref (r 11), .ref (r 12), .ref (r 13), .int 0, .int 0, .int 0, .int 0, .int 0, .int 0, .int 0, .int 0, .int 0, .ref (r 23), .ref (r 24), .int 0, .ref (r 26), .ref (r 27), .int 0, .int 0, .int 0, .ref (r 31), .ref (r 32), .ref (r 33), .ref (r 34), .ref (r 35), .int 0, .ref (r 37), .ref (r 38), .ref (r 39), .ref (r 40), .ref (r 41), .ref (r 42), .ref (r 43), .ref (r 44), .ref (r 45), .ref (r 46), .int 0, .ref (r 48), .ref (r 49), .ref (r 50), .ref (r 51), .long (-1)])), ((r 48), .inl (cI, 3, .inl u))] : va_W)) := by
  intro sz
  refine gM_start (y := yX9_plansOf) (av := [.ref m0, .int 3, .int p2]) (ws := [(m0, .inr (9, [.ref (r 0), .ref (r 1), .ref (r 2), .int 0, .int (-1), .int (-1), .ref (r 6), .ref (r 7), .ref (r 8), .ref (r 9), .ref (r 10), .ref (r 11), .ref (r 12), .ref (r 13), .int 0, .int 0, .int 0, .int 0, .int 0, .int 0, .int 0, .int 0, .int 0, .ref (r 23), .ref (r 24), .int 0, .ref (r 26), .ref (r 27), .int 0, .int 0, .int 0, .ref (r 31), .ref (r 32), .ref (r 33), .ref (r 34), .ref (r 35), .int 0, .ref (r 37), .ref (r 38), .ref (r 39), .ref (r 40), .ref (r 41), .ref (r 42), .ref (r 43), .ref (r 44), .ref (r 45), .ref (r 46), .int 0, .ref (r 48), .ref (r 49), .ref (r 50), .ref (r 51), .long be])), ((r 48), .inl (cI, 3, .inl ch0))]) (Qf := fun A => va_Qi (fun (r : Int32) (_ : Nat → Int32) => r = 0) (gB G (fun (u : Nat → Int32) => ([(m0, .inr (9, [.ref (r 0), .ref (r 1), .ref (r 2), .int 0, .int (-1), .int (-1), .ref (r 6), .ref (r 7), .ref (r 8), .ref (r 9), .ref (r 10), .ref (r 11), .ref (r 12), .ref (r 13), .int 0, .int 0, .int 0, .int 0, .int 0, .int 0, .int 0, .int 0, .int 0, .ref (r 23), .ref (r 24), .int 0, .ref (r 26), .ref (r 27), .int 0, .int 0, .int 0, .ref (r 31), .ref (r 32), .ref (r 33), .ref (r 34), .ref (r 35), .int 0, .ref (r 37), .ref (r 38), .ref (r 39), .ref (r 40), .ref (r 41), .ref (r 42), .ref (r 43), .ref (r 44), .ref (r 45), .ref (r 46), .int 0, .ref (r 48), .ref (r 49), .ref (r 50), .ref (r 51), .long (-1)])), ((r 48), .inl (cI, 3, .inl u))] : va_W)) A) A) (cc := cX9_plansOf) (maxL := 9) (ret := (some .boolean)) (by decide) (Nat.le_of_ble_eq_true rfl) ?_
  intro p e s m args below meth c A ls H hx hb hr hts hown hin hlocks hml hP hK hD hA hS hl
  have hl : lv_has ls 9 [(0, .ref m0), (1, .int 3), (2, .int p2)] := hl
  refine lv_aload_n hx hb dX9_plansOf_0 rfl (lv_at hl 0 rfl) ?_
  refine lv_ldc2 (v := (-1)) hx hb hown (hts _ m_244) dX9_plansOf_1 ?_
  refine va_put (D := G) (ci := 9) (v := .long (-1)) (ty := .long) (C := RX9) (T := TX9) (N := 53) hx hb hts iX9 tyX9 tyX9_ok nmX9 hown hK hP hD hS 0 rfl rfl 52 (by decide) (hts _ m_274) (fun _ h9 => h9) rfl (tyX9_ok 52 (by decide)) rfl rfl (Nat.le_of_ble_eq_true rfl) dX9_plansOf_4 (fun H locs hP hD hS => ?_)
  have hP : va_P G vwCl [(m0, .inr (9, [.ref (r 0), .ref (r 1), .ref (r 2), .int 0, .int (-1), .int (-1), .ref (r 6), .ref (r 7), .ref (r 8), .ref (r 9), .ref (r 10), .ref (r 11), .ref (r 12), .ref (r 13), .int 0, .int 0, .int 0, .int 0, .int 0, .int 0, .int 0, .int 0, .int 0, .ref (r 23), .ref (r 24), .int 0, .ref (r 26), .ref (r 27), .int 0, .int 0, .int 0, .ref (r 31), .ref (r 32), .ref (r 33), .ref (r 34), .ref (r 35), .int 0, .ref (r 37), .ref (r 38), .ref (r 39), .ref (r 40), .ref (r 41), .ref (r 42), .ref (r 43), .ref (r 44), .ref (r 45), .ref (r 46), .int 0, .ref (r 48), .ref (r 49), .ref (r 50), .ref (r 51), .long (-1)])), ((r 48), .inl (cI, 3, .inl ch0))] H := hP
  have hD : va_D A [(m0, .inr (9, [.ref (r 0), .ref (r 1), .ref (r 2), .int 0, .int (-1), .int (-1), .ref (r 6), .ref (r 7), .ref (r 8), .ref (r 9), .ref (r 10), .ref (r 11), .ref (r 12), .ref (r 13), .int 0, .int 0, .int 0, .int 0, .int 0, .int 0, .int 0, .int 0, .int 0, .ref (r 23), .ref (r 24), .int 0, .ref (r 26), .ref (r 27), .int 0, .int 0, .int 0, .ref (r 31), .ref (r 32), .ref (r 33), .ref (r 34), .ref (r 35), .int 0, .ref (r 37), .ref (r 38), .ref (r 39), .ref (r 40), .ref (r 41), .ref (r 42), .ref (r 43), .ref (r 44), .ref (r 45), .ref (r 46), .int 0, .ref (r 48), .ref (r 49), .ref (r 50), .ref (r 51), .long (-1)])), ((r 48), .inl (cI, 3, .inl ch0))] := hD
  refine lv_iconst (v := 0) hx hb dX9_plansOf_7 (by decide) ?_
  refine lv_istore_n (lv' := [(3, .int 0), (0, .ref m0), (1, .int 3), (2, .int p2)]) hx hb dX9_plansOf_8 rfl hl (by decide) rfl (fun ls hl => ?_)
  have hloop_1 : ∀ (n i : Nat) (ch : Nat → Int32), i + n = 1024 → ∀ (H : Heap) (locs : List Loc) (ls : Array Slot), va_P G vwCl [(m0, .inr (9, [.ref (r 0), .ref (r 1), .ref (r 2), .int 0, .int (-1), .int (-1), .ref (r 6), .ref (r 7), .ref (r 8), .ref (r 9), .ref (r 10), .ref (r 11), .ref (r 12), .ref (r 13), .int 0, .int 0, .int 0, .int 0, .int 0, .int 0, .int 0, .int 0, .int 0, .ref (r 23), .ref (r 24), .int 0, .ref (r 26), .ref (r 27), .int 0, .int 0, .int 0, .ref (r 31), .ref (r 32), .ref (r 33), .ref (r 34), .ref (r 35), .int 0, .ref (r 37), .ref (r 38), .ref (r 39), .ref (r 40), .ref (r 41), .ref (r 42), .ref (r 43), .ref (r 44), .ref (r 45), .ref (r 46), .int 0, .ref (r 48), .ref (r 49), .ref (r 50), .ref (r 51), .long (-1)])), ((r 48), .inl (cI, 3, .inl ch))] H → va_D A [(m0, .inr (9, [.ref (r 0), .ref (r 1), .ref (r 2), .int 0, .int (-1), .int (-1), .ref (r 6), .ref (r 7), .ref (r 8), .ref (r 9), .ref (r 10), .ref (r 11), .ref (r 12), .ref (r 13), .int 0, .int 0, .int 0, .int 0, .int 0, .int 0, .int 0, .int 0, .int 0, .ref (r 23), .ref (r 24), .int 0, .ref (r 26), .ref (r 27), .int 0, .int 0, .int 0, .ref (r 31), .ref (r 32), .ref (r 33), .ref (r 34), .ref (r 35), .int 0, .ref (r 37), .ref (r 38), .ref (r 39), .ref (r 40), .ref (r 41), .ref (r 42), .ref (r 43), .ref (r 44), .ref (r 45), .ref (r 46), .int 0, .ref (r 48), .ref (r 49), .ref (r 50), .ref (r 51), .long (-1)])), ((r 48), .inl (cI, 3, .inl ch))] → va_S A s.heap H locs → lv_has ls 9 [(3, .int (nI i)), (0, .ref m0), (1, .int 3), (2, .int p2)] → W p l e (gRm 1) s m args below meth c H locs 0 0 (MQ below (va_Qi (fun (r : Int32) (_ : Nat → Int32) => r = 0) (gB G (fun (u : Nat → Int32) => ([(m0, .inr (9, [.ref (r 0), .ref (r 1), .ref (r 2), .int 0, .int (-1), .int (-1), .ref (r 6), .ref (r 7), .ref (r 8), .ref (r 9), .ref (r 10), .ref (r 11), .ref (r 12), .ref (r 13), .int 0, .int 0, .int 0, .int 0, .int 0, .int 0, .int 0, .int 0, .int 0, .ref (r 23), .ref (r 24), .int 0, .ref (r 26), .ref (r 27), .int 0, .int 0, .int 0, .ref (r 31), .ref (r 32), .ref (r 33), .ref (r 34), .ref (r 35), .int 0, .ref (r 37), .ref (r 38), .ref (r 39), .ref (r 40), .ref (r 41), .ref (r 42), .ref (r 43), .ref (r 44), .ref (r 45), .ref (r 46), .int 0, .ref (r 48), .ref (r 49), .ref (r 50), .ref (r 51), .long (-1)])), ((r 48), .inl (cI, 3, .inl u))] : va_W)) A) A) args s 0 0 A) (F0 m 9 ls []) := by
    intro n
    induction n with
    | zero =>
      intro i ch hin H locs ls hP hD hS hl
      obtain rfl : 1024 = i := by omega
      have hl : lv_has ls 9 [(3, .int 1024), (0, .ref m0), (1, .int 3), (2, .int p2)] := hl
      have hP : va_P G vwCl [(m0, .inr (9, [.ref (r 0), .ref (r 1), .ref (r 2), .int 0, .int (-1), .int (-1), .ref (r 6), .ref (r 7), .ref (r 8), .ref (r 9), .ref (r 10), .ref (r 11), .ref (r 12), .ref (r 13), .int 0, .int 0, .int 0, .int 0, .int 0, .int 0, .int 0, .int 0, .int 0, .ref (r 23), .ref (r 24), .int 0, .ref (r 26), .ref (r 27), .int 0, .int 0, .int 0, .ref (r 31), .ref (r 32), .ref (r 33), .ref (r 34), .ref (r 35), .int 0, .ref (r 37), .ref (r 38), .ref (r 39), .ref (r 40), .ref (r 41), .ref (r 42), .ref (r 43), .ref (r 44), .ref (r 45), .ref (r 46), .int 0, .ref (r 48), .ref (r 49), .ref (r 50), .ref (r 51), .long (-1)])), ((r 48), .inl (cI, 3, .inl ch))] H := hP
      have hD : va_D A [(m0, .inr (9, [.ref (r 0), .ref (r 1), .ref (r 2), .int 0, .int (-1), .int (-1), .ref (r 6), .ref (r 7), .ref (r 8), .ref (r 9), .ref (r 10), .ref (r 11), .ref (r 12), .ref (r 13), .int 0, .int 0, .int 0, .int 0, .int 0, .int 0, .int 0, .int 0, .int 0, .ref (r 23), .ref (r 24), .int 0, .ref (r 26), .ref (r 27), .int 0, .int 0, .int 0, .ref (r 31), .ref (r 32), .ref (r 33), .ref (r 34), .ref (r 35), .int 0, .ref (r 37), .ref (r 38), .ref (r 39), .ref (r 40), .ref (r 41), .ref (r 42), .ref (r 43), .ref (r 44), .ref (r 45), .ref (r 46), .int 0, .ref (r 48), .ref (r 49), .ref (r 50), .ref (r 51), .long (-1)])), ((r 48), .inl (cI, 3, .inl ch))] := hD
      refine lv_iload_n hx hb dX9_plansOf_9 rfl (lv_at hl 0 rfl) ?_
      refine lv_sipush (v := 1024) hx hb dX9_plansOf_10 (by decide) ?_
      refine lv_icmp_ge (tgt := 151) hx hb dX9_plansOf_13 (by decide) (fun _ => ?_) (fun c => absurd (by decide) c)
      refine lv_aload_n hx hb dX9_plansOf_151 rfl (lv_at hl 1 rfl) ?_
      refine va_get (D := G) (ci := 9) (v := .long (-1)) (C := RX9) (T := TX9) (N := 53) hx hb hts iX9 hown hK hP 0 rfl rfl 52 (by decide) (hts _ m_274) (fun _ h9 => h9) rfl dX9_plansOf_152 ?_
      refine lv_ldc2 (v := (-1)) hx hb hown (hts _ m_244) dX9_plansOf_155 ?_
      refine W.lcmp hx hb dX9_plansOf_158 ?_
      refine gw_topi (y := 0) (by decide) ?_
      refine lv_if_eq (tgt := 166) hx hb dX9_plansOf_159 (by decide) (fun _ => ?_) (fun c => absurd (by decide) c)
      refine lv_iconst (v := 0) hx hb dX9_plansOf_166 (by decide) ?_
      exact gw_zret ch hx hb hr hlocks rfl hP hD hS rfl dX9_plansOf_167
    | succ n ih =>
      intro i ch hin H locs ls hP hD hS hl
      have hlt : i < 1024 := by omega
      refine lv_iload_n hx hb dX9_plansOf_9 rfl (lv_at hl 0 rfl) ?_
      refine lv_sipush (v := 1024) hx hb dX9_plansOf_10 (by decide) ?_
      refine lv_icmp_ge (tgt := 151) hx hb dX9_plansOf_13 (by decide) (fun c => absurd c (nI_ge (a := i) (b := 1024) (by omega) (by decide))) (fun _ => ?_)
      refine lv_iconst (v := 0) hx hb dX9_plansOf_16 (by decide) ?_
      refine lv_istore (lv' := [(4, .int 0), (3, .int (nI i)), (0, .ref m0), (1, .int 3), (2, .int p2)]) hx hb dX9_plansOf_17 hl (by decide) rfl (fun ls hl => ?_)
      refine lv_iconst (v := 1) hx hb dX9_plansOf_19 (by decide) ?_
      refine lv_istore (lv' := [(5, .int 1), (4, .int 0), (3, .int (nI i)), (0, .ref m0), (1, .int 3), (2, .int p2)]) hx hb dX9_plansOf_20 hl (by decide) rfl (fun ls hl => ?_)
      refine lv_iconst (v := 0) hx hb dX9_plansOf_22 (by decide) ?_
      refine lv_istore (lv' := [(6, .int 0), (5, .int 1), (4, .int 0), (3, .int (nI i)), (0, .ref m0), (1, .int 3), (2, .int p2)]) hx hb dX9_plansOf_23 hl (by decide) rfl (fun ls hl => ?_)
      have hloop_2 : ∀ (n i2 : Nat) (sz : Nat) (b : Int32) (ch2 : Nat → Int32), i2 + n = 10 → sz ≤ i2 → (b = 0 ∨ (b = 1 ∧ sz = 0)) → ∀ (H : Heap) (locs : List Loc) (ls : Array Slot), va_P G vwCl [(m0, .inr (9, [.ref (r 0), .ref (r 1), .ref (r 2), .int 0, .int (-1), .int (-1), .ref (r 6), .ref (r 7), .ref (r 8), .ref (r 9), .ref (r 10), .ref (r 11), .ref (r 12), .ref (r 13), .int 0, .int 0, .int 0, .int 0, .int 0, .int 0, .int 0, .int 0, .int 0, .ref (r 23), .ref (r 24), .int 0, .ref (r 26), .ref (r 27), .int 0, .int 0, .int 0, .ref (r 31), .ref (r 32), .ref (r 33), .ref (r 34), .ref (r 35), .int 0, .ref (r 37), .ref (r 38), .ref (r 39), .ref (r 40), .ref (r 41), .ref (r 42), .ref (r 43), .ref (r 44), .ref (r 45), .ref (r 46), .int 0, .ref (r 48), .ref (r 49), .ref (r 50), .ref (r 51), .long (-1)])), ((r 48), .inl (cI, 3, .inl ch2))] H → va_D A [(m0, .inr (9, [.ref (r 0), .ref (r 1), .ref (r 2), .int 0, .int (-1), .int (-1), .ref (r 6), .ref (r 7), .ref (r 8), .ref (r 9), .ref (r 10), .ref (r 11), .ref (r 12), .ref (r 13), .int 0, .int 0, .int 0, .int 0, .int 0, .int 0, .int 0, .int 0, .int 0, .ref (r 23), .ref (r 24), .int 0, .ref (r 26), .ref (r 27), .int 0, .int 0, .int 0, .ref (r 31), .ref (r 32), .ref (r 33), .ref (r 34), .ref (r 35), .int 0, .ref (r 37), .ref (r 38), .ref (r 39), .ref (r 40), .ref (r 41), .ref (r 42), .ref (r 43), .ref (r 44), .ref (r 45), .ref (r 46), .int 0, .ref (r 48), .ref (r 49), .ref (r 50), .ref (r 51), .long (-1)])), ((r 48), .inl (cI, 3, .inl ch2))] → va_S A s.heap H locs → lv_has ls 9 [(6, .int (nI i2)), (5, .int b), (4, .int (nI sz)), (3, .int (nI i)), (0, .ref m0), (1, .int 3), (2, .int p2)] → W p l e (gRm 1) s m args below meth c H locs 0 0 (MQ below (va_Qi (fun (r : Int32) (_ : Nat → Int32) => r = 0) (gB G (fun (u : Nat → Int32) => ([(m0, .inr (9, [.ref (r 0), .ref (r 1), .ref (r 2), .int 0, .int (-1), .int (-1), .ref (r 6), .ref (r 7), .ref (r 8), .ref (r 9), .ref (r 10), .ref (r 11), .ref (r 12), .ref (r 13), .int 0, .int 0, .int 0, .int 0, .int 0, .int 0, .int 0, .int 0, .int 0, .ref (r 23), .ref (r 24), .int 0, .ref (r 26), .ref (r 27), .int 0, .int 0, .int 0, .ref (r 31), .ref (r 32), .ref (r 33), .ref (r 34), .ref (r 35), .int 0, .ref (r 37), .ref (r 38), .ref (r 39), .ref (r 40), .ref (r 41), .ref (r 42), .ref (r 43), .ref (r 44), .ref (r 45), .ref (r 46), .int 0, .ref (r 48), .ref (r 49), .ref (r 50), .ref (r 51), .long (-1)])), ((r 48), .inl (cI, 3, .inl u))] : va_W)) A) A) args s 0 0 A) (F0 m 25 ls []) := by
        intro n
        induction n with
        | zero =>
          intro i2 sz b ch2 hin hsz hbz H locs ls hP hD hS hl
          obtain rfl : 10 = i2 := by omega
          have hl : lv_has ls 9 [(6, .int 10), (5, .int b), (4, .int (nI sz)), (3, .int (nI i)), (0, .ref m0), (1, .int 3), (2, .int p2)] := hl
          have hP : va_P G vwCl [(m0, .inr (9, [.ref (r 0), .ref (r 1), .ref (r 2), .int 0, .int (-1), .int (-1), .ref (r 6), .ref (r 7), .ref (r 8), .ref (r 9), .ref (r 10), .ref (r 11), .ref (r 12), .ref (r 13), .int 0, .int 0, .int 0, .int 0, .int 0, .int 0, .int 0, .int 0, .int 0, .ref (r 23), .ref (r 24), .int 0, .ref (r 26), .ref (r 27), .int 0, .int 0, .int 0, .ref (r 31), .ref (r 32), .ref (r 33), .ref (r 34), .ref (r 35), .int 0, .ref (r 37), .ref (r 38), .ref (r 39), .ref (r 40), .ref (r 41), .ref (r 42), .ref (r 43), .ref (r 44), .ref (r 45), .ref (r 46), .int 0, .ref (r 48), .ref (r 49), .ref (r 50), .ref (r 51), .long (-1)])), ((r 48), .inl (cI, 3, .inl ch2))] H := hP
          have hD : va_D A [(m0, .inr (9, [.ref (r 0), .ref (r 1), .ref (r 2), .int 0, .int (-1), .int (-1), .ref (r 6), .ref (r 7), .ref (r 8), .ref (r 9), .ref (r 10), .ref (r 11), .ref (r 12), .ref (r 13), .int 0, .int 0, .int 0, .int 0, .int 0, .int 0, .int 0, .int 0, .int 0, .ref (r 23), .ref (r 24), .int 0, .ref (r 26), .ref (r 27), .int 0, .int 0, .int 0, .ref (r 31), .ref (r 32), .ref (r 33), .ref (r 34), .ref (r 35), .int 0, .ref (r 37), .ref (r 38), .ref (r 39), .ref (r 40), .ref (r 41), .ref (r 42), .ref (r 43), .ref (r 44), .ref (r 45), .ref (r 46), .int 0, .ref (r 48), .ref (r 49), .ref (r 50), .ref (r 51), .long (-1)])), ((r 48), .inl (cI, 3, .inl ch2))] := hD
          refine lv_iload hx hb dX9_plansOf_25 (lv_at hl 0 rfl) ?_
          refine lv_bipush (v := 10) hx hb dX9_plansOf_27 (by decide) ?_
          refine lv_icmp_ge (tgt := 128) hx hb dX9_plansOf_29 (by decide) (fun _ => ?_) (fun c => absurd (by decide) c)
          refine lv_iload hx hb dX9_plansOf_128 (lv_at hl 1 rfl) ?_
          refine lv_if_eq (tgt := 145) hx hb dX9_plansOf_130 (by decide) (fun c_3 => ?_) (fun c_3 => ?_)
          · refine lv_iinc (v := (nI (i + 1))) (lv' := [(3, .int (nI (i + 1))), (6, .int 10), (5, .int b), (4, .int (nI sz)), (0, .ref m0), (1, .int 3), (2, .int p2)]) hx hb dX9_plansOf_145 hl (k := 3) rfl (nI_1 i) (by decide) rfl (fun ls hl => ?_)
            refine lv_goto (tgt := 9) hx hb dX9_plansOf_148 (by decide) ?_
            exact ih (i + 1) ch2 (by omega)  H _ ls hP hD hS (lv_sub hl [0, 4, 5, 6] rfl)
          · obtain rfl : sz = 0 := (hbz.resolve_left c_3).2
            have hl : lv_has ls 9 [(6, .int 10), (5, .int b), (4, .int 0), (3, .int (nI i)), (0, .ref m0), (1, .int 3), (2, .int p2)] := hl
            refine lv_iload hx hb dX9_plansOf_133 (lv_at hl 2 rfl) ?_
            refine lv_iload_n hx hb dX9_plansOf_135 rfl (lv_at hl 5 rfl) ?_
            refine lv_icmp_ne (tgt := 145) hx hb dX9_plansOf_136 (by decide) (fun _ => ?_) (fun c => absurd c (by decide))
            refine lv_iinc (v := (nI (i + 1))) (lv' := [(3, .int (nI (i + 1))), (6, .int 10), (5, .int b), (4, .int 0), (0, .ref m0), (1, .int 3), (2, .int p2)]) hx hb dX9_plansOf_145 hl (k := 3) rfl (nI_1 i) (by decide) rfl (fun ls hl => ?_)
            refine lv_goto (tgt := 9) hx hb dX9_plansOf_148 (by decide) ?_
            exact ih (i + 1) ch2 (by omega)  H _ ls hP hD hS (lv_sub hl [0, 4, 5, 6] rfl)
        | succ n ih =>
          intro i2 sz b ch2 hin hsz hbz H locs ls hP hD hS hl
          have hlt : i2 < 10 := by omega
          refine lv_iload hx hb dX9_plansOf_25 (lv_at hl 0 rfl) ?_
          refine lv_bipush (v := 10) hx hb dX9_plansOf_27 (by decide) ?_
          refine lv_icmp_ge (tgt := 128) hx hb dX9_plansOf_29 (by decide) (fun c => absurd c (nI_ge (a := i2) (b := 10) (by omega) (by decide))) (fun _ => ?_)
          refine lv_iload_n hx hb dX9_plansOf_32 rfl (lv_at hl 3 rfl) ?_
          refine lv_iload hx hb dX9_plansOf_33 (lv_at hl 0 rfl) ?_
          refine lv_ishr hx hb dX9_plansOf_35 ?_
          refine lv_iconst (v := 1) hx hb dX9_plansOf_36 (by decide) ?_
          refine lv_iand hx hb dX9_plansOf_37 ?_
          refine lv_iconst (v := 1) hx hb dX9_plansOf_38 (by decide) ?_
          refine lv_icmp_ne (tgt := 122) hx hb dX9_plansOf_39 (by decide) (fun c_4 => ?_) (fun c_4 => ?_)
          · refine lv_iinc (v := (nI (i2 + 1))) (lv' := [(6, .int (nI (i2 + 1))), (5, .int b), (4, .int (nI sz)), (3, .int (nI i)), (0, .ref m0), (1, .int 3), (2, .int p2)]) hx hb dX9_plansOf_122 hl (k := 0) rfl (nI_1 i2) (by decide) rfl (fun ls hl => ?_)
            refine lv_goto (tgt := 25) hx hb dX9_plansOf_125 (by decide) ?_
            exact ih (i2 + 1) sz b ch2 (by omega) (by omega) hbz H _ ls hP hD hS (lv_sub hl [0, 1, 2, 3, 4, 5, 6] rfl)
          · refine lv_iconst (v := 0) hx hb dX9_plansOf_42 (by decide) ?_
            refine lv_istore (lv' := [(7, .int 0), (6, .int (nI i2)), (5, .int b), (4, .int (nI sz)), (3, .int (nI i)), (0, .ref m0), (1, .int 3), (2, .int p2)]) hx hb dX9_plansOf_43 hl (by decide) rfl (fun ls hl => ?_)
            refine lv_iconst (v := 0) hx hb dX9_plansOf_45 (by decide) ?_
            refine lv_istore (lv' := [(8, .int 0), (7, .int 0), (6, .int (nI i2)), (5, .int b), (4, .int (nI sz)), (3, .int (nI i)), (0, .ref m0), (1, .int 3), (2, .int p2)]) hx hb dX9_plansOf_46 hl (by decide) rfl (fun ls hl => ?_)
            refine lv_iload hx hb dX9_plansOf_48 (lv_at hl 0 rfl) ?_
            refine lv_aload_n hx hb dX9_plansOf_50 rfl (lv_at hl 6 rfl) ?_
            refine va_get (D := G) (ci := 9) (v := .int 0) (C := RX9) (T := TX9) (N := 53) hx hb hts iX9 hown hK hP 0 rfl rfl 47 (by decide) (hts _ m_275) (fun _ h9 => h9) rfl dX9_plansOf_51 ?_
            refine lv_icmp_ge (tgt := 87) hx hb dX9_plansOf_54 (by decide) (fun _ => ?_) (fun c => absurd (by decide) c)
            refine lv_iload hx hb dX9_plansOf_87 (lv_at hl 3 rfl) ?_
            refine lv_if_eq (tgt := 101) hx hb dX9_plansOf_89 (by decide) (fun c_5 => ?_) (fun c_5 => ?_)
            · refine lv_iconst (v := 0) hx hb dX9_plansOf_101 (by decide) ?_
              refine lv_istore (lv' := [(5, .int 0), (8, .int 0), (7, .int 0), (6, .int (nI i2)), (4, .int (nI sz)), (3, .int (nI i)), (0, .ref m0), (1, .int 3), (2, .int p2)]) hx hb dX9_plansOf_102 hl (by decide) rfl (fun ls hl => ?_)
              refine lv_iload hx hb dX9_plansOf_104 (lv_at hl 4 rfl) ?_
              refine lv_iconst (v := 3) hx hb dX9_plansOf_106 (by decide) ?_
              refine lv_icmp_ge (tgt := 119) hx hb dX9_plansOf_107 (by decide) (fun c_6 => ?_) (fun c_6 => ?_)
              · refine lv_iinc (v := (nI (sz + 1))) (lv' := [(4, .int (nI (sz + 1))), (5, .int 0), (8, .int 0), (7, .int 0), (6, .int (nI i2)), (3, .int (nI i)), (0, .ref m0), (1, .int 3), (2, .int p2)]) hx hb dX9_plansOf_119 hl (k := 4) rfl (nI_1 sz) (by decide) rfl (fun ls hl => ?_)
                refine lv_iinc (v := (nI (i2 + 1))) (lv' := [(6, .int (nI (i2 + 1))), (4, .int (nI (sz + 1))), (5, .int 0), (8, .int 0), (7, .int 0), (3, .int (nI i)), (0, .ref m0), (1, .int 3), (2, .int p2)]) hx hb dX9_plansOf_122 hl (k := 4) rfl (nI_1 i2) (by decide) rfl (fun ls hl => ?_)
                refine lv_goto (tgt := 25) hx hb dX9_plansOf_125 (by decide) ?_
                exact ih (i2 + 1) (sz + 1) 0 ch2 (by omega) (by omega) (Or.inl rfl) H _ ls hP hD hS (lv_sub hl [0, 2, 1, 5, 6, 7, 8] rfl)
              · have hsz3 : sz < 3 := by
                  rcases Nat.lt_or_ge sz 3 with h9 | h9
                  · exact h9
                  · exact absurd (nI_le (a := 3) (b := sz) h9 (by omega)) c_6
                refine lv_aload_n hx hb dX9_plansOf_110 rfl (lv_at hl 6 rfl) ?_
                refine va_get (D := G) (ci := 9) (v := .ref (r 48)) (C := RX9) (T := TX9) (N := 53) hx hb hts iX9 hown hK hP 0 rfl rfl 48 (by decide) (hts _ m_276) (fun _ h9 => h9) rfl dX9_plansOf_111 ?_
                refine lv_iload hx hb dX9_plansOf_114 (lv_at hl 4 rfl) ?_
                refine lv_iload hx hb dX9_plansOf_116 (lv_at hl 3 rfl) ?_
                refine gw_iast hx hb hK hP hD hS 1 0 sz rfl rfl rfl (by omega) (by decide) dX9_plansOf_118 (fun H locs hP hD hS => ?_)
                have hP : va_P G vwCl [(m0, .inr (9, [.ref (r 0), .ref (r 1), .ref (r 2), .int 0, .int (-1), .int (-1), .ref (r 6), .ref (r 7), .ref (r 8), .ref (r 9), .ref (r 10), .ref (r 11), .ref (r 12), .ref (r 13), .int 0, .int 0, .int 0, .int 0, .int 0, .int 0, .int 0, .int 0, .int 0, .ref (r 23), .ref (r 24), .int 0, .ref (r 26), .ref (r 27), .int 0, .int 0, .int 0, .ref (r 31), .ref (r 32), .ref (r 33), .ref (r 34), .ref (r 35), .int 0, .ref (r 37), .ref (r 38), .ref (r 39), .ref (r 40), .ref (r 41), .ref (r 42), .ref (r 43), .ref (r 44), .ref (r 45), .ref (r 46), .int 0, .ref (r 48), .ref (r 49), .ref (r 50), .ref (r 51), .long (-1)])), ((r 48), .inl (cI, 3, .inl (upd ch2 sz (nI i2))))] H := hP
                have hD : va_D A [(m0, .inr (9, [.ref (r 0), .ref (r 1), .ref (r 2), .int 0, .int (-1), .int (-1), .ref (r 6), .ref (r 7), .ref (r 8), .ref (r 9), .ref (r 10), .ref (r 11), .ref (r 12), .ref (r 13), .int 0, .int 0, .int 0, .int 0, .int 0, .int 0, .int 0, .int 0, .int 0, .ref (r 23), .ref (r 24), .int 0, .ref (r 26), .ref (r 27), .int 0, .int 0, .int 0, .ref (r 31), .ref (r 32), .ref (r 33), .ref (r 34), .ref (r 35), .int 0, .ref (r 37), .ref (r 38), .ref (r 39), .ref (r 40), .ref (r 41), .ref (r 42), .ref (r 43), .ref (r 44), .ref (r 45), .ref (r 46), .int 0, .ref (r 48), .ref (r 49), .ref (r 50), .ref (r 51), .long (-1)])), ((r 48), .inl (cI, 3, .inl (upd ch2 sz (nI i2))))] := hD
                refine lv_iinc (v := (nI (sz + 1))) (lv' := [(4, .int (nI (sz + 1))), (5, .int 0), (8, .int 0), (7, .int 0), (6, .int (nI i2)), (3, .int (nI i)), (0, .ref m0), (1, .int 3), (2, .int p2)]) hx hb dX9_plansOf_119 hl (k := 4) rfl (nI_1 sz) (by decide) rfl (fun ls hl => ?_)
                refine lv_iinc (v := (nI (i2 + 1))) (lv' := [(6, .int (nI (i2 + 1))), (4, .int (nI (sz + 1))), (5, .int 0), (8, .int 0), (7, .int 0), (3, .int (nI i)), (0, .ref m0), (1, .int 3), (2, .int p2)]) hx hb dX9_plansOf_122 hl (k := 4) rfl (nI_1 i2) (by decide) rfl (fun ls hl => ?_)
                refine lv_goto (tgt := 25) hx hb dX9_plansOf_125 (by decide) ?_
                exact ih (i2 + 1) (sz + 1) 0 (upd ch2 sz (nI i2)) (by omega) (by omega) (Or.inl rfl) H _ ls hP hD hS (lv_sub hl [0, 2, 1, 5, 6, 7, 8] rfl)
            · refine lv_iload hx hb dX9_plansOf_92 (lv_at hl 1 rfl) ?_
              refine lv_if_eq (tgt := 101) hx hb dX9_plansOf_94 (by decide) (fun _ => ?_) (fun c => absurd (by decide) c)
              refine lv_iconst (v := 0) hx hb dX9_plansOf_101 (by decide) ?_
              refine lv_istore (lv' := [(5, .int 0), (8, .int 0), (7, .int 0), (6, .int (nI i2)), (4, .int (nI sz)), (3, .int (nI i)), (0, .ref m0), (1, .int 3), (2, .int p2)]) hx hb dX9_plansOf_102 hl (by decide) rfl (fun ls hl => ?_)
              refine lv_iload hx hb dX9_plansOf_104 (lv_at hl 4 rfl) ?_
              refine lv_iconst (v := 3) hx hb dX9_plansOf_106 (by decide) ?_
              refine lv_icmp_ge (tgt := 119) hx hb dX9_plansOf_107 (by decide) (fun c_7 => ?_) (fun c_7 => ?_)
              · refine lv_iinc (v := (nI (sz + 1))) (lv' := [(4, .int (nI (sz + 1))), (5, .int 0), (8, .int 0), (7, .int 0), (6, .int (nI i2)), (3, .int (nI i)), (0, .ref m0), (1, .int 3), (2, .int p2)]) hx hb dX9_plansOf_119 hl (k := 4) rfl (nI_1 sz) (by decide) rfl (fun ls hl => ?_)
                refine lv_iinc (v := (nI (i2 + 1))) (lv' := [(6, .int (nI (i2 + 1))), (4, .int (nI (sz + 1))), (5, .int 0), (8, .int 0), (7, .int 0), (3, .int (nI i)), (0, .ref m0), (1, .int 3), (2, .int p2)]) hx hb dX9_plansOf_122 hl (k := 4) rfl (nI_1 i2) (by decide) rfl (fun ls hl => ?_)
                refine lv_goto (tgt := 25) hx hb dX9_plansOf_125 (by decide) ?_
                exact ih (i2 + 1) (sz + 1) 0 ch2 (by omega) (by omega) (Or.inl rfl) H _ ls hP hD hS (lv_sub hl [0, 2, 1, 5, 6, 7, 8] rfl)
              · have hsz3 : sz < 3 := by
                  rcases Nat.lt_or_ge sz 3 with h9 | h9
                  · exact h9
                  · exact absurd (nI_le (a := 3) (b := sz) h9 (by omega)) c_7
                refine lv_aload_n hx hb dX9_plansOf_110 rfl (lv_at hl 6 rfl) ?_
                refine va_get (D := G) (ci := 9) (v := .ref (r 48)) (C := RX9) (T := TX9) (N := 53) hx hb hts iX9 hown hK hP 0 rfl rfl 48 (by decide) (hts _ m_276) (fun _ h9 => h9) rfl dX9_plansOf_111 ?_
                refine lv_iload hx hb dX9_plansOf_114 (lv_at hl 4 rfl) ?_
                refine lv_iload hx hb dX9_plansOf_116 (lv_at hl 3 rfl) ?_
                refine gw_iast hx hb hK hP hD hS 1 0 sz rfl rfl rfl (by omega) (by decide) dX9_plansOf_118 (fun H locs hP hD hS => ?_)
                have hP : va_P G vwCl [(m0, .inr (9, [.ref (r 0), .ref (r 1), .ref (r 2), .int 0, .int (-1), .int (-1), .ref (r 6), .ref (r 7), .ref (r 8), .ref (r 9), .ref (r 10), .ref (r 11), .ref (r 12), .ref (r 13), .int 0, .int 0, .int 0, .int 0, .int 0, .int 0, .int 0, .int 0, .int 0, .ref (r 23), .ref (r 24), .int 0, .ref (r 26), .ref (r 27), .int 0, .int 0, .int 0, .ref (r 31), .ref (r 32), .ref (r 33), .ref (r 34), .ref (r 35), .int 0, .ref (r 37), .ref (r 38), .ref (r 39), .ref (r 40), .ref (r 41), .ref (r 42), .ref (r 43), .ref (r 44), .ref (r 45), .ref (r 46), .int 0, .ref (r 48), .ref (r 49), .ref (r 50), .ref (r 51), .long (-1)])), ((r 48), .inl (cI, 3, .inl (upd ch2 sz (nI i2))))] H := hP
                have hD : va_D A [(m0, .inr (9, [.ref (r 0), .ref (r 1), .ref (r 2), .int 0, .int (-1), .int (-1), .ref (r 6), .ref (r 7), .ref (r 8), .ref (r 9), .ref (r 10), .ref (r 11), .ref (r 12), .ref (r 13), .int 0, .int 0, .int 0, .int 0, .int 0, .int 0, .int 0, .int 0, .int 0, .ref (r 23), .ref (r 24), .int 0, .ref (r 26), .ref (r 27), .int 0, .int 0, .int 0, .ref (r 31), .ref (r 32), .ref (r 33), .ref (r 34), .ref (r 35), .int 0, .ref (r 37), .ref (r 38), .ref (r 39), .ref (r 40), .ref (r 41), .ref (r 42), .ref (r 43), .ref (r 44), .ref (r 45), .ref (r 46), .int 0, .ref (r 48), .ref (r 49), .ref (r 50), .ref (r 51), .long (-1)])), ((r 48), .inl (cI, 3, .inl (upd ch2 sz (nI i2))))] := hD
                refine lv_iinc (v := (nI (sz + 1))) (lv' := [(4, .int (nI (sz + 1))), (5, .int 0), (8, .int 0), (7, .int 0), (6, .int (nI i2)), (3, .int (nI i)), (0, .ref m0), (1, .int 3), (2, .int p2)]) hx hb dX9_plansOf_119 hl (k := 4) rfl (nI_1 sz) (by decide) rfl (fun ls hl => ?_)
                refine lv_iinc (v := (nI (i2 + 1))) (lv' := [(6, .int (nI (i2 + 1))), (4, .int (nI (sz + 1))), (5, .int 0), (8, .int 0), (7, .int 0), (3, .int (nI i)), (0, .ref m0), (1, .int 3), (2, .int p2)]) hx hb dX9_plansOf_122 hl (k := 4) rfl (nI_1 i2) (by decide) rfl (fun ls hl => ?_)
                refine lv_goto (tgt := 25) hx hb dX9_plansOf_125 (by decide) ?_
                exact ih (i2 + 1) (sz + 1) 0 (upd ch2 sz (nI i2)) (by omega) (by omega) (Or.inl rfl) H _ ls hP hD hS (lv_sub hl [0, 2, 1, 5, 6, 7, 8] rfl)
      exact hloop_2 10 0 0 1 ch (by omega) (by omega) (Or.inr ⟨rfl, rfl⟩) H _ ls hP hD hS (lv_sub hl [0, 1, 2, 3, 4, 5, 6] rfl)
  exact hloop_1 1024 0 ch0 (by omega)  H _ ls hP hD hS (lv_sub hl [0, 1, 2, 3] rfl)
set_option maxHeartbeats 4000000 in
set_option maxRecDepth 100000 in
theorem c_laysFlock0 (l : Launch) (G : va_G) (cI cJ cZ cB cT : ClassId) (m0 : Nat) (r : Nat → Nat) (p1 : Int32)  : gMv l yX9_laysFlock (gws yX9_laysFlock cX9_laysFlock 6 none) 1 G (gT cI cJ cZ cB cT) [.ref m0, .int p1] [(m0, .inr (9, [.ref (r 0), .ref (r 1), .ref (r 2), .int 0, .int (-1), .int (-1), .ref (r 6), .ref (r 7), .ref (r 8), .ref (r 9), .ref (r 10), .ref (r 11), .ref (r 12), .ref (r 13), .int 0, .int 0, .int 0, .int 0, .int 0, .int 0, .int 0, .int 0, .int 0, .ref (r 23), .ref (r 24), .int 0, .ref (r 26), .ref (r 27), .int 0, .int 0, .int 0, .ref (r 31), .ref (r 32), .ref (r 33), .ref (r 34), .ref (r 35), .int 0, .ref (r 37), .ref (r 38), .ref (r 39), .ref (r 40), .ref (r 41), .ref (r 42), .ref (r 43), .ref (r 44), .ref (r 45), .ref (r 46), .int 0, .ref (r 48), .ref (r 49), .ref (r 50), .ref (r 51), .long 0])), ((r 0), .inl (cI, 1990, .inl (upd (upd (fun _ => 0) 4 (-1)) 122 9)))] (fun (_ : Unit) => True) (fun (_ : Unit) => ([(m0, .inr (9, [.ref (r 0), .ref (r 1), .ref (r 2), .int 0, .int (-1), .int (-1), .ref (r 6), .ref (r 7), .ref (r 8), .ref (r 9), .ref (r 10), .ref (r 11), .ref (r 12), .ref (r 13), .int 0, .int 0, .int 0, .int 0, .int 0, .int 0, .int 0, .int 0, .int 0, .ref (r 23), .ref (r 24), .int 0, .ref (r 26), .ref (r 27), .int 0, .int 0, .int 0, .ref (r 31), .ref (r 32), .ref (r 33), .ref (r 34), .ref (r 35), .int 0, .ref (r 37), .ref (r 38), .ref (r 39), .ref (r 40), .ref (r 41), .ref (r 42), .ref (r 43), .ref (r 44), .ref (r 45), .ref (r 46), .int 0, .ref (r 48), .ref (r 49), .ref (r 50), .ref (r 51), .long 0])), ((r 0), .inl (cI, 1990, .inl (upd (upd (fun _ => 0) 4 (-1)) 122 9)))] : va_W)) := by
  intro sz
  refine gM_start (y := yX9_laysFlock) (av := [.ref m0, .int p1]) (ws := [(m0, .inr (9, [.ref (r 0), .ref (r 1), .ref (r 2), .int 0, .int (-1), .int (-1), .ref (r 6), .ref (r 7), .ref (r 8), .ref (r 9), .ref (r 10), .ref (r 11), .ref (r 12), .ref (r 13), .int 0, .int 0, .int 0, .int 0, .int 0, .int 0, .int 0, .int 0, .int 0, .ref (r 23), .ref (r 24), .int 0, .ref (r 26), .ref (r 27), .int 0, .int 0, .int 0, .ref (r 31), .ref (r 32), .ref (r 33), .ref (r 34), .ref (r 35), .int 0, .ref (r 37), .ref (r 38), .ref (r 39), .ref (r 40), .ref (r 41), .ref (r 42), .ref (r 43), .ref (r 44), .ref (r 45), .ref (r 46), .int 0, .ref (r 48), .ref (r 49), .ref (r 50), .ref (r 51), .long 0])), ((r 0), .inl (cI, 1990, .inl (upd (upd (fun _ => 0) 4 (-1)) 122 9)))]) (Qf := fun A => va_Qv (fun (_ : Unit) => True) (gB G (fun (_ : Unit) => ([(m0, .inr (9, [.ref (r 0), .ref (r 1), .ref (r 2), .int 0, .int (-1), .int (-1), .ref (r 6), .ref (r 7), .ref (r 8), .ref (r 9), .ref (r 10), .ref (r 11), .ref (r 12), .ref (r 13), .int 0, .int 0, .int 0, .int 0, .int 0, .int 0, .int 0, .int 0, .int 0, .ref (r 23), .ref (r 24), .int 0, .ref (r 26), .ref (r 27), .int 0, .int 0, .int 0, .ref (r 31), .ref (r 32), .ref (r 33), .ref (r 34), .ref (r 35), .int 0, .ref (r 37), .ref (r 38), .ref (r 39), .ref (r 40), .ref (r 41), .ref (r 42), .ref (r 43), .ref (r 44), .ref (r 45), .ref (r 46), .int 0, .ref (r 48), .ref (r 49), .ref (r 50), .ref (r 51), .long 0])), ((r 0), .inl (cI, 1990, .inl (upd (upd (fun _ => 0) 4 (-1)) 122 9)))] : va_W)) A) A) (cc := cX9_laysFlock) (maxL := 6) (ret := none) (by decide) (Nat.le_of_ble_eq_true rfl) ?_
  intro p e s m args below meth c A ls H hx hb hr hts hown hin hlocks hml hP hK hD hA hS hl
  have hl : lv_has ls 6 [(0, .ref m0), (1, .int p1)] := hl
  refine lv_aload_n hx hb dX9_laysFlock_0 rfl (lv_at hl 0 rfl) ?_
  refine lv_iconst (v := 0) hx hb dX9_laysFlock_1 (by decide) ?_
  refine va_put (D := G) (ci := 9) (v := .int 0) (ty := .int) (C := RX9) (T := TX9) (N := 53) hx hb hts iX9 tyX9 tyX9_ok nmX9 hown hK hP hD hS 0 rfl rfl 47 (by decide) (hts _ m_275) (fun _ h9 => h9) rfl (tyX9_ok 47 (by decide)) rfl rfl (Nat.le_of_ble_eq_true rfl) dX9_laysFlock_2 (fun H locs hP hD hS => ?_)
  have hP : va_P G vwCl [(m0, .inr (9, [.ref (r 0), .ref (r 1), .ref (r 2), .int 0, .int (-1), .int (-1), .ref (r 6), .ref (r 7), .ref (r 8), .ref (r 9), .ref (r 10), .ref (r 11), .ref (r 12), .ref (r 13), .int 0, .int 0, .int 0, .int 0, .int 0, .int 0, .int 0, .int 0, .int 0, .ref (r 23), .ref (r 24), .int 0, .ref (r 26), .ref (r 27), .int 0, .int 0, .int 0, .ref (r 31), .ref (r 32), .ref (r 33), .ref (r 34), .ref (r 35), .int 0, .ref (r 37), .ref (r 38), .ref (r 39), .ref (r 40), .ref (r 41), .ref (r 42), .ref (r 43), .ref (r 44), .ref (r 45), .ref (r 46), .int 0, .ref (r 48), .ref (r 49), .ref (r 50), .ref (r 51), .long 0])), ((r 0), .inl (cI, 1990, .inl (upd (upd (fun _ => 0) 4 (-1)) 122 9)))] H := hP
  have hD : va_D A [(m0, .inr (9, [.ref (r 0), .ref (r 1), .ref (r 2), .int 0, .int (-1), .int (-1), .ref (r 6), .ref (r 7), .ref (r 8), .ref (r 9), .ref (r 10), .ref (r 11), .ref (r 12), .ref (r 13), .int 0, .int 0, .int 0, .int 0, .int 0, .int 0, .int 0, .int 0, .int 0, .ref (r 23), .ref (r 24), .int 0, .ref (r 26), .ref (r 27), .int 0, .int 0, .int 0, .ref (r 31), .ref (r 32), .ref (r 33), .ref (r 34), .ref (r 35), .int 0, .ref (r 37), .ref (r 38), .ref (r 39), .ref (r 40), .ref (r 41), .ref (r 42), .ref (r 43), .ref (r 44), .ref (r 45), .ref (r 46), .int 0, .ref (r 48), .ref (r 49), .ref (r 50), .ref (r 51), .long 0])), ((r 0), .inl (cI, 1990, .inl (upd (upd (fun _ => 0) 4 (-1)) 122 9)))] := hD
  refine lv_iconst (v := 0) hx hb dX9_laysFlock_5 (by decide) ?_
  refine lv_istore_n (lv' := [(2, .int 0), (0, .ref m0), (1, .int p1)]) hx hb dX9_laysFlock_6 rfl hl (by decide) rfl (fun ls hl => ?_)
  refine lv_iload_n hx hb dX9_laysFlock_7 rfl (lv_at hl 0 rfl) ?_
  refine lv_aload_n hx hb dX9_laysFlock_8 rfl (lv_at hl 1 rfl) ?_
  refine va_get (D := G) (ci := 9) (v := .ref (r 0)) (C := RX9) (T := TX9) (N := 53) hx hb hts iX9 hown hK hP 0 rfl rfl 0 (by decide) (hts _ m_101) (fun _ h9 => h9) rfl dX9_laysFlock_9 ?_
  refine lv_iconst (v := 1) hx hb dX9_laysFlock_12 (by decide) ?_
  refine gw_iald (x := 0) hx hb hK hP 1 0 1 rfl rfl rfl (by decide) (by decide) rfl dX9_laysFlock_13 ?_
  refine lv_icmp_ge (tgt := 194) hx hb dX9_laysFlock_14 (by decide) (fun _ => ?_) (fun c => absurd (by decide) c)
  exact gw_vret () hx hb hr hlocks hP hD hS trivial dX9_laysFlock_194
theorem e_X9_laysFlock : yX9_laysFlock.cls = RX9 ∧ yX9_laysFlock.cls ≠ "java/lang/invoke/MethodHandle" ∧ yX9_laysFlock.cls ≠ "java/lang/invoke/VarHandle" ∧ (parseMethodDescriptor yX9_laysFlock.desc).map (fun d => d.parameters.length) = some 1 := by decide +kernel
theorem e_X9_plansOf : yX9_plansOf.cls = RX9 ∧ yX9_plansOf.cls ≠ "java/lang/invoke/MethodHandle" ∧ yX9_plansOf.cls ≠ "java/lang/invoke/VarHandle" ∧ (parseMethodDescriptor yX9_plansOf.desc).map (fun d => d.parameters.length) = some 2 := by decide +kernel
set_option maxHeartbeats 4000000 in
set_option maxRecDepth 100000 in
theorem c_X9_plan (l : Launch) (G : va_G) (cI cJ cZ cB cT : ClassId) (m0 : Nat) (r : Nat → Nat) (p1 : Int32) (p2 : Int32) (p3 : Int32)  : gMi l yX9_plan (gws yX9_plan cX9_plan 7 (some .int)) 3 G (gT cI cJ cZ cB cT) [.ref m0, .int p1, .int p2, .int p3] [(m0, .inr (9, [.ref (r 0), .ref (r 1), .ref (r 2), .int 0, .int (-1), .int (-1), .ref (r 6), .ref (r 7), .ref (r 8), .ref (r 9), .ref (r 10), .ref (r 11), .ref (r 12), .ref (r 13), .int 0, .int 0, .int 0, .int 0, .int 0, .int 0, .int 0, .int 0, .int 0, .ref (r 23), .ref (r 24), .int 0, .ref (r 26), .ref (r 27), .int 0, .int 0, .int 0, .ref (r 31), .ref (r 32), .ref (r 33), .ref (r 34), .ref (r 35), .int 0, .ref (r 37), .ref (r 38), .ref (r 39), .ref (r 40), .ref (r 41), .ref (r 42), .ref (r 43), .ref (r 44), .ref (r 45), .ref (r 46), .int 0, .ref (r 48), .ref (r 49), .ref (r 50), .ref (r 51), .long 0])), ((r 0), .inl (cI, 1990, .inl (upd (upd (fun _ => 0) 4 (-1)) 122 9))), ((r 48), .inl (cI, 3, .inl (fun _ => 0)))] (fun r (_ : Unit) => r = (-2)) (fun (_ : Unit) => ([] : va_W)) := by
  intro sz
  refine gM_start (y := yX9_plan) (av := [.ref m0, .int p1, .int p2, .int p3]) (ws := [(m0, .inr (9, [.ref (r 0), .ref (r 1), .ref (r 2), .int 0, .int (-1), .int (-1), .ref (r 6), .ref (r 7), .ref (r 8), .ref (r 9), .ref (r 10), .ref (r 11), .ref (r 12), .ref (r 13), .int 0, .int 0, .int 0, .int 0, .int 0, .int 0, .int 0, .int 0, .int 0, .ref (r 23), .ref (r 24), .int 0, .ref (r 26), .ref (r 27), .int 0, .int 0, .int 0, .ref (r 31), .ref (r 32), .ref (r 33), .ref (r 34), .ref (r 35), .int 0, .ref (r 37), .ref (r 38), .ref (r 39), .ref (r 40), .ref (r 41), .ref (r 42), .ref (r 43), .ref (r 44), .ref (r 45), .ref (r 46), .int 0, .ref (r 48), .ref (r 49), .ref (r 50), .ref (r 51), .long 0])), ((r 0), .inl (cI, 1990, .inl (upd (upd (fun _ => 0) 4 (-1)) 122 9))), ((r 48), .inl (cI, 3, .inl (fun _ => 0)))]) (Qf := fun A => va_Qi (fun r (_ : Unit) => r = (-2)) (gB G (fun (_ : Unit) => ([] : va_W)) A) A) (cc := cX9_plan) (maxL := 7) (ret := (some .int)) (by decide) (Nat.le_of_ble_eq_true rfl) ?_
  intro p e s m args below meth c A ls H hx hb hr hts hown hin hlocks hml hP hK hD hA hS hl
  have hl : lv_has ls 7 [(0, .ref m0), (1, .int p1), (2, .int p2), (3, .int p3)] := hl
  refine lv_iload_n hx hb dX9_plan_0 rfl (lv_at hl 1 rfl) ?_
  refine gw_calli (gw_runS (As := [.int p1]) (rest := []) ⟨hx, hb, hml, hown, hts⟩ (c_X9_isLetterNumber l G cI cJ cZ cB cT p1  H.size) (gG_S m_140 m_141 m_100 m_139) rfl e_X9_isLetterNumber ⟨Nat.le_of_ble_eq_true rfl, Nat.le_of_ble_eq_true rfl⟩ hK hP hD [] rfl (by decide) rfl rfl hl.1 rfl (Nat.le_of_ble_eq_true rfl) dX9_plan_1 ⟨Nat.le_of_ble_eq_true rfl, Nat.le_of_ble_eq_true rfl⟩) hP hD hS hA [] [0, 1, 2] rfl rfl (by decide) (by decide) (fun r_1 u_1 H locs hw_1 hP hD hS => ?_)
  subst hw_1
  have hP : va_P G vwCl [(m0, .inr (9, [.ref (r 0), .ref (r 1), .ref (r 2), .int 0, .int (-1), .int (-1), .ref (r 6), .ref (r 7), .ref (r 8), .ref (r 9), .ref (r 10), .ref (r 11), .ref (r 12), .ref (r 13), .int 0, .int 0, .int 0, .int 0, .int 0, .int 0, .int 0, .int 0, .int 0, .ref (r 23), .ref (r 24), .int 0, .ref (r 26), .ref (r 27), .int 0, .int 0, .int 0, .ref (r 31), .ref (r 32), .ref (r 33), .ref (r 34), .ref (r 35), .int 0, .ref (r 37), .ref (r 38), .ref (r 39), .ref (r 40), .ref (r 41), .ref (r 42), .ref (r 43), .ref (r 44), .ref (r 45), .ref (r 46), .int 0, .ref (r 48), .ref (r 49), .ref (r 50), .ref (r 51), .long 0])), ((r 0), .inl (cI, 1990, .inl (upd (upd (fun _ => 0) 4 (-1)) 122 9))), ((r 48), .inl (cI, 3, .inl (fun _ => 0)))] H := hP
  have hD : va_D A [(m0, .inr (9, [.ref (r 0), .ref (r 1), .ref (r 2), .int 0, .int (-1), .int (-1), .ref (r 6), .ref (r 7), .ref (r 8), .ref (r 9), .ref (r 10), .ref (r 11), .ref (r 12), .ref (r 13), .int 0, .int 0, .int 0, .int 0, .int 0, .int 0, .int 0, .int 0, .int 0, .ref (r 23), .ref (r 24), .int 0, .ref (r 26), .ref (r 27), .int 0, .int 0, .int 0, .ref (r 31), .ref (r 32), .ref (r 33), .ref (r 34), .ref (r 35), .int 0, .ref (r 37), .ref (r 38), .ref (r 39), .ref (r 40), .ref (r 41), .ref (r 42), .ref (r 43), .ref (r 44), .ref (r 45), .ref (r 46), .int 0, .ref (r 48), .ref (r 49), .ref (r 50), .ref (r 51), .long 0])), ((r 0), .inl (cI, 1990, .inl (upd (upd (fun _ => 0) 4 (-1)) 122 9))), ((r 48), .inl (cI, 3, .inl (fun _ => 0)))] := hD
  refine lv_if_eq (tgt := 30) hx hb dX9_plan_4 (by decide) (fun c_2 => ?_) (fun c_2 => ?_)
  · refine lv_bipush (v := (-2)) hx hb dX9_plan_30 (by decide) ?_
    exact gw_iret () hx hb hr hlocks (hP.sub [] rfl) (hD.sub [] (by decide) rfl) hS rfl dX9_plan_32
  · refine lv_iload_n hx hb dX9_plan_7 rfl (lv_at hl 2 rfl) ?_
    refine lv_iconst (v := 1) hx hb dX9_plan_8 (by decide) ?_
    refine lv_bipush (v := 100) hx hb dX9_plan_9 (by decide) ?_
    refine gw_calli (gw_runS (As := [.int p2, .int 1, .int 100]) (rest := []) ⟨hx, hb, hml, hown, hts⟩ (c_X9_in l G cI cJ cZ cB cT p2 1 100  H.size) (gG_S m_98 m_99 m_100 m_97) rfl e_X9_in ⟨Nat.le_of_ble_eq_true rfl, Nat.le_of_ble_eq_true rfl⟩ hK hP hD [] rfl (by decide) rfl rfl hl.1 rfl (Nat.le_of_ble_eq_true rfl) dX9_plan_11 ⟨Nat.le_of_ble_eq_true rfl, Nat.le_of_ble_eq_true rfl⟩) hP hD hS hA [] [0, 1, 2] rfl rfl (by decide) (by decide) (fun r_3 u_3 H locs hw_3 hP hD hS => ?_)
    subst hw_3
    have hP : va_P G vwCl [(m0, .inr (9, [.ref (r 0), .ref (r 1), .ref (r 2), .int 0, .int (-1), .int (-1), .ref (r 6), .ref (r 7), .ref (r 8), .ref (r 9), .ref (r 10), .ref (r 11), .ref (r 12), .ref (r 13), .int 0, .int 0, .int 0, .int 0, .int 0, .int 0, .int 0, .int 0, .int 0, .ref (r 23), .ref (r 24), .int 0, .ref (r 26), .ref (r 27), .int 0, .int 0, .int 0, .ref (r 31), .ref (r 32), .ref (r 33), .ref (r 34), .ref (r 35), .int 0, .ref (r 37), .ref (r 38), .ref (r 39), .ref (r 40), .ref (r 41), .ref (r 42), .ref (r 43), .ref (r 44), .ref (r 45), .ref (r 46), .int 0, .ref (r 48), .ref (r 49), .ref (r 50), .ref (r 51), .long 0])), ((r 0), .inl (cI, 1990, .inl (upd (upd (fun _ => 0) 4 (-1)) 122 9))), ((r 48), .inl (cI, 3, .inl (fun _ => 0)))] H := hP
    have hD : va_D A [(m0, .inr (9, [.ref (r 0), .ref (r 1), .ref (r 2), .int 0, .int (-1), .int (-1), .ref (r 6), .ref (r 7), .ref (r 8), .ref (r 9), .ref (r 10), .ref (r 11), .ref (r 12), .ref (r 13), .int 0, .int 0, .int 0, .int 0, .int 0, .int 0, .int 0, .int 0, .int 0, .ref (r 23), .ref (r 24), .int 0, .ref (r 26), .ref (r 27), .int 0, .int 0, .int 0, .ref (r 31), .ref (r 32), .ref (r 33), .ref (r 34), .ref (r 35), .int 0, .ref (r 37), .ref (r 38), .ref (r 39), .ref (r 40), .ref (r 41), .ref (r 42), .ref (r 43), .ref (r 44), .ref (r 45), .ref (r 46), .int 0, .ref (r 48), .ref (r 49), .ref (r 50), .ref (r 51), .long 0])), ((r 0), .inl (cI, 1990, .inl (upd (upd (fun _ => 0) 4 (-1)) 122 9))), ((r 48), .inl (cI, 3, .inl (fun _ => 0)))] := hD
    refine lv_if_eq (tgt := 30) hx hb dX9_plan_14 (by decide) (fun c_4 => ?_) (fun c_4 => ?_)
    · refine lv_bipush (v := (-2)) hx hb dX9_plan_30 (by decide) ?_
      exact gw_iret () hx hb hr hlocks (hP.sub [] rfl) (hD.sub [] (by decide) rfl) hS rfl dX9_plan_32
    · refine lv_iload_n hx hb dX9_plan_17 rfl (lv_at hl 3 rfl) ?_
      refine lv_iconst (v := (-1)) hx hb dX9_plan_18 (by decide) ?_
      refine lv_icmp_eq (tgt := 33) hx hb dX9_plan_19 (by decide) (fun c_5 => ?_) (fun c_5 => ?_)
      · refine lv_aload_n hx hb dX9_plan_33 rfl (lv_at hl 0 rfl) ?_
        refine lv_iload_n hx hb dX9_plan_34 rfl (lv_at hl 1 rfl) ?_
        refine gw_callv (gw_runV (As := [.int p1]) (rest := []) ⟨hx, hb, hml, hown, hts⟩ (c_laysFlock0 l G cI cJ cZ cB cT m0 r p1  H.size) (gG_V m_278 m_279 m_280 m_100 m_277) rfl e_X9_laysFlock ⟨Nat.le_of_ble_eq_true rfl, Nat.le_of_ble_eq_true rfl⟩ hK hP hD [0, 1] rfl (by decide) rfl 0 rfl rfl rfl hl.1 rfl (Nat.le_of_ble_eq_true rfl) dX9_plan_35 ⟨Nat.le_of_ble_eq_true rfl, Nat.le_of_ble_eq_true rfl⟩) hP hD hS hA [0, 1] [2] rfl rfl (by decide) (by decide) (fun u_6 H locs hw_6 hP hD hS => ?_)
        have hP : va_P G vwCl [((r 48), .inl (cI, 3, .inl (fun _ => 0))), (m0, .inr (9, [.ref (r 0), .ref (r 1), .ref (r 2), .int 0, .int (-1), .int (-1), .ref (r 6), .ref (r 7), .ref (r 8), .ref (r 9), .ref (r 10), .ref (r 11), .ref (r 12), .ref (r 13), .int 0, .int 0, .int 0, .int 0, .int 0, .int 0, .int 0, .int 0, .int 0, .ref (r 23), .ref (r 24), .int 0, .ref (r 26), .ref (r 27), .int 0, .int 0, .int 0, .ref (r 31), .ref (r 32), .ref (r 33), .ref (r 34), .ref (r 35), .int 0, .ref (r 37), .ref (r 38), .ref (r 39), .ref (r 40), .ref (r 41), .ref (r 42), .ref (r 43), .ref (r 44), .ref (r 45), .ref (r 46), .int 0, .ref (r 48), .ref (r 49), .ref (r 50), .ref (r 51), .long 0])), ((r 0), .inl (cI, 1990, .inl (upd (upd (fun _ => 0) 4 (-1)) 122 9)))] H := hP
        have hD : va_D A [((r 48), .inl (cI, 3, .inl (fun _ => 0))), (m0, .inr (9, [.ref (r 0), .ref (r 1), .ref (r 2), .int 0, .int (-1), .int (-1), .ref (r 6), .ref (r 7), .ref (r 8), .ref (r 9), .ref (r 10), .ref (r 11), .ref (r 12), .ref (r 13), .int 0, .int 0, .int 0, .int 0, .int 0, .int 0, .int 0, .int 0, .int 0, .ref (r 23), .ref (r 24), .int 0, .ref (r 26), .ref (r 27), .int 0, .int 0, .int 0, .ref (r 31), .ref (r 32), .ref (r 33), .ref (r 34), .ref (r 35), .int 0, .ref (r 37), .ref (r 38), .ref (r 39), .ref (r 40), .ref (r 41), .ref (r 42), .ref (r 43), .ref (r 44), .ref (r 45), .ref (r 46), .int 0, .ref (r 48), .ref (r 49), .ref (r 50), .ref (r 51), .long 0])), ((r 0), .inl (cI, 1990, .inl (upd (upd (fun _ => 0) 4 (-1)) 122 9)))] := hD
        refine lv_iconst (v := 1) hx hb dX9_plan_38 (by decide) ?_
        refine lv_istore (lv' := [(4, .int 1), (0, .ref m0), (1, .int p1), (2, .int p2), (3, .int p3)]) hx hb dX9_plan_39 hl (by decide) rfl (fun ls hl => ?_)
        refine lv_iload hx hb dX9_plan_41 (lv_at hl 0 rfl) ?_
        refine lv_iconst (v := 4) hx hb dX9_plan_43 (by decide) ?_
        refine lv_icmp_ge (tgt := 140) hx hb dX9_plan_44 (by decide) (fun c => absurd c (by decide)) (fun _ => ?_)
        refine lv_aload_n hx hb dX9_plan_47 rfl (lv_at hl 1 rfl) ?_
        refine lv_iload hx hb dX9_plan_48 (lv_at hl 0 rfl) ?_
        refine lv_iload_n hx hb dX9_plan_50 rfl (lv_at hl 3 rfl) ?_
        refine gw_calli (gw_runV (As := [.int 1, .int p2]) (rest := []) ⟨hx, hb, hml, hown, hts⟩ (c_plansOf1 l G cI cJ cZ cB cT m0 r (fun _ => 0) 0 p2  H.size) (gG_V m_282 m_283 m_284 m_100 m_281) rfl e_X9_plansOf ⟨Nat.le_of_ble_eq_true rfl, Nat.le_of_ble_eq_true rfl⟩ hK hP hD [1, 0] rfl (by decide) rfl 0 rfl rfl rfl hl.1 rfl (Nat.le_of_ble_eq_true rfl) dX9_plan_51 ⟨Nat.le_of_ble_eq_true rfl, Nat.le_of_ble_eq_true rfl⟩) hP hD hS hA [1, 0] [2] rfl rfl (by decide) (by decide) (fun r_7 u_7 H locs hw_7 hP hD hS => ?_)
        have hP : va_P G vwCl [((r 0), .inl (cI, 1990, .inl (upd (upd (fun _ => 0) 4 (-1)) 122 9))), (m0, .inr (9, [.ref (r 0), .ref (r 1), .ref (r 2), .int 0, .int (-1), .int (-1), .ref (r 6), .ref (r 7), .ref (r 8), .ref (r 9), .ref (r 10), .ref (r 11), .ref (r 12), .ref (r 13), .int 0, .int 0, .int 0, .int 0, .int 0, .int 0, .int 0, .int 0, .int 0, .ref (r 23), .ref (r 24), .int 0, .ref (r 26), .ref (r 27), .int 0, .int 0, .int 0, .ref (r 31), .ref (r 32), .ref (r 33), .ref (r 34), .ref (r 35), .int 0, .ref (r 37), .ref (r 38), .ref (r 39), .ref (r 40), .ref (r 41), .ref (r 42), .ref (r 43), .ref (r 44), .ref (r 45), .ref (r 46), .int 0, .ref (r 48), .ref (r 49), .ref (r 50), .ref (r 51), .long (-1)])), ((r 48), .inl (cI, 3, .inl u_7))] H := hP
        have hD : va_D A [((r 0), .inl (cI, 1990, .inl (upd (upd (fun _ => 0) 4 (-1)) 122 9))), (m0, .inr (9, [.ref (r 0), .ref (r 1), .ref (r 2), .int 0, .int (-1), .int (-1), .ref (r 6), .ref (r 7), .ref (r 8), .ref (r 9), .ref (r 10), .ref (r 11), .ref (r 12), .ref (r 13), .int 0, .int 0, .int 0, .int 0, .int 0, .int 0, .int 0, .int 0, .int 0, .ref (r 23), .ref (r 24), .int 0, .ref (r 26), .ref (r 27), .int 0, .int 0, .int 0, .ref (r 31), .ref (r 32), .ref (r 33), .ref (r 34), .ref (r 35), .int 0, .ref (r 37), .ref (r 38), .ref (r 39), .ref (r 40), .ref (r 41), .ref (r 42), .ref (r 43), .ref (r 44), .ref (r 45), .ref (r 46), .int 0, .ref (r 48), .ref (r 49), .ref (r 50), .ref (r 51), .long (-1)])), ((r 48), .inl (cI, 3, .inl u_7))] := hD
        subst hw_7
        refine lv_if_eq (tgt := 134) hx hb dX9_plan_54 (by decide) (fun _ => ?_) (fun c => absurd (by decide) c)
        refine lv_iinc (v := 2) (lv' := [(4, .int 2), (0, .ref m0), (1, .int p1), (2, .int p2), (3, .int p3)]) hx hb dX9_plan_134 hl (k := 0) rfl (by decide) (by decide) rfl (fun ls hl => ?_)
        refine lv_goto (tgt := 41) hx hb dX9_plan_137 (by decide) ?_
        refine lv_iload hx hb dX9_plan_41 (lv_at hl 0 rfl) ?_
        refine lv_iconst (v := 4) hx hb dX9_plan_43 (by decide) ?_
        refine lv_icmp_ge (tgt := 140) hx hb dX9_plan_44 (by decide) (fun c => absurd c (by decide)) (fun _ => ?_)
        refine lv_aload_n hx hb dX9_plan_47 rfl (lv_at hl 1 rfl) ?_
        refine lv_iload hx hb dX9_plan_48 (lv_at hl 0 rfl) ?_
        refine lv_iload_n hx hb dX9_plan_50 rfl (lv_at hl 3 rfl) ?_
        refine gw_calli (gw_runV (As := [.int 2, .int p2]) (rest := []) ⟨hx, hb, hml, hown, hts⟩ (c_plansOf2 l G cI cJ cZ cB cT m0 r u_7 (-1) p2  H.size) (gG_V m_282 m_283 m_284 m_100 m_281) rfl e_X9_plansOf ⟨Nat.le_of_ble_eq_true rfl, Nat.le_of_ble_eq_true rfl⟩ hK hP hD [1, 2] rfl (by decide) rfl 0 rfl rfl rfl hl.1 rfl (Nat.le_of_ble_eq_true rfl) dX9_plan_51 ⟨Nat.le_of_ble_eq_true rfl, Nat.le_of_ble_eq_true rfl⟩) hP hD hS hA [1, 2] [0] rfl rfl (by decide) (by decide) (fun r_8 u_8 H locs hw_8 hP hD hS => ?_)
        have hP : va_P G vwCl [((r 0), .inl (cI, 1990, .inl (upd (upd (fun _ => 0) 4 (-1)) 122 9))), (m0, .inr (9, [.ref (r 0), .ref (r 1), .ref (r 2), .int 0, .int (-1), .int (-1), .ref (r 6), .ref (r 7), .ref (r 8), .ref (r 9), .ref (r 10), .ref (r 11), .ref (r 12), .ref (r 13), .int 0, .int 0, .int 0, .int 0, .int 0, .int 0, .int 0, .int 0, .int 0, .ref (r 23), .ref (r 24), .int 0, .ref (r 26), .ref (r 27), .int 0, .int 0, .int 0, .ref (r 31), .ref (r 32), .ref (r 33), .ref (r 34), .ref (r 35), .int 0, .ref (r 37), .ref (r 38), .ref (r 39), .ref (r 40), .ref (r 41), .ref (r 42), .ref (r 43), .ref (r 44), .ref (r 45), .ref (r 46), .int 0, .ref (r 48), .ref (r 49), .ref (r 50), .ref (r 51), .long (-1)])), ((r 48), .inl (cI, 3, .inl u_8))] H := hP
        have hD : va_D A [((r 0), .inl (cI, 1990, .inl (upd (upd (fun _ => 0) 4 (-1)) 122 9))), (m0, .inr (9, [.ref (r 0), .ref (r 1), .ref (r 2), .int 0, .int (-1), .int (-1), .ref (r 6), .ref (r 7), .ref (r 8), .ref (r 9), .ref (r 10), .ref (r 11), .ref (r 12), .ref (r 13), .int 0, .int 0, .int 0, .int 0, .int 0, .int 0, .int 0, .int 0, .int 0, .ref (r 23), .ref (r 24), .int 0, .ref (r 26), .ref (r 27), .int 0, .int 0, .int 0, .ref (r 31), .ref (r 32), .ref (r 33), .ref (r 34), .ref (r 35), .int 0, .ref (r 37), .ref (r 38), .ref (r 39), .ref (r 40), .ref (r 41), .ref (r 42), .ref (r 43), .ref (r 44), .ref (r 45), .ref (r 46), .int 0, .ref (r 48), .ref (r 49), .ref (r 50), .ref (r 51), .long (-1)])), ((r 48), .inl (cI, 3, .inl u_8))] := hD
        subst hw_8
        refine lv_if_eq (tgt := 134) hx hb dX9_plan_54 (by decide) (fun _ => ?_) (fun c => absurd (by decide) c)
        refine lv_iinc (v := 3) (lv' := [(4, .int 3), (0, .ref m0), (1, .int p1), (2, .int p2), (3, .int p3)]) hx hb dX9_plan_134 hl (k := 0) rfl (by decide) (by decide) rfl (fun ls hl => ?_)
        refine lv_goto (tgt := 41) hx hb dX9_plan_137 (by decide) ?_
        refine lv_iload hx hb dX9_plan_41 (lv_at hl 0 rfl) ?_
        refine lv_iconst (v := 4) hx hb dX9_plan_43 (by decide) ?_
        refine lv_icmp_ge (tgt := 140) hx hb dX9_plan_44 (by decide) (fun c => absurd c (by decide)) (fun _ => ?_)
        refine lv_aload_n hx hb dX9_plan_47 rfl (lv_at hl 1 rfl) ?_
        refine lv_iload hx hb dX9_plan_48 (lv_at hl 0 rfl) ?_
        refine lv_iload_n hx hb dX9_plan_50 rfl (lv_at hl 3 rfl) ?_
        refine gw_calli (gw_runV (As := [.int 3, .int p2]) (rest := []) ⟨hx, hb, hml, hown, hts⟩ (c_plansOf3 l G cI cJ cZ cB cT m0 r u_8 (-1) p2  H.size) (gG_V m_282 m_283 m_284 m_100 m_281) rfl e_X9_plansOf ⟨Nat.le_of_ble_eq_true rfl, Nat.le_of_ble_eq_true rfl⟩ hK hP hD [1, 2] rfl (by decide) rfl 0 rfl rfl rfl hl.1 rfl (Nat.le_of_ble_eq_true rfl) dX9_plan_51 ⟨Nat.le_of_ble_eq_true rfl, Nat.le_of_ble_eq_true rfl⟩) hP hD hS hA [1, 2] [0] rfl rfl (by decide) (by decide) (fun r_9 u_9 H locs hw_9 hP hD hS => ?_)
        have hP : va_P G vwCl [((r 0), .inl (cI, 1990, .inl (upd (upd (fun _ => 0) 4 (-1)) 122 9))), (m0, .inr (9, [.ref (r 0), .ref (r 1), .ref (r 2), .int 0, .int (-1), .int (-1), .ref (r 6), .ref (r 7), .ref (r 8), .ref (r 9), .ref (r 10), .ref (r 11), .ref (r 12), .ref (r 13), .int 0, .int 0, .int 0, .int 0, .int 0, .int 0, .int 0, .int 0, .int 0, .ref (r 23), .ref (r 24), .int 0, .ref (r 26), .ref (r 27), .int 0, .int 0, .int 0, .ref (r 31), .ref (r 32), .ref (r 33), .ref (r 34), .ref (r 35), .int 0, .ref (r 37), .ref (r 38), .ref (r 39), .ref (r 40), .ref (r 41), .ref (r 42), .ref (r 43), .ref (r 44), .ref (r 45), .ref (r 46), .int 0, .ref (r 48), .ref (r 49), .ref (r 50), .ref (r 51), .long (-1)])), ((r 48), .inl (cI, 3, .inl u_9))] H := hP
        have hD : va_D A [((r 0), .inl (cI, 1990, .inl (upd (upd (fun _ => 0) 4 (-1)) 122 9))), (m0, .inr (9, [.ref (r 0), .ref (r 1), .ref (r 2), .int 0, .int (-1), .int (-1), .ref (r 6), .ref (r 7), .ref (r 8), .ref (r 9), .ref (r 10), .ref (r 11), .ref (r 12), .ref (r 13), .int 0, .int 0, .int 0, .int 0, .int 0, .int 0, .int 0, .int 0, .int 0, .ref (r 23), .ref (r 24), .int 0, .ref (r 26), .ref (r 27), .int 0, .int 0, .int 0, .ref (r 31), .ref (r 32), .ref (r 33), .ref (r 34), .ref (r 35), .int 0, .ref (r 37), .ref (r 38), .ref (r 39), .ref (r 40), .ref (r 41), .ref (r 42), .ref (r 43), .ref (r 44), .ref (r 45), .ref (r 46), .int 0, .ref (r 48), .ref (r 49), .ref (r 50), .ref (r 51), .long (-1)])), ((r 48), .inl (cI, 3, .inl u_9))] := hD
        subst hw_9
        refine lv_if_eq (tgt := 134) hx hb dX9_plan_54 (by decide) (fun _ => ?_) (fun c => absurd (by decide) c)
        refine lv_iinc (v := 4) (lv' := [(4, .int 4), (0, .ref m0), (1, .int p1), (2, .int p2), (3, .int p3)]) hx hb dX9_plan_134 hl (k := 0) rfl (by decide) (by decide) rfl (fun ls hl => ?_)
        refine lv_goto (tgt := 41) hx hb dX9_plan_137 (by decide) ?_
        refine lv_iload hx hb dX9_plan_41 (lv_at hl 0 rfl) ?_
        refine lv_iconst (v := 4) hx hb dX9_plan_43 (by decide) ?_
        refine lv_icmp_ge (tgt := 140) hx hb dX9_plan_44 (by decide) (fun _ => ?_) (fun c => absurd (by decide) c)
        refine lv_bipush (v := (-2)) hx hb dX9_plan_140 (by decide) ?_
        exact gw_iret () hx hb hr hlocks (hP.sub [] rfl) (hD.sub [] (by decide) rfl) hS rfl dX9_plan_142
      · refine lv_aload_n hx hb dX9_plan_22 rfl (lv_at hl 0 rfl) ?_
        refine lv_iload_n hx hb dX9_plan_23 rfl (lv_at hl 3 rfl) ?_
        refine gw_calli (gw_runV (As := [.int p3]) (rest := []) ⟨hx, hb, hml, hown, hts⟩ (c_X9_isGoose l G cI cJ cZ cB cT m0 r p3  H.size) (gG_V m_103 m_104 m_105 m_100 m_102) rfl e_X9_isGoose ⟨Nat.le_of_ble_eq_true rfl, Nat.le_of_ble_eq_true rfl⟩ hK hP hD [0, 1] rfl (by decide) rfl 0 rfl rfl rfl hl.1 rfl (Nat.le_of_ble_eq_true rfl) dX9_plan_24 ⟨Nat.le_of_ble_eq_true rfl, Nat.le_of_ble_eq_true rfl⟩) hP hD hS hA [0, 1] [2] rfl rfl (by decide) (by decide) (fun r_10 u_10 H locs hw_10 hP hD hS => ?_)
        subst hw_10
        have hP : va_P G vwCl [((r 48), .inl (cI, 3, .inl (fun _ => 0))), (m0, .inr (9, [.ref (r 0), .ref (r 1), .ref (r 2), .int 0, .int (-1), .int (-1), .ref (r 6), .ref (r 7), .ref (r 8), .ref (r 9), .ref (r 10), .ref (r 11), .ref (r 12), .ref (r 13), .int 0, .int 0, .int 0, .int 0, .int 0, .int 0, .int 0, .int 0, .int 0, .ref (r 23), .ref (r 24), .int 0, .ref (r 26), .ref (r 27), .int 0, .int 0, .int 0, .ref (r 31), .ref (r 32), .ref (r 33), .ref (r 34), .ref (r 35), .int 0, .ref (r 37), .ref (r 38), .ref (r 39), .ref (r 40), .ref (r 41), .ref (r 42), .ref (r 43), .ref (r 44), .ref (r 45), .ref (r 46), .int 0, .ref (r 48), .ref (r 49), .ref (r 50), .ref (r 51), .long 0])), ((r 0), .inl (cI, 1990, .inl (upd (upd (fun _ => 0) 4 (-1)) 122 9)))] H := hP
        have hD : va_D A [((r 48), .inl (cI, 3, .inl (fun _ => 0))), (m0, .inr (9, [.ref (r 0), .ref (r 1), .ref (r 2), .int 0, .int (-1), .int (-1), .ref (r 6), .ref (r 7), .ref (r 8), .ref (r 9), .ref (r 10), .ref (r 11), .ref (r 12), .ref (r 13), .int 0, .int 0, .int 0, .int 0, .int 0, .int 0, .int 0, .int 0, .int 0, .ref (r 23), .ref (r 24), .int 0, .ref (r 26), .ref (r 27), .int 0, .int 0, .int 0, .ref (r 31), .ref (r 32), .ref (r 33), .ref (r 34), .ref (r 35), .int 0, .ref (r 37), .ref (r 38), .ref (r 39), .ref (r 40), .ref (r 41), .ref (r 42), .ref (r 43), .ref (r 44), .ref (r 45), .ref (r 46), .int 0, .ref (r 48), .ref (r 49), .ref (r 50), .ref (r 51), .long 0])), ((r 0), .inl (cI, 1990, .inl (upd (upd (fun _ => 0) 4 (-1)) 122 9)))] := hD
        refine lv_if_ne (tgt := 33) hx hb dX9_plan_27 (by decide) (fun c => absurd (by decide) c) (fun _ => ?_)
        refine lv_bipush (v := (-2)) hx hb dX9_plan_30 (by decide) ?_
        exact gw_iret () hx hb hr hlocks (hP.sub [] rfl) (hD.sub [] (by decide) rfl) hS rfl dX9_plan_32
set_option maxHeartbeats 4000000 in
set_option maxRecDepth 100000 in
theorem c_tryGeese1 (l : Launch) (G : va_G) (cI cJ cZ cB cT : ClassId) (q : Nat → Nat) (scl : Int64) (pc1 : Int32)  : gMv l yX3_tryGeese (gws yX3_tryGeese cX3_tryGeese 4 none) 1 G (gT cI cJ cZ cB cT) [.ref (q 23), .int 0, .int 0] [((q 23), .inr (3, [.ref (q 24), .ref (q 25), .ref (q 26), .ref (q 27), .ref (q 28), .ref (q 29), .ref (q 30), .ref (q 31), .int 1, .long scl, .int pc1, .int 0, .int 0, .int 0, .long 0, .int 0])), ((q 26), .inl (cZ, 10, .inl (upd (upd (upd (upd (upd (upd (upd (upd (upd (upd (fun _ => 0) 0 0) 1 0) 2 0) 3 0) 4 0) 5 0) 6 0) 7 0) 8 0) 9 0)))] (fun (_ : Unit) => True) (fun (_ : Unit) => ([((q 23), .inr (3, [.ref (q 24), .ref (q 25), .ref (q 26), .ref (q 27), .ref (q 28), .ref (q 29), .ref (q 30), .ref (q 31), .int 1, .long scl, .int pc1, .int 0, .int 0, .int 0, .long 0, .int 0])), ((q 26), .inl (cZ, 10, .inl (upd (upd (upd (upd (upd (upd (upd (upd (upd (upd (fun _ => 0) 0 0) 1 0) 2 0) 3 0) 4 0) 5 0) 6 0) 7 0) 8 0) 9 0)))] : va_W)) := by
  intro sz
  refine gM_start (y := yX3_tryGeese) (av := [.ref (q 23), .int 0, .int 0]) (ws := [((q 23), .inr (3, [.ref (q 24), .ref (q 25), .ref (q 26), .ref (q 27), .ref (q 28), .ref (q 29), .ref (q 30), .ref (q 31), .int 1, .long scl, .int pc1, .int 0, .int 0, .int 0, .long 0, .int 0])), ((q 26), .inl (cZ, 10, .inl (upd (upd (upd (upd (upd (upd (upd (upd (upd (upd (fun _ => 0) 0 0) 1 0) 2 0) 3 0) 4 0) 5 0) 6 0) 7 0) 8 0) 9 0)))]) (Qf := fun A => va_Qv (fun (_ : Unit) => True) (gB G (fun (_ : Unit) => ([((q 23), .inr (3, [.ref (q 24), .ref (q 25), .ref (q 26), .ref (q 27), .ref (q 28), .ref (q 29), .ref (q 30), .ref (q 31), .int 1, .long scl, .int pc1, .int 0, .int 0, .int 0, .long 0, .int 0])), ((q 26), .inl (cZ, 10, .inl (upd (upd (upd (upd (upd (upd (upd (upd (upd (upd (fun _ => 0) 0 0) 1 0) 2 0) 3 0) 4 0) 5 0) 6 0) 7 0) 8 0) 9 0)))] : va_W)) A) A) (cc := cX3_tryGeese) (maxL := 4) (ret := none) (by decide) (Nat.le_of_ble_eq_true rfl) ?_
  intro p e s m args below meth c A ls H hx hb hr hts hown hin hlocks hml hP hK hD hA hS hl
  have hl : lv_has ls 4 [(0, .ref (q 23)), (1, .int 0), (2, .int 0)] := hl
  refine lv_iload_n hx hb dX3_tryGeese_0 rfl (lv_at hl 1 rfl) ?_
  refine lv_aload_n hx hb dX3_tryGeese_1 rfl (lv_at hl 0 rfl) ?_
  refine va_get (D := G) (ci := 3) (v := .int 1) (C := RX3) (T := TX3) (N := 16) hx hb hts iX3 hown hK hP 0 rfl rfl 8 (by decide) (hts _ m_285) (fun _ h9 => h9) rfl dX3_tryGeese_2 ?_
  refine lv_icmp_ge (tgt := 13) hx hb dX3_tryGeese_5 (by decide) (fun c => absurd c (by decide)) (fun _ => ?_)
  refine lv_iload_n hx hb dX3_tryGeese_8 rfl (lv_at hl 1 rfl) ?_
  refine lv_iconst (v := 3) hx hb dX3_tryGeese_9 (by decide) ?_
  refine lv_icmp_lt (tgt := 18) hx hb dX3_tryGeese_10 (by decide) (fun _ => ?_) (fun c => absurd (by decide) c)
  refine lv_iload_n hx hb dX3_tryGeese_18 rfl (lv_at hl 2 rfl) ?_
  refine lv_istore_n (lv' := [(3, .int 0), (0, .ref (q 23)), (1, .int 0), (2, .int 0)]) hx hb dX3_tryGeese_19 rfl hl (by decide) rfl (fun ls hl => ?_)
  refine lv_iload_n hx hb dX3_tryGeese_20 rfl (lv_at hl 0 rfl) ?_
  refine lv_bipush (v := 10) hx hb dX3_tryGeese_21 (by decide) ?_
  refine lv_icmp_ge (tgt := 58) hx hb dX3_tryGeese_23 (by decide) (fun c => absurd c (by decide)) (fun _ => ?_)
  refine lv_aload_n hx hb dX3_tryGeese_26 rfl (lv_at hl 1 rfl) ?_
  refine va_get (D := G) (ci := 3) (v := .ref (q 26)) (C := RX3) (T := TX3) (N := 16) hx hb hts iX3 hown hK hP 0 rfl rfl 2 (by decide) (hts _ m_286) (fun _ h9 => h9) rfl dX3_tryGeese_27 ?_
  refine lv_iload_n hx hb dX3_tryGeese_30 rfl (lv_at hl 0 rfl) ?_
  refine gw_zald (x := 0) hx hb hK hP 1 2 0 rfl rfl rfl (by decide) (by decide) rfl dX3_tryGeese_31 ?_
  refine lv_if_eq (tgt := 52) hx hb dX3_tryGeese_32 (by decide) (fun _ => ?_) (fun c => absurd (by decide) c)
  refine lv_iinc (v := 1) (lv' := [(3, .int 1), (0, .ref (q 23)), (1, .int 0), (2, .int 0)]) hx hb dX3_tryGeese_52 hl (k := 0) rfl (by decide) (by decide) rfl (fun ls hl => ?_)
  refine lv_goto (tgt := 20) hx hb dX3_tryGeese_55 (by decide) ?_
  refine lv_iload_n hx hb dX3_tryGeese_20 rfl (lv_at hl 0 rfl) ?_
  refine lv_bipush (v := 10) hx hb dX3_tryGeese_21 (by decide) ?_
  refine lv_icmp_ge (tgt := 58) hx hb dX3_tryGeese_23 (by decide) (fun c => absurd c (by decide)) (fun _ => ?_)
  refine lv_aload_n hx hb dX3_tryGeese_26 rfl (lv_at hl 1 rfl) ?_
  refine va_get (D := G) (ci := 3) (v := .ref (q 26)) (C := RX3) (T := TX3) (N := 16) hx hb hts iX3 hown hK hP 0 rfl rfl 2 (by decide) (hts _ m_286) (fun _ h9 => h9) rfl dX3_tryGeese_27 ?_
  refine lv_iload_n hx hb dX3_tryGeese_30 rfl (lv_at hl 0 rfl) ?_
  refine gw_zald (x := 0) hx hb hK hP 1 2 1 rfl rfl rfl (by decide) (by decide) rfl dX3_tryGeese_31 ?_
  refine lv_if_eq (tgt := 52) hx hb dX3_tryGeese_32 (by decide) (fun _ => ?_) (fun c => absurd (by decide) c)
  refine lv_iinc (v := 2) (lv' := [(3, .int 2), (0, .ref (q 23)), (1, .int 0), (2, .int 0)]) hx hb dX3_tryGeese_52 hl (k := 0) rfl (by decide) (by decide) rfl (fun ls hl => ?_)
  refine lv_goto (tgt := 20) hx hb dX3_tryGeese_55 (by decide) ?_
  refine lv_iload_n hx hb dX3_tryGeese_20 rfl (lv_at hl 0 rfl) ?_
  refine lv_bipush (v := 10) hx hb dX3_tryGeese_21 (by decide) ?_
  refine lv_icmp_ge (tgt := 58) hx hb dX3_tryGeese_23 (by decide) (fun c => absurd c (by decide)) (fun _ => ?_)
  refine lv_aload_n hx hb dX3_tryGeese_26 rfl (lv_at hl 1 rfl) ?_
  refine va_get (D := G) (ci := 3) (v := .ref (q 26)) (C := RX3) (T := TX3) (N := 16) hx hb hts iX3 hown hK hP 0 rfl rfl 2 (by decide) (hts _ m_286) (fun _ h9 => h9) rfl dX3_tryGeese_27 ?_
  refine lv_iload_n hx hb dX3_tryGeese_30 rfl (lv_at hl 0 rfl) ?_
  refine gw_zald (x := 0) hx hb hK hP 1 2 2 rfl rfl rfl (by decide) (by decide) rfl dX3_tryGeese_31 ?_
  refine lv_if_eq (tgt := 52) hx hb dX3_tryGeese_32 (by decide) (fun _ => ?_) (fun c => absurd (by decide) c)
  refine lv_iinc (v := 3) (lv' := [(3, .int 3), (0, .ref (q 23)), (1, .int 0), (2, .int 0)]) hx hb dX3_tryGeese_52 hl (k := 0) rfl (by decide) (by decide) rfl (fun ls hl => ?_)
  refine lv_goto (tgt := 20) hx hb dX3_tryGeese_55 (by decide) ?_
  refine lv_iload_n hx hb dX3_tryGeese_20 rfl (lv_at hl 0 rfl) ?_
  refine lv_bipush (v := 10) hx hb dX3_tryGeese_21 (by decide) ?_
  refine lv_icmp_ge (tgt := 58) hx hb dX3_tryGeese_23 (by decide) (fun c => absurd c (by decide)) (fun _ => ?_)
  refine lv_aload_n hx hb dX3_tryGeese_26 rfl (lv_at hl 1 rfl) ?_
  refine va_get (D := G) (ci := 3) (v := .ref (q 26)) (C := RX3) (T := TX3) (N := 16) hx hb hts iX3 hown hK hP 0 rfl rfl 2 (by decide) (hts _ m_286) (fun _ h9 => h9) rfl dX3_tryGeese_27 ?_
  refine lv_iload_n hx hb dX3_tryGeese_30 rfl (lv_at hl 0 rfl) ?_
  refine gw_zald (x := 0) hx hb hK hP 1 2 3 rfl rfl rfl (by decide) (by decide) rfl dX3_tryGeese_31 ?_
  refine lv_if_eq (tgt := 52) hx hb dX3_tryGeese_32 (by decide) (fun _ => ?_) (fun c => absurd (by decide) c)
  refine lv_iinc (v := 4) (lv' := [(3, .int 4), (0, .ref (q 23)), (1, .int 0), (2, .int 0)]) hx hb dX3_tryGeese_52 hl (k := 0) rfl (by decide) (by decide) rfl (fun ls hl => ?_)
  refine lv_goto (tgt := 20) hx hb dX3_tryGeese_55 (by decide) ?_
  refine lv_iload_n hx hb dX3_tryGeese_20 rfl (lv_at hl 0 rfl) ?_
  refine lv_bipush (v := 10) hx hb dX3_tryGeese_21 (by decide) ?_
  refine lv_icmp_ge (tgt := 58) hx hb dX3_tryGeese_23 (by decide) (fun c => absurd c (by decide)) (fun _ => ?_)
  refine lv_aload_n hx hb dX3_tryGeese_26 rfl (lv_at hl 1 rfl) ?_
  refine va_get (D := G) (ci := 3) (v := .ref (q 26)) (C := RX3) (T := TX3) (N := 16) hx hb hts iX3 hown hK hP 0 rfl rfl 2 (by decide) (hts _ m_286) (fun _ h9 => h9) rfl dX3_tryGeese_27 ?_
  refine lv_iload_n hx hb dX3_tryGeese_30 rfl (lv_at hl 0 rfl) ?_
  refine gw_zald (x := 0) hx hb hK hP 1 2 4 rfl rfl rfl (by decide) (by decide) rfl dX3_tryGeese_31 ?_
  refine lv_if_eq (tgt := 52) hx hb dX3_tryGeese_32 (by decide) (fun _ => ?_) (fun c => absurd (by decide) c)
  refine lv_iinc (v := 5) (lv' := [(3, .int 5), (0, .ref (q 23)), (1, .int 0), (2, .int 0)]) hx hb dX3_tryGeese_52 hl (k := 0) rfl (by decide) (by decide) rfl (fun ls hl => ?_)
  refine lv_goto (tgt := 20) hx hb dX3_tryGeese_55 (by decide) ?_
  refine lv_iload_n hx hb dX3_tryGeese_20 rfl (lv_at hl 0 rfl) ?_
  refine lv_bipush (v := 10) hx hb dX3_tryGeese_21 (by decide) ?_
  refine lv_icmp_ge (tgt := 58) hx hb dX3_tryGeese_23 (by decide) (fun c => absurd c (by decide)) (fun _ => ?_)
  refine lv_aload_n hx hb dX3_tryGeese_26 rfl (lv_at hl 1 rfl) ?_
  refine va_get (D := G) (ci := 3) (v := .ref (q 26)) (C := RX3) (T := TX3) (N := 16) hx hb hts iX3 hown hK hP 0 rfl rfl 2 (by decide) (hts _ m_286) (fun _ h9 => h9) rfl dX3_tryGeese_27 ?_
  refine lv_iload_n hx hb dX3_tryGeese_30 rfl (lv_at hl 0 rfl) ?_
  refine gw_zald (x := 0) hx hb hK hP 1 2 5 rfl rfl rfl (by decide) (by decide) rfl dX3_tryGeese_31 ?_
  refine lv_if_eq (tgt := 52) hx hb dX3_tryGeese_32 (by decide) (fun _ => ?_) (fun c => absurd (by decide) c)
  refine lv_iinc (v := 6) (lv' := [(3, .int 6), (0, .ref (q 23)), (1, .int 0), (2, .int 0)]) hx hb dX3_tryGeese_52 hl (k := 0) rfl (by decide) (by decide) rfl (fun ls hl => ?_)
  refine lv_goto (tgt := 20) hx hb dX3_tryGeese_55 (by decide) ?_
  refine lv_iload_n hx hb dX3_tryGeese_20 rfl (lv_at hl 0 rfl) ?_
  refine lv_bipush (v := 10) hx hb dX3_tryGeese_21 (by decide) ?_
  refine lv_icmp_ge (tgt := 58) hx hb dX3_tryGeese_23 (by decide) (fun c => absurd c (by decide)) (fun _ => ?_)
  refine lv_aload_n hx hb dX3_tryGeese_26 rfl (lv_at hl 1 rfl) ?_
  refine va_get (D := G) (ci := 3) (v := .ref (q 26)) (C := RX3) (T := TX3) (N := 16) hx hb hts iX3 hown hK hP 0 rfl rfl 2 (by decide) (hts _ m_286) (fun _ h9 => h9) rfl dX3_tryGeese_27 ?_
  refine lv_iload_n hx hb dX3_tryGeese_30 rfl (lv_at hl 0 rfl) ?_
  refine gw_zald (x := 0) hx hb hK hP 1 2 6 rfl rfl rfl (by decide) (by decide) rfl dX3_tryGeese_31 ?_
  refine lv_if_eq (tgt := 52) hx hb dX3_tryGeese_32 (by decide) (fun _ => ?_) (fun c => absurd (by decide) c)
  refine lv_iinc (v := 7) (lv' := [(3, .int 7), (0, .ref (q 23)), (1, .int 0), (2, .int 0)]) hx hb dX3_tryGeese_52 hl (k := 0) rfl (by decide) (by decide) rfl (fun ls hl => ?_)
  refine lv_goto (tgt := 20) hx hb dX3_tryGeese_55 (by decide) ?_
  refine lv_iload_n hx hb dX3_tryGeese_20 rfl (lv_at hl 0 rfl) ?_
  refine lv_bipush (v := 10) hx hb dX3_tryGeese_21 (by decide) ?_
  refine lv_icmp_ge (tgt := 58) hx hb dX3_tryGeese_23 (by decide) (fun c => absurd c (by decide)) (fun _ => ?_)
  refine lv_aload_n hx hb dX3_tryGeese_26 rfl (lv_at hl 1 rfl) ?_
  refine va_get (D := G) (ci := 3) (v := .ref (q 26)) (C := RX3) (T := TX3) (N := 16) hx hb hts iX3 hown hK hP 0 rfl rfl 2 (by decide) (hts _ m_286) (fun _ h9 => h9) rfl dX3_tryGeese_27 ?_
  refine lv_iload_n hx hb dX3_tryGeese_30 rfl (lv_at hl 0 rfl) ?_
  refine gw_zald (x := 0) hx hb hK hP 1 2 7 rfl rfl rfl (by decide) (by decide) rfl dX3_tryGeese_31 ?_
  refine lv_if_eq (tgt := 52) hx hb dX3_tryGeese_32 (by decide) (fun _ => ?_) (fun c => absurd (by decide) c)
  refine lv_iinc (v := 8) (lv' := [(3, .int 8), (0, .ref (q 23)), (1, .int 0), (2, .int 0)]) hx hb dX3_tryGeese_52 hl (k := 0) rfl (by decide) (by decide) rfl (fun ls hl => ?_)
  refine lv_goto (tgt := 20) hx hb dX3_tryGeese_55 (by decide) ?_
  refine lv_iload_n hx hb dX3_tryGeese_20 rfl (lv_at hl 0 rfl) ?_
  refine lv_bipush (v := 10) hx hb dX3_tryGeese_21 (by decide) ?_
  refine lv_icmp_ge (tgt := 58) hx hb dX3_tryGeese_23 (by decide) (fun c => absurd c (by decide)) (fun _ => ?_)
  refine lv_aload_n hx hb dX3_tryGeese_26 rfl (lv_at hl 1 rfl) ?_
  refine va_get (D := G) (ci := 3) (v := .ref (q 26)) (C := RX3) (T := TX3) (N := 16) hx hb hts iX3 hown hK hP 0 rfl rfl 2 (by decide) (hts _ m_286) (fun _ h9 => h9) rfl dX3_tryGeese_27 ?_
  refine lv_iload_n hx hb dX3_tryGeese_30 rfl (lv_at hl 0 rfl) ?_
  refine gw_zald (x := 0) hx hb hK hP 1 2 8 rfl rfl rfl (by decide) (by decide) rfl dX3_tryGeese_31 ?_
  refine lv_if_eq (tgt := 52) hx hb dX3_tryGeese_32 (by decide) (fun _ => ?_) (fun c => absurd (by decide) c)
  refine lv_iinc (v := 9) (lv' := [(3, .int 9), (0, .ref (q 23)), (1, .int 0), (2, .int 0)]) hx hb dX3_tryGeese_52 hl (k := 0) rfl (by decide) (by decide) rfl (fun ls hl => ?_)
  refine lv_goto (tgt := 20) hx hb dX3_tryGeese_55 (by decide) ?_
  refine lv_iload_n hx hb dX3_tryGeese_20 rfl (lv_at hl 0 rfl) ?_
  refine lv_bipush (v := 10) hx hb dX3_tryGeese_21 (by decide) ?_
  refine lv_icmp_ge (tgt := 58) hx hb dX3_tryGeese_23 (by decide) (fun c => absurd c (by decide)) (fun _ => ?_)
  refine lv_aload_n hx hb dX3_tryGeese_26 rfl (lv_at hl 1 rfl) ?_
  refine va_get (D := G) (ci := 3) (v := .ref (q 26)) (C := RX3) (T := TX3) (N := 16) hx hb hts iX3 hown hK hP 0 rfl rfl 2 (by decide) (hts _ m_286) (fun _ h9 => h9) rfl dX3_tryGeese_27 ?_
  refine lv_iload_n hx hb dX3_tryGeese_30 rfl (lv_at hl 0 rfl) ?_
  refine gw_zald (x := 0) hx hb hK hP 1 2 9 rfl rfl rfl (by decide) (by decide) rfl dX3_tryGeese_31 ?_
  refine lv_if_eq (tgt := 52) hx hb dX3_tryGeese_32 (by decide) (fun _ => ?_) (fun c => absurd (by decide) c)
  refine lv_iinc (v := 10) (lv' := [(3, .int 10), (0, .ref (q 23)), (1, .int 0), (2, .int 0)]) hx hb dX3_tryGeese_52 hl (k := 0) rfl (by decide) (by decide) rfl (fun ls hl => ?_)
  refine lv_goto (tgt := 20) hx hb dX3_tryGeese_55 (by decide) ?_
  refine lv_iload_n hx hb dX3_tryGeese_20 rfl (lv_at hl 0 rfl) ?_
  refine lv_bipush (v := 10) hx hb dX3_tryGeese_21 (by decide) ?_
  refine lv_icmp_ge (tgt := 58) hx hb dX3_tryGeese_23 (by decide) (fun _ => ?_) (fun c => absurd (by decide) c)
  exact gw_vret () hx hb hr hlocks hP hD hS trivial dX3_tryGeese_58
set_option maxHeartbeats 4000000 in
set_option maxRecDepth 100000 in
theorem c_tryGeese2 (l : Launch) (G : va_G) (cI cJ cZ cB cT : ClassId) (q : Nat → Nat) (scl : Int64) (pc1 : Int32)  : gMv l yX3_tryGeese (gws yX3_tryGeese cX3_tryGeese 4 none) 1 G (gT cI cJ cZ cB cT) [.ref (q 23), .int 0, .int 0] [((q 23), .inr (3, [.ref (q 24), .ref (q 25), .ref (q 26), .ref (q 27), .ref (q 28), .ref (q 29), .ref (q 30), .ref (q 31), .int 2, .long scl, .int pc1, .int 0, .int 0, .int 0, .long 0, .int 0])), ((q 26), .inl (cZ, 10, .inl (upd (upd (upd (upd (upd (upd (upd (upd (upd (upd (fun _ => 0) 0 0) 1 0) 2 0) 3 0) 4 0) 5 0) 6 0) 7 0) 8 0) 9 0)))] (fun (_ : Unit) => True) (fun (_ : Unit) => ([((q 23), .inr (3, [.ref (q 24), .ref (q 25), .ref (q 26), .ref (q 27), .ref (q 28), .ref (q 29), .ref (q 30), .ref (q 31), .int 2, .long scl, .int pc1, .int 0, .int 0, .int 0, .long 0, .int 0])), ((q 26), .inl (cZ, 10, .inl (upd (upd (upd (upd (upd (upd (upd (upd (upd (upd (fun _ => 0) 0 0) 1 0) 2 0) 3 0) 4 0) 5 0) 6 0) 7 0) 8 0) 9 0)))] : va_W)) := by
  intro sz
  refine gM_start (y := yX3_tryGeese) (av := [.ref (q 23), .int 0, .int 0]) (ws := [((q 23), .inr (3, [.ref (q 24), .ref (q 25), .ref (q 26), .ref (q 27), .ref (q 28), .ref (q 29), .ref (q 30), .ref (q 31), .int 2, .long scl, .int pc1, .int 0, .int 0, .int 0, .long 0, .int 0])), ((q 26), .inl (cZ, 10, .inl (upd (upd (upd (upd (upd (upd (upd (upd (upd (upd (fun _ => 0) 0 0) 1 0) 2 0) 3 0) 4 0) 5 0) 6 0) 7 0) 8 0) 9 0)))]) (Qf := fun A => va_Qv (fun (_ : Unit) => True) (gB G (fun (_ : Unit) => ([((q 23), .inr (3, [.ref (q 24), .ref (q 25), .ref (q 26), .ref (q 27), .ref (q 28), .ref (q 29), .ref (q 30), .ref (q 31), .int 2, .long scl, .int pc1, .int 0, .int 0, .int 0, .long 0, .int 0])), ((q 26), .inl (cZ, 10, .inl (upd (upd (upd (upd (upd (upd (upd (upd (upd (upd (fun _ => 0) 0 0) 1 0) 2 0) 3 0) 4 0) 5 0) 6 0) 7 0) 8 0) 9 0)))] : va_W)) A) A) (cc := cX3_tryGeese) (maxL := 4) (ret := none) (by decide) (Nat.le_of_ble_eq_true rfl) ?_
  intro p e s m args below meth c A ls H hx hb hr hts hown hin hlocks hml hP hK hD hA hS hl
  have hl : lv_has ls 4 [(0, .ref (q 23)), (1, .int 0), (2, .int 0)] := hl
  refine lv_iload_n hx hb dX3_tryGeese_0 rfl (lv_at hl 1 rfl) ?_
  refine lv_aload_n hx hb dX3_tryGeese_1 rfl (lv_at hl 0 rfl) ?_
  refine va_get (D := G) (ci := 3) (v := .int 2) (C := RX3) (T := TX3) (N := 16) hx hb hts iX3 hown hK hP 0 rfl rfl 8 (by decide) (hts _ m_285) (fun _ h9 => h9) rfl dX3_tryGeese_2 ?_
  refine lv_icmp_ge (tgt := 13) hx hb dX3_tryGeese_5 (by decide) (fun c => absurd c (by decide)) (fun _ => ?_)
  refine lv_iload_n hx hb dX3_tryGeese_8 rfl (lv_at hl 1 rfl) ?_
  refine lv_iconst (v := 3) hx hb dX3_tryGeese_9 (by decide) ?_
  refine lv_icmp_lt (tgt := 18) hx hb dX3_tryGeese_10 (by decide) (fun _ => ?_) (fun c => absurd (by decide) c)
  refine lv_iload_n hx hb dX3_tryGeese_18 rfl (lv_at hl 2 rfl) ?_
  refine lv_istore_n (lv' := [(3, .int 0), (0, .ref (q 23)), (1, .int 0), (2, .int 0)]) hx hb dX3_tryGeese_19 rfl hl (by decide) rfl (fun ls hl => ?_)
  refine lv_iload_n hx hb dX3_tryGeese_20 rfl (lv_at hl 0 rfl) ?_
  refine lv_bipush (v := 10) hx hb dX3_tryGeese_21 (by decide) ?_
  refine lv_icmp_ge (tgt := 58) hx hb dX3_tryGeese_23 (by decide) (fun c => absurd c (by decide)) (fun _ => ?_)
  refine lv_aload_n hx hb dX3_tryGeese_26 rfl (lv_at hl 1 rfl) ?_
  refine va_get (D := G) (ci := 3) (v := .ref (q 26)) (C := RX3) (T := TX3) (N := 16) hx hb hts iX3 hown hK hP 0 rfl rfl 2 (by decide) (hts _ m_286) (fun _ h9 => h9) rfl dX3_tryGeese_27 ?_
  refine lv_iload_n hx hb dX3_tryGeese_30 rfl (lv_at hl 0 rfl) ?_
  refine gw_zald (x := 0) hx hb hK hP 1 2 0 rfl rfl rfl (by decide) (by decide) rfl dX3_tryGeese_31 ?_
  refine lv_if_eq (tgt := 52) hx hb dX3_tryGeese_32 (by decide) (fun _ => ?_) (fun c => absurd (by decide) c)
  refine lv_iinc (v := 1) (lv' := [(3, .int 1), (0, .ref (q 23)), (1, .int 0), (2, .int 0)]) hx hb dX3_tryGeese_52 hl (k := 0) rfl (by decide) (by decide) rfl (fun ls hl => ?_)
  refine lv_goto (tgt := 20) hx hb dX3_tryGeese_55 (by decide) ?_
  refine lv_iload_n hx hb dX3_tryGeese_20 rfl (lv_at hl 0 rfl) ?_
  refine lv_bipush (v := 10) hx hb dX3_tryGeese_21 (by decide) ?_
  refine lv_icmp_ge (tgt := 58) hx hb dX3_tryGeese_23 (by decide) (fun c => absurd c (by decide)) (fun _ => ?_)
  refine lv_aload_n hx hb dX3_tryGeese_26 rfl (lv_at hl 1 rfl) ?_
  refine va_get (D := G) (ci := 3) (v := .ref (q 26)) (C := RX3) (T := TX3) (N := 16) hx hb hts iX3 hown hK hP 0 rfl rfl 2 (by decide) (hts _ m_286) (fun _ h9 => h9) rfl dX3_tryGeese_27 ?_
  refine lv_iload_n hx hb dX3_tryGeese_30 rfl (lv_at hl 0 rfl) ?_
  refine gw_zald (x := 0) hx hb hK hP 1 2 1 rfl rfl rfl (by decide) (by decide) rfl dX3_tryGeese_31 ?_
  refine lv_if_eq (tgt := 52) hx hb dX3_tryGeese_32 (by decide) (fun _ => ?_) (fun c => absurd (by decide) c)
  refine lv_iinc (v := 2) (lv' := [(3, .int 2), (0, .ref (q 23)), (1, .int 0), (2, .int 0)]) hx hb dX3_tryGeese_52 hl (k := 0) rfl (by decide) (by decide) rfl (fun ls hl => ?_)
  refine lv_goto (tgt := 20) hx hb dX3_tryGeese_55 (by decide) ?_
  refine lv_iload_n hx hb dX3_tryGeese_20 rfl (lv_at hl 0 rfl) ?_
  refine lv_bipush (v := 10) hx hb dX3_tryGeese_21 (by decide) ?_
  refine lv_icmp_ge (tgt := 58) hx hb dX3_tryGeese_23 (by decide) (fun c => absurd c (by decide)) (fun _ => ?_)
  refine lv_aload_n hx hb dX3_tryGeese_26 rfl (lv_at hl 1 rfl) ?_
  refine va_get (D := G) (ci := 3) (v := .ref (q 26)) (C := RX3) (T := TX3) (N := 16) hx hb hts iX3 hown hK hP 0 rfl rfl 2 (by decide) (hts _ m_286) (fun _ h9 => h9) rfl dX3_tryGeese_27 ?_
  refine lv_iload_n hx hb dX3_tryGeese_30 rfl (lv_at hl 0 rfl) ?_
  refine gw_zald (x := 0) hx hb hK hP 1 2 2 rfl rfl rfl (by decide) (by decide) rfl dX3_tryGeese_31 ?_
  refine lv_if_eq (tgt := 52) hx hb dX3_tryGeese_32 (by decide) (fun _ => ?_) (fun c => absurd (by decide) c)
  refine lv_iinc (v := 3) (lv' := [(3, .int 3), (0, .ref (q 23)), (1, .int 0), (2, .int 0)]) hx hb dX3_tryGeese_52 hl (k := 0) rfl (by decide) (by decide) rfl (fun ls hl => ?_)
  refine lv_goto (tgt := 20) hx hb dX3_tryGeese_55 (by decide) ?_
  refine lv_iload_n hx hb dX3_tryGeese_20 rfl (lv_at hl 0 rfl) ?_
  refine lv_bipush (v := 10) hx hb dX3_tryGeese_21 (by decide) ?_
  refine lv_icmp_ge (tgt := 58) hx hb dX3_tryGeese_23 (by decide) (fun c => absurd c (by decide)) (fun _ => ?_)
  refine lv_aload_n hx hb dX3_tryGeese_26 rfl (lv_at hl 1 rfl) ?_
  refine va_get (D := G) (ci := 3) (v := .ref (q 26)) (C := RX3) (T := TX3) (N := 16) hx hb hts iX3 hown hK hP 0 rfl rfl 2 (by decide) (hts _ m_286) (fun _ h9 => h9) rfl dX3_tryGeese_27 ?_
  refine lv_iload_n hx hb dX3_tryGeese_30 rfl (lv_at hl 0 rfl) ?_
  refine gw_zald (x := 0) hx hb hK hP 1 2 3 rfl rfl rfl (by decide) (by decide) rfl dX3_tryGeese_31 ?_
  refine lv_if_eq (tgt := 52) hx hb dX3_tryGeese_32 (by decide) (fun _ => ?_) (fun c => absurd (by decide) c)
  refine lv_iinc (v := 4) (lv' := [(3, .int 4), (0, .ref (q 23)), (1, .int 0), (2, .int 0)]) hx hb dX3_tryGeese_52 hl (k := 0) rfl (by decide) (by decide) rfl (fun ls hl => ?_)
  refine lv_goto (tgt := 20) hx hb dX3_tryGeese_55 (by decide) ?_
  refine lv_iload_n hx hb dX3_tryGeese_20 rfl (lv_at hl 0 rfl) ?_
  refine lv_bipush (v := 10) hx hb dX3_tryGeese_21 (by decide) ?_
  refine lv_icmp_ge (tgt := 58) hx hb dX3_tryGeese_23 (by decide) (fun c => absurd c (by decide)) (fun _ => ?_)
  refine lv_aload_n hx hb dX3_tryGeese_26 rfl (lv_at hl 1 rfl) ?_
  refine va_get (D := G) (ci := 3) (v := .ref (q 26)) (C := RX3) (T := TX3) (N := 16) hx hb hts iX3 hown hK hP 0 rfl rfl 2 (by decide) (hts _ m_286) (fun _ h9 => h9) rfl dX3_tryGeese_27 ?_
  refine lv_iload_n hx hb dX3_tryGeese_30 rfl (lv_at hl 0 rfl) ?_
  refine gw_zald (x := 0) hx hb hK hP 1 2 4 rfl rfl rfl (by decide) (by decide) rfl dX3_tryGeese_31 ?_
  refine lv_if_eq (tgt := 52) hx hb dX3_tryGeese_32 (by decide) (fun _ => ?_) (fun c => absurd (by decide) c)
  refine lv_iinc (v := 5) (lv' := [(3, .int 5), (0, .ref (q 23)), (1, .int 0), (2, .int 0)]) hx hb dX3_tryGeese_52 hl (k := 0) rfl (by decide) (by decide) rfl (fun ls hl => ?_)
  refine lv_goto (tgt := 20) hx hb dX3_tryGeese_55 (by decide) ?_
  refine lv_iload_n hx hb dX3_tryGeese_20 rfl (lv_at hl 0 rfl) ?_
  refine lv_bipush (v := 10) hx hb dX3_tryGeese_21 (by decide) ?_
  refine lv_icmp_ge (tgt := 58) hx hb dX3_tryGeese_23 (by decide) (fun c => absurd c (by decide)) (fun _ => ?_)
  refine lv_aload_n hx hb dX3_tryGeese_26 rfl (lv_at hl 1 rfl) ?_
  refine va_get (D := G) (ci := 3) (v := .ref (q 26)) (C := RX3) (T := TX3) (N := 16) hx hb hts iX3 hown hK hP 0 rfl rfl 2 (by decide) (hts _ m_286) (fun _ h9 => h9) rfl dX3_tryGeese_27 ?_
  refine lv_iload_n hx hb dX3_tryGeese_30 rfl (lv_at hl 0 rfl) ?_
  refine gw_zald (x := 0) hx hb hK hP 1 2 5 rfl rfl rfl (by decide) (by decide) rfl dX3_tryGeese_31 ?_
  refine lv_if_eq (tgt := 52) hx hb dX3_tryGeese_32 (by decide) (fun _ => ?_) (fun c => absurd (by decide) c)
  refine lv_iinc (v := 6) (lv' := [(3, .int 6), (0, .ref (q 23)), (1, .int 0), (2, .int 0)]) hx hb dX3_tryGeese_52 hl (k := 0) rfl (by decide) (by decide) rfl (fun ls hl => ?_)
  refine lv_goto (tgt := 20) hx hb dX3_tryGeese_55 (by decide) ?_
  refine lv_iload_n hx hb dX3_tryGeese_20 rfl (lv_at hl 0 rfl) ?_
  refine lv_bipush (v := 10) hx hb dX3_tryGeese_21 (by decide) ?_
  refine lv_icmp_ge (tgt := 58) hx hb dX3_tryGeese_23 (by decide) (fun c => absurd c (by decide)) (fun _ => ?_)
  refine lv_aload_n hx hb dX3_tryGeese_26 rfl (lv_at hl 1 rfl) ?_
  refine va_get (D := G) (ci := 3) (v := .ref (q 26)) (C := RX3) (T := TX3) (N := 16) hx hb hts iX3 hown hK hP 0 rfl rfl 2 (by decide) (hts _ m_286) (fun _ h9 => h9) rfl dX3_tryGeese_27 ?_
  refine lv_iload_n hx hb dX3_tryGeese_30 rfl (lv_at hl 0 rfl) ?_
  refine gw_zald (x := 0) hx hb hK hP 1 2 6 rfl rfl rfl (by decide) (by decide) rfl dX3_tryGeese_31 ?_
  refine lv_if_eq (tgt := 52) hx hb dX3_tryGeese_32 (by decide) (fun _ => ?_) (fun c => absurd (by decide) c)
  refine lv_iinc (v := 7) (lv' := [(3, .int 7), (0, .ref (q 23)), (1, .int 0), (2, .int 0)]) hx hb dX3_tryGeese_52 hl (k := 0) rfl (by decide) (by decide) rfl (fun ls hl => ?_)
  refine lv_goto (tgt := 20) hx hb dX3_tryGeese_55 (by decide) ?_
  refine lv_iload_n hx hb dX3_tryGeese_20 rfl (lv_at hl 0 rfl) ?_
  refine lv_bipush (v := 10) hx hb dX3_tryGeese_21 (by decide) ?_
  refine lv_icmp_ge (tgt := 58) hx hb dX3_tryGeese_23 (by decide) (fun c => absurd c (by decide)) (fun _ => ?_)
  refine lv_aload_n hx hb dX3_tryGeese_26 rfl (lv_at hl 1 rfl) ?_
  refine va_get (D := G) (ci := 3) (v := .ref (q 26)) (C := RX3) (T := TX3) (N := 16) hx hb hts iX3 hown hK hP 0 rfl rfl 2 (by decide) (hts _ m_286) (fun _ h9 => h9) rfl dX3_tryGeese_27 ?_
  refine lv_iload_n hx hb dX3_tryGeese_30 rfl (lv_at hl 0 rfl) ?_
  refine gw_zald (x := 0) hx hb hK hP 1 2 7 rfl rfl rfl (by decide) (by decide) rfl dX3_tryGeese_31 ?_
  refine lv_if_eq (tgt := 52) hx hb dX3_tryGeese_32 (by decide) (fun _ => ?_) (fun c => absurd (by decide) c)
  refine lv_iinc (v := 8) (lv' := [(3, .int 8), (0, .ref (q 23)), (1, .int 0), (2, .int 0)]) hx hb dX3_tryGeese_52 hl (k := 0) rfl (by decide) (by decide) rfl (fun ls hl => ?_)
  refine lv_goto (tgt := 20) hx hb dX3_tryGeese_55 (by decide) ?_
  refine lv_iload_n hx hb dX3_tryGeese_20 rfl (lv_at hl 0 rfl) ?_
  refine lv_bipush (v := 10) hx hb dX3_tryGeese_21 (by decide) ?_
  refine lv_icmp_ge (tgt := 58) hx hb dX3_tryGeese_23 (by decide) (fun c => absurd c (by decide)) (fun _ => ?_)
  refine lv_aload_n hx hb dX3_tryGeese_26 rfl (lv_at hl 1 rfl) ?_
  refine va_get (D := G) (ci := 3) (v := .ref (q 26)) (C := RX3) (T := TX3) (N := 16) hx hb hts iX3 hown hK hP 0 rfl rfl 2 (by decide) (hts _ m_286) (fun _ h9 => h9) rfl dX3_tryGeese_27 ?_
  refine lv_iload_n hx hb dX3_tryGeese_30 rfl (lv_at hl 0 rfl) ?_
  refine gw_zald (x := 0) hx hb hK hP 1 2 8 rfl rfl rfl (by decide) (by decide) rfl dX3_tryGeese_31 ?_
  refine lv_if_eq (tgt := 52) hx hb dX3_tryGeese_32 (by decide) (fun _ => ?_) (fun c => absurd (by decide) c)
  refine lv_iinc (v := 9) (lv' := [(3, .int 9), (0, .ref (q 23)), (1, .int 0), (2, .int 0)]) hx hb dX3_tryGeese_52 hl (k := 0) rfl (by decide) (by decide) rfl (fun ls hl => ?_)
  refine lv_goto (tgt := 20) hx hb dX3_tryGeese_55 (by decide) ?_
  refine lv_iload_n hx hb dX3_tryGeese_20 rfl (lv_at hl 0 rfl) ?_
  refine lv_bipush (v := 10) hx hb dX3_tryGeese_21 (by decide) ?_
  refine lv_icmp_ge (tgt := 58) hx hb dX3_tryGeese_23 (by decide) (fun c => absurd c (by decide)) (fun _ => ?_)
  refine lv_aload_n hx hb dX3_tryGeese_26 rfl (lv_at hl 1 rfl) ?_
  refine va_get (D := G) (ci := 3) (v := .ref (q 26)) (C := RX3) (T := TX3) (N := 16) hx hb hts iX3 hown hK hP 0 rfl rfl 2 (by decide) (hts _ m_286) (fun _ h9 => h9) rfl dX3_tryGeese_27 ?_
  refine lv_iload_n hx hb dX3_tryGeese_30 rfl (lv_at hl 0 rfl) ?_
  refine gw_zald (x := 0) hx hb hK hP 1 2 9 rfl rfl rfl (by decide) (by decide) rfl dX3_tryGeese_31 ?_
  refine lv_if_eq (tgt := 52) hx hb dX3_tryGeese_32 (by decide) (fun _ => ?_) (fun c => absurd (by decide) c)
  refine lv_iinc (v := 10) (lv' := [(3, .int 10), (0, .ref (q 23)), (1, .int 0), (2, .int 0)]) hx hb dX3_tryGeese_52 hl (k := 0) rfl (by decide) (by decide) rfl (fun ls hl => ?_)
  refine lv_goto (tgt := 20) hx hb dX3_tryGeese_55 (by decide) ?_
  refine lv_iload_n hx hb dX3_tryGeese_20 rfl (lv_at hl 0 rfl) ?_
  refine lv_bipush (v := 10) hx hb dX3_tryGeese_21 (by decide) ?_
  refine lv_icmp_ge (tgt := 58) hx hb dX3_tryGeese_23 (by decide) (fun _ => ?_) (fun c => absurd (by decide) c)
  exact gw_vret () hx hb hr hlocks hP hD hS trivial dX3_tryGeese_58
set_option maxHeartbeats 4000000 in
set_option maxRecDepth 100000 in
theorem c_tryGeese3 (l : Launch) (G : va_G) (cI cJ cZ cB cT : ClassId) (q : Nat → Nat) (scl : Int64) (pc1 : Int32)  : gMv l yX3_tryGeese (gws yX3_tryGeese cX3_tryGeese 4 none) 1 G (gT cI cJ cZ cB cT) [.ref (q 23), .int 0, .int 0] [((q 23), .inr (3, [.ref (q 24), .ref (q 25), .ref (q 26), .ref (q 27), .ref (q 28), .ref (q 29), .ref (q 30), .ref (q 31), .int 3, .long scl, .int pc1, .int 0, .int 0, .int 0, .long 0, .int 0])), ((q 26), .inl (cZ, 10, .inl (upd (upd (upd (upd (upd (upd (upd (upd (upd (upd (fun _ => 0) 0 0) 1 0) 2 0) 3 0) 4 0) 5 0) 6 0) 7 0) 8 0) 9 0)))] (fun (_ : Unit) => True) (fun (_ : Unit) => ([((q 23), .inr (3, [.ref (q 24), .ref (q 25), .ref (q 26), .ref (q 27), .ref (q 28), .ref (q 29), .ref (q 30), .ref (q 31), .int 3, .long scl, .int pc1, .int 0, .int 0, .int 0, .long 0, .int 0])), ((q 26), .inl (cZ, 10, .inl (upd (upd (upd (upd (upd (upd (upd (upd (upd (upd (fun _ => 0) 0 0) 1 0) 2 0) 3 0) 4 0) 5 0) 6 0) 7 0) 8 0) 9 0)))] : va_W)) := by
  intro sz
  refine gM_start (y := yX3_tryGeese) (av := [.ref (q 23), .int 0, .int 0]) (ws := [((q 23), .inr (3, [.ref (q 24), .ref (q 25), .ref (q 26), .ref (q 27), .ref (q 28), .ref (q 29), .ref (q 30), .ref (q 31), .int 3, .long scl, .int pc1, .int 0, .int 0, .int 0, .long 0, .int 0])), ((q 26), .inl (cZ, 10, .inl (upd (upd (upd (upd (upd (upd (upd (upd (upd (upd (fun _ => 0) 0 0) 1 0) 2 0) 3 0) 4 0) 5 0) 6 0) 7 0) 8 0) 9 0)))]) (Qf := fun A => va_Qv (fun (_ : Unit) => True) (gB G (fun (_ : Unit) => ([((q 23), .inr (3, [.ref (q 24), .ref (q 25), .ref (q 26), .ref (q 27), .ref (q 28), .ref (q 29), .ref (q 30), .ref (q 31), .int 3, .long scl, .int pc1, .int 0, .int 0, .int 0, .long 0, .int 0])), ((q 26), .inl (cZ, 10, .inl (upd (upd (upd (upd (upd (upd (upd (upd (upd (upd (fun _ => 0) 0 0) 1 0) 2 0) 3 0) 4 0) 5 0) 6 0) 7 0) 8 0) 9 0)))] : va_W)) A) A) (cc := cX3_tryGeese) (maxL := 4) (ret := none) (by decide) (Nat.le_of_ble_eq_true rfl) ?_
  intro p e s m args below meth c A ls H hx hb hr hts hown hin hlocks hml hP hK hD hA hS hl
  have hl : lv_has ls 4 [(0, .ref (q 23)), (1, .int 0), (2, .int 0)] := hl
  refine lv_iload_n hx hb dX3_tryGeese_0 rfl (lv_at hl 1 rfl) ?_
  refine lv_aload_n hx hb dX3_tryGeese_1 rfl (lv_at hl 0 rfl) ?_
  refine va_get (D := G) (ci := 3) (v := .int 3) (C := RX3) (T := TX3) (N := 16) hx hb hts iX3 hown hK hP 0 rfl rfl 8 (by decide) (hts _ m_285) (fun _ h9 => h9) rfl dX3_tryGeese_2 ?_
  refine lv_icmp_ge (tgt := 13) hx hb dX3_tryGeese_5 (by decide) (fun c => absurd c (by decide)) (fun _ => ?_)
  refine lv_iload_n hx hb dX3_tryGeese_8 rfl (lv_at hl 1 rfl) ?_
  refine lv_iconst (v := 3) hx hb dX3_tryGeese_9 (by decide) ?_
  refine lv_icmp_lt (tgt := 18) hx hb dX3_tryGeese_10 (by decide) (fun _ => ?_) (fun c => absurd (by decide) c)
  refine lv_iload_n hx hb dX3_tryGeese_18 rfl (lv_at hl 2 rfl) ?_
  refine lv_istore_n (lv' := [(3, .int 0), (0, .ref (q 23)), (1, .int 0), (2, .int 0)]) hx hb dX3_tryGeese_19 rfl hl (by decide) rfl (fun ls hl => ?_)
  refine lv_iload_n hx hb dX3_tryGeese_20 rfl (lv_at hl 0 rfl) ?_
  refine lv_bipush (v := 10) hx hb dX3_tryGeese_21 (by decide) ?_
  refine lv_icmp_ge (tgt := 58) hx hb dX3_tryGeese_23 (by decide) (fun c => absurd c (by decide)) (fun _ => ?_)
  refine lv_aload_n hx hb dX3_tryGeese_26 rfl (lv_at hl 1 rfl) ?_
  refine va_get (D := G) (ci := 3) (v := .ref (q 26)) (C := RX3) (T := TX3) (N := 16) hx hb hts iX3 hown hK hP 0 rfl rfl 2 (by decide) (hts _ m_286) (fun _ h9 => h9) rfl dX3_tryGeese_27 ?_
  refine lv_iload_n hx hb dX3_tryGeese_30 rfl (lv_at hl 0 rfl) ?_
  refine gw_zald (x := 0) hx hb hK hP 1 2 0 rfl rfl rfl (by decide) (by decide) rfl dX3_tryGeese_31 ?_
  refine lv_if_eq (tgt := 52) hx hb dX3_tryGeese_32 (by decide) (fun _ => ?_) (fun c => absurd (by decide) c)
  refine lv_iinc (v := 1) (lv' := [(3, .int 1), (0, .ref (q 23)), (1, .int 0), (2, .int 0)]) hx hb dX3_tryGeese_52 hl (k := 0) rfl (by decide) (by decide) rfl (fun ls hl => ?_)
  refine lv_goto (tgt := 20) hx hb dX3_tryGeese_55 (by decide) ?_
  refine lv_iload_n hx hb dX3_tryGeese_20 rfl (lv_at hl 0 rfl) ?_
  refine lv_bipush (v := 10) hx hb dX3_tryGeese_21 (by decide) ?_
  refine lv_icmp_ge (tgt := 58) hx hb dX3_tryGeese_23 (by decide) (fun c => absurd c (by decide)) (fun _ => ?_)
  refine lv_aload_n hx hb dX3_tryGeese_26 rfl (lv_at hl 1 rfl) ?_
  refine va_get (D := G) (ci := 3) (v := .ref (q 26)) (C := RX3) (T := TX3) (N := 16) hx hb hts iX3 hown hK hP 0 rfl rfl 2 (by decide) (hts _ m_286) (fun _ h9 => h9) rfl dX3_tryGeese_27 ?_
  refine lv_iload_n hx hb dX3_tryGeese_30 rfl (lv_at hl 0 rfl) ?_
  refine gw_zald (x := 0) hx hb hK hP 1 2 1 rfl rfl rfl (by decide) (by decide) rfl dX3_tryGeese_31 ?_
  refine lv_if_eq (tgt := 52) hx hb dX3_tryGeese_32 (by decide) (fun _ => ?_) (fun c => absurd (by decide) c)
  refine lv_iinc (v := 2) (lv' := [(3, .int 2), (0, .ref (q 23)), (1, .int 0), (2, .int 0)]) hx hb dX3_tryGeese_52 hl (k := 0) rfl (by decide) (by decide) rfl (fun ls hl => ?_)
  refine lv_goto (tgt := 20) hx hb dX3_tryGeese_55 (by decide) ?_
  refine lv_iload_n hx hb dX3_tryGeese_20 rfl (lv_at hl 0 rfl) ?_
  refine lv_bipush (v := 10) hx hb dX3_tryGeese_21 (by decide) ?_
  refine lv_icmp_ge (tgt := 58) hx hb dX3_tryGeese_23 (by decide) (fun c => absurd c (by decide)) (fun _ => ?_)
  refine lv_aload_n hx hb dX3_tryGeese_26 rfl (lv_at hl 1 rfl) ?_
  refine va_get (D := G) (ci := 3) (v := .ref (q 26)) (C := RX3) (T := TX3) (N := 16) hx hb hts iX3 hown hK hP 0 rfl rfl 2 (by decide) (hts _ m_286) (fun _ h9 => h9) rfl dX3_tryGeese_27 ?_
  refine lv_iload_n hx hb dX3_tryGeese_30 rfl (lv_at hl 0 rfl) ?_
  refine gw_zald (x := 0) hx hb hK hP 1 2 2 rfl rfl rfl (by decide) (by decide) rfl dX3_tryGeese_31 ?_
  refine lv_if_eq (tgt := 52) hx hb dX3_tryGeese_32 (by decide) (fun _ => ?_) (fun c => absurd (by decide) c)
  refine lv_iinc (v := 3) (lv' := [(3, .int 3), (0, .ref (q 23)), (1, .int 0), (2, .int 0)]) hx hb dX3_tryGeese_52 hl (k := 0) rfl (by decide) (by decide) rfl (fun ls hl => ?_)
  refine lv_goto (tgt := 20) hx hb dX3_tryGeese_55 (by decide) ?_
  refine lv_iload_n hx hb dX3_tryGeese_20 rfl (lv_at hl 0 rfl) ?_
  refine lv_bipush (v := 10) hx hb dX3_tryGeese_21 (by decide) ?_
  refine lv_icmp_ge (tgt := 58) hx hb dX3_tryGeese_23 (by decide) (fun c => absurd c (by decide)) (fun _ => ?_)
  refine lv_aload_n hx hb dX3_tryGeese_26 rfl (lv_at hl 1 rfl) ?_
  refine va_get (D := G) (ci := 3) (v := .ref (q 26)) (C := RX3) (T := TX3) (N := 16) hx hb hts iX3 hown hK hP 0 rfl rfl 2 (by decide) (hts _ m_286) (fun _ h9 => h9) rfl dX3_tryGeese_27 ?_
  refine lv_iload_n hx hb dX3_tryGeese_30 rfl (lv_at hl 0 rfl) ?_
  refine gw_zald (x := 0) hx hb hK hP 1 2 3 rfl rfl rfl (by decide) (by decide) rfl dX3_tryGeese_31 ?_
  refine lv_if_eq (tgt := 52) hx hb dX3_tryGeese_32 (by decide) (fun _ => ?_) (fun c => absurd (by decide) c)
  refine lv_iinc (v := 4) (lv' := [(3, .int 4), (0, .ref (q 23)), (1, .int 0), (2, .int 0)]) hx hb dX3_tryGeese_52 hl (k := 0) rfl (by decide) (by decide) rfl (fun ls hl => ?_)
  refine lv_goto (tgt := 20) hx hb dX3_tryGeese_55 (by decide) ?_
  refine lv_iload_n hx hb dX3_tryGeese_20 rfl (lv_at hl 0 rfl) ?_
  refine lv_bipush (v := 10) hx hb dX3_tryGeese_21 (by decide) ?_
  refine lv_icmp_ge (tgt := 58) hx hb dX3_tryGeese_23 (by decide) (fun c => absurd c (by decide)) (fun _ => ?_)
  refine lv_aload_n hx hb dX3_tryGeese_26 rfl (lv_at hl 1 rfl) ?_
  refine va_get (D := G) (ci := 3) (v := .ref (q 26)) (C := RX3) (T := TX3) (N := 16) hx hb hts iX3 hown hK hP 0 rfl rfl 2 (by decide) (hts _ m_286) (fun _ h9 => h9) rfl dX3_tryGeese_27 ?_
  refine lv_iload_n hx hb dX3_tryGeese_30 rfl (lv_at hl 0 rfl) ?_
  refine gw_zald (x := 0) hx hb hK hP 1 2 4 rfl rfl rfl (by decide) (by decide) rfl dX3_tryGeese_31 ?_
  refine lv_if_eq (tgt := 52) hx hb dX3_tryGeese_32 (by decide) (fun _ => ?_) (fun c => absurd (by decide) c)
  refine lv_iinc (v := 5) (lv' := [(3, .int 5), (0, .ref (q 23)), (1, .int 0), (2, .int 0)]) hx hb dX3_tryGeese_52 hl (k := 0) rfl (by decide) (by decide) rfl (fun ls hl => ?_)
  refine lv_goto (tgt := 20) hx hb dX3_tryGeese_55 (by decide) ?_
  refine lv_iload_n hx hb dX3_tryGeese_20 rfl (lv_at hl 0 rfl) ?_
  refine lv_bipush (v := 10) hx hb dX3_tryGeese_21 (by decide) ?_
  refine lv_icmp_ge (tgt := 58) hx hb dX3_tryGeese_23 (by decide) (fun c => absurd c (by decide)) (fun _ => ?_)
  refine lv_aload_n hx hb dX3_tryGeese_26 rfl (lv_at hl 1 rfl) ?_
  refine va_get (D := G) (ci := 3) (v := .ref (q 26)) (C := RX3) (T := TX3) (N := 16) hx hb hts iX3 hown hK hP 0 rfl rfl 2 (by decide) (hts _ m_286) (fun _ h9 => h9) rfl dX3_tryGeese_27 ?_
  refine lv_iload_n hx hb dX3_tryGeese_30 rfl (lv_at hl 0 rfl) ?_
  refine gw_zald (x := 0) hx hb hK hP 1 2 5 rfl rfl rfl (by decide) (by decide) rfl dX3_tryGeese_31 ?_
  refine lv_if_eq (tgt := 52) hx hb dX3_tryGeese_32 (by decide) (fun _ => ?_) (fun c => absurd (by decide) c)
  refine lv_iinc (v := 6) (lv' := [(3, .int 6), (0, .ref (q 23)), (1, .int 0), (2, .int 0)]) hx hb dX3_tryGeese_52 hl (k := 0) rfl (by decide) (by decide) rfl (fun ls hl => ?_)
  refine lv_goto (tgt := 20) hx hb dX3_tryGeese_55 (by decide) ?_
  refine lv_iload_n hx hb dX3_tryGeese_20 rfl (lv_at hl 0 rfl) ?_
  refine lv_bipush (v := 10) hx hb dX3_tryGeese_21 (by decide) ?_
  refine lv_icmp_ge (tgt := 58) hx hb dX3_tryGeese_23 (by decide) (fun c => absurd c (by decide)) (fun _ => ?_)
  refine lv_aload_n hx hb dX3_tryGeese_26 rfl (lv_at hl 1 rfl) ?_
  refine va_get (D := G) (ci := 3) (v := .ref (q 26)) (C := RX3) (T := TX3) (N := 16) hx hb hts iX3 hown hK hP 0 rfl rfl 2 (by decide) (hts _ m_286) (fun _ h9 => h9) rfl dX3_tryGeese_27 ?_
  refine lv_iload_n hx hb dX3_tryGeese_30 rfl (lv_at hl 0 rfl) ?_
  refine gw_zald (x := 0) hx hb hK hP 1 2 6 rfl rfl rfl (by decide) (by decide) rfl dX3_tryGeese_31 ?_
  refine lv_if_eq (tgt := 52) hx hb dX3_tryGeese_32 (by decide) (fun _ => ?_) (fun c => absurd (by decide) c)
  refine lv_iinc (v := 7) (lv' := [(3, .int 7), (0, .ref (q 23)), (1, .int 0), (2, .int 0)]) hx hb dX3_tryGeese_52 hl (k := 0) rfl (by decide) (by decide) rfl (fun ls hl => ?_)
  refine lv_goto (tgt := 20) hx hb dX3_tryGeese_55 (by decide) ?_
  refine lv_iload_n hx hb dX3_tryGeese_20 rfl (lv_at hl 0 rfl) ?_
  refine lv_bipush (v := 10) hx hb dX3_tryGeese_21 (by decide) ?_
  refine lv_icmp_ge (tgt := 58) hx hb dX3_tryGeese_23 (by decide) (fun c => absurd c (by decide)) (fun _ => ?_)
  refine lv_aload_n hx hb dX3_tryGeese_26 rfl (lv_at hl 1 rfl) ?_
  refine va_get (D := G) (ci := 3) (v := .ref (q 26)) (C := RX3) (T := TX3) (N := 16) hx hb hts iX3 hown hK hP 0 rfl rfl 2 (by decide) (hts _ m_286) (fun _ h9 => h9) rfl dX3_tryGeese_27 ?_
  refine lv_iload_n hx hb dX3_tryGeese_30 rfl (lv_at hl 0 rfl) ?_
  refine gw_zald (x := 0) hx hb hK hP 1 2 7 rfl rfl rfl (by decide) (by decide) rfl dX3_tryGeese_31 ?_
  refine lv_if_eq (tgt := 52) hx hb dX3_tryGeese_32 (by decide) (fun _ => ?_) (fun c => absurd (by decide) c)
  refine lv_iinc (v := 8) (lv' := [(3, .int 8), (0, .ref (q 23)), (1, .int 0), (2, .int 0)]) hx hb dX3_tryGeese_52 hl (k := 0) rfl (by decide) (by decide) rfl (fun ls hl => ?_)
  refine lv_goto (tgt := 20) hx hb dX3_tryGeese_55 (by decide) ?_
  refine lv_iload_n hx hb dX3_tryGeese_20 rfl (lv_at hl 0 rfl) ?_
  refine lv_bipush (v := 10) hx hb dX3_tryGeese_21 (by decide) ?_
  refine lv_icmp_ge (tgt := 58) hx hb dX3_tryGeese_23 (by decide) (fun c => absurd c (by decide)) (fun _ => ?_)
  refine lv_aload_n hx hb dX3_tryGeese_26 rfl (lv_at hl 1 rfl) ?_
  refine va_get (D := G) (ci := 3) (v := .ref (q 26)) (C := RX3) (T := TX3) (N := 16) hx hb hts iX3 hown hK hP 0 rfl rfl 2 (by decide) (hts _ m_286) (fun _ h9 => h9) rfl dX3_tryGeese_27 ?_
  refine lv_iload_n hx hb dX3_tryGeese_30 rfl (lv_at hl 0 rfl) ?_
  refine gw_zald (x := 0) hx hb hK hP 1 2 8 rfl rfl rfl (by decide) (by decide) rfl dX3_tryGeese_31 ?_
  refine lv_if_eq (tgt := 52) hx hb dX3_tryGeese_32 (by decide) (fun _ => ?_) (fun c => absurd (by decide) c)
  refine lv_iinc (v := 9) (lv' := [(3, .int 9), (0, .ref (q 23)), (1, .int 0), (2, .int 0)]) hx hb dX3_tryGeese_52 hl (k := 0) rfl (by decide) (by decide) rfl (fun ls hl => ?_)
  refine lv_goto (tgt := 20) hx hb dX3_tryGeese_55 (by decide) ?_
  refine lv_iload_n hx hb dX3_tryGeese_20 rfl (lv_at hl 0 rfl) ?_
  refine lv_bipush (v := 10) hx hb dX3_tryGeese_21 (by decide) ?_
  refine lv_icmp_ge (tgt := 58) hx hb dX3_tryGeese_23 (by decide) (fun c => absurd c (by decide)) (fun _ => ?_)
  refine lv_aload_n hx hb dX3_tryGeese_26 rfl (lv_at hl 1 rfl) ?_
  refine va_get (D := G) (ci := 3) (v := .ref (q 26)) (C := RX3) (T := TX3) (N := 16) hx hb hts iX3 hown hK hP 0 rfl rfl 2 (by decide) (hts _ m_286) (fun _ h9 => h9) rfl dX3_tryGeese_27 ?_
  refine lv_iload_n hx hb dX3_tryGeese_30 rfl (lv_at hl 0 rfl) ?_
  refine gw_zald (x := 0) hx hb hK hP 1 2 9 rfl rfl rfl (by decide) (by decide) rfl dX3_tryGeese_31 ?_
  refine lv_if_eq (tgt := 52) hx hb dX3_tryGeese_32 (by decide) (fun _ => ?_) (fun c => absurd (by decide) c)
  refine lv_iinc (v := 10) (lv' := [(3, .int 10), (0, .ref (q 23)), (1, .int 0), (2, .int 0)]) hx hb dX3_tryGeese_52 hl (k := 0) rfl (by decide) (by decide) rfl (fun ls hl => ?_)
  refine lv_goto (tgt := 20) hx hb dX3_tryGeese_55 (by decide) ?_
  refine lv_iload_n hx hb dX3_tryGeese_20 rfl (lv_at hl 0 rfl) ?_
  refine lv_bipush (v := 10) hx hb dX3_tryGeese_21 (by decide) ?_
  refine lv_icmp_ge (tgt := 58) hx hb dX3_tryGeese_23 (by decide) (fun _ => ?_) (fun c => absurd (by decide) c)
  exact gw_vret () hx hb hr hlocks hP hD hS trivial dX3_tryGeese_58
theorem e_X3_tryGeese : yX3_tryGeese.cls = RX3 ∧ yX3_tryGeese.cls ≠ "java/lang/invoke/MethodHandle" ∧ yX3_tryGeese.cls ≠ "java/lang/invoke/VarHandle" ∧ (parseMethodDescriptor yX3_tryGeese.desc).map (fun d => d.parameters.length) = some 2 := by decide +kernel
set_option maxHeartbeats 4000000 in
set_option maxRecDepth 100000 in
theorem c_fewest0 (l : Launch) (G : va_G) (cI cJ cZ cB cT : ClassId) (q : Nat → Nat) (p1 : Int32) (p2 : Int32)  : gMi l yX3_fewest (gws yX3_fewest cX3_fewest 6 (some .int)) 4 G (gT cI cJ cZ cB cT) [.ref (q 23), .ref (q 1), .ref (q 16), .int p1, .int p2] [((q 23), .inr (3, [.ref (q 24), .ref (q 25), .ref (q 26), .ref (q 27), .ref (q 28), .ref (q 29), .ref (q 30), .ref (q 31), .int 0, .long 1, .int 0, .int 0, .int 0, .int 0, .long 0, .int 0])), ((q 26), .inl (cZ, 10, .inl (fun _ => 0))), ((q 1), .inr (4, [.ref (q 2), .ref (q 3), .ref (q 4), .int 0, .int 0, .int 0, .int 0, .int 0, .int 9, .int 0, .int (-1), .int 0, .int 0])), ((q 2), .inl (cI, 90, .inl (fun _ => 0))), ((q 3), .inl (cI, 12, .inl (fun _ => 0))), ((q 4), .inl (cI, 1880, .inl (fun _ => 0)))] (fun r (_ : Unit) => r = 0) (fun (_ : Unit) => ([] : va_W)) := by
  intro sz
  refine gM_start (y := yX3_fewest) (av := [.ref (q 23), .ref (q 1), .ref (q 16), .int p1, .int p2]) (ws := [((q 23), .inr (3, [.ref (q 24), .ref (q 25), .ref (q 26), .ref (q 27), .ref (q 28), .ref (q 29), .ref (q 30), .ref (q 31), .int 0, .long 1, .int 0, .int 0, .int 0, .int 0, .long 0, .int 0])), ((q 26), .inl (cZ, 10, .inl (fun _ => 0))), ((q 1), .inr (4, [.ref (q 2), .ref (q 3), .ref (q 4), .int 0, .int 0, .int 0, .int 0, .int 0, .int 9, .int 0, .int (-1), .int 0, .int 0])), ((q 2), .inl (cI, 90, .inl (fun _ => 0))), ((q 3), .inl (cI, 12, .inl (fun _ => 0))), ((q 4), .inl (cI, 1880, .inl (fun _ => 0)))]) (Qf := fun A => va_Qi (fun r (_ : Unit) => r = 0) (gB G (fun (_ : Unit) => ([] : va_W)) A) A) (cc := cX3_fewest) (maxL := 6) (ret := (some .int)) (by decide) (Nat.le_of_ble_eq_true rfl) ?_
  intro p e s m args below meth c A ls H hx hb hr hts hown hin hlocks hml hP hK hD hA hS hl
  have hl : lv_has ls 6 [(0, .ref (q 23)), (1, .ref (q 1)), (2, .ref (q 16)), (3, .int p1), (4, .int p2)] := hl
  refine lv_aload_n hx hb dX3_fewest_0 rfl (lv_at hl 0 rfl) ?_
  refine lv_iload hx hb dX3_fewest_1 (lv_at hl 4 rfl) ?_
  refine va_put (D := G) (ci := 3) (v := .int p2) (ty := .int) (C := RX3) (T := TX3) (N := 16) hx hb hts iX3 tyX3 tyX3_ok nmX3 hown hK hP hD hS 0 rfl rfl 10 (by decide) (hts _ m_287) (fun _ h9 => h9) rfl (tyX3_ok 10 (by decide)) rfl rfl (Nat.le_of_ble_eq_true rfl) dX3_fewest_3 (fun H locs hP hD hS => ?_)
  have hP : va_P G vwCl [((q 23), .inr (3, [.ref (q 24), .ref (q 25), .ref (q 26), .ref (q 27), .ref (q 28), .ref (q 29), .ref (q 30), .ref (q 31), .int 0, .long 1, .int p2, .int 0, .int 0, .int 0, .long 0, .int 0])), ((q 26), .inl (cZ, 10, .inl (fun _ => 0))), ((q 1), .inr (4, [.ref (q 2), .ref (q 3), .ref (q 4), .int 0, .int 0, .int 0, .int 0, .int 0, .int 9, .int 0, .int (-1), .int 0, .int 0])), ((q 2), .inl (cI, 90, .inl (fun _ => 0))), ((q 3), .inl (cI, 12, .inl (fun _ => 0))), ((q 4), .inl (cI, 1880, .inl (fun _ => 0)))] H := hP
  have hD : va_D A [((q 23), .inr (3, [.ref (q 24), .ref (q 25), .ref (q 26), .ref (q 27), .ref (q 28), .ref (q 29), .ref (q 30), .ref (q 31), .int 0, .long 1, .int p2, .int 0, .int 0, .int 0, .long 0, .int 0])), ((q 26), .inl (cZ, 10, .inl (fun _ => 0))), ((q 1), .inr (4, [.ref (q 2), .ref (q 3), .ref (q 4), .int 0, .int 0, .int 0, .int 0, .int 0, .int 9, .int 0, .int (-1), .int 0, .int 0])), ((q 2), .inl (cI, 90, .inl (fun _ => 0))), ((q 3), .inl (cI, 12, .inl (fun _ => 0))), ((q 4), .inl (cI, 1880, .inl (fun _ => 0)))] := hD
  refine lv_aload_n hx hb dX3_fewest_6 rfl (lv_at hl 0 rfl) ?_
  refine lv_lconst (v := 1) hx hb dX3_fewest_7 (by decide) ?_
  refine va_put (D := G) (ci := 3) (v := .long 1) (ty := .long) (C := RX3) (T := TX3) (N := 16) hx hb hts iX3 tyX3 tyX3_ok nmX3 hown hK hP hD hS 0 rfl rfl 9 (by decide) (hts _ m_288) (fun _ h9 => h9) rfl (tyX3_ok 9 (by decide)) rfl rfl (Nat.le_of_ble_eq_true rfl) dX3_fewest_8 (fun H locs hP hD hS => ?_)
  have hP : va_P G vwCl [((q 23), .inr (3, [.ref (q 24), .ref (q 25), .ref (q 26), .ref (q 27), .ref (q 28), .ref (q 29), .ref (q 30), .ref (q 31), .int 0, .long 1, .int p2, .int 0, .int 0, .int 0, .long 0, .int 0])), ((q 26), .inl (cZ, 10, .inl (fun _ => 0))), ((q 1), .inr (4, [.ref (q 2), .ref (q 3), .ref (q 4), .int 0, .int 0, .int 0, .int 0, .int 0, .int 9, .int 0, .int (-1), .int 0, .int 0])), ((q 2), .inl (cI, 90, .inl (fun _ => 0))), ((q 3), .inl (cI, 12, .inl (fun _ => 0))), ((q 4), .inl (cI, 1880, .inl (fun _ => 0)))] H := hP
  have hD : va_D A [((q 23), .inr (3, [.ref (q 24), .ref (q 25), .ref (q 26), .ref (q 27), .ref (q 28), .ref (q 29), .ref (q 30), .ref (q 31), .int 0, .long 1, .int p2, .int 0, .int 0, .int 0, .long 0, .int 0])), ((q 26), .inl (cZ, 10, .inl (fun _ => 0))), ((q 1), .inr (4, [.ref (q 2), .ref (q 3), .ref (q 4), .int 0, .int 0, .int 0, .int 0, .int 0, .int 9, .int 0, .int (-1), .int 0, .int 0])), ((q 2), .inl (cI, 90, .inl (fun _ => 0))), ((q 3), .inl (cI, 12, .inl (fun _ => 0))), ((q 4), .inl (cI, 1880, .inl (fun _ => 0)))] := hD
  refine lv_aload_n hx hb dX3_fewest_11 rfl (lv_at hl 0 rfl) ?_
  refine lv_iconst (v := 0) hx hb dX3_fewest_12 (by decide) ?_
  refine va_put (D := G) (ci := 3) (v := .int 0) (ty := .boolean) (C := RX3) (T := TX3) (N := 16) hx hb hts iX3 tyX3 tyX3_ok nmX3 hown hK hP hD hS 0 rfl rfl 12 (by decide) (hts _ m_289) (fun _ h9 => h9) rfl (tyX3_ok 12 (by decide)) rfl rfl (Nat.le_of_ble_eq_true rfl) dX3_fewest_13 (fun H locs hP hD hS => ?_)
  have hP : va_P G vwCl [((q 23), .inr (3, [.ref (q 24), .ref (q 25), .ref (q 26), .ref (q 27), .ref (q 28), .ref (q 29), .ref (q 30), .ref (q 31), .int 0, .long 1, .int p2, .int 0, .int 0, .int 0, .long 0, .int 0])), ((q 26), .inl (cZ, 10, .inl (fun _ => 0))), ((q 1), .inr (4, [.ref (q 2), .ref (q 3), .ref (q 4), .int 0, .int 0, .int 0, .int 0, .int 0, .int 9, .int 0, .int (-1), .int 0, .int 0])), ((q 2), .inl (cI, 90, .inl (fun _ => 0))), ((q 3), .inl (cI, 12, .inl (fun _ => 0))), ((q 4), .inl (cI, 1880, .inl (fun _ => 0)))] H := hP
  have hD : va_D A [((q 23), .inr (3, [.ref (q 24), .ref (q 25), .ref (q 26), .ref (q 27), .ref (q 28), .ref (q 29), .ref (q 30), .ref (q 31), .int 0, .long 1, .int p2, .int 0, .int 0, .int 0, .long 0, .int 0])), ((q 26), .inl (cZ, 10, .inl (fun _ => 0))), ((q 1), .inr (4, [.ref (q 2), .ref (q 3), .ref (q 4), .int 0, .int 0, .int 0, .int 0, .int 0, .int 9, .int 0, .int (-1), .int 0, .int 0])), ((q 2), .inl (cI, 90, .inl (fun _ => 0))), ((q 3), .inl (cI, 12, .inl (fun _ => 0))), ((q 4), .inl (cI, 1880, .inl (fun _ => 0)))] := hD
  refine lv_aload_n hx hb dX3_fewest_16 rfl (lv_at hl 0 rfl) ?_
  refine lv_iconst (v := 4) hx hb dX3_fewest_17 (by decide) ?_
  refine lv_aload_n hx hb dX3_fewest_18 rfl (lv_at hl 1 rfl) ?_
  refine va_get (D := G) (ci := 4) (v := .int 0) (C := RX4) (T := TX4) (N := 13) hx hb hts iX4 hown hK hP 2 rfl rfl 4 (by decide) (hts _ m_290) (fun _ h9 => h9) rfl dX3_fewest_19 ?_
  refine va_mmin hx hb (by rw [hml]; exact hl.1.symm) hown (hts _ m_291) (hts _ m_292) (hts _ m_293) (hts _ m_294) (Nat.le_of_ble_eq_true rfl) (Nat.le_of_ble_eq_true rfl) (Nat.le_of_ble_eq_true rfl) (Nat.le_of_ble_eq_true rfl) dX3_fewest_22 ?_
  refine gw_topi (y := 0) (by decide) ?_
  refine va_put (D := G) (ci := 3) (v := .int 0) (ty := .int) (C := RX3) (T := TX3) (N := 16) hx hb hts iX3 tyX3 tyX3_ok nmX3 hown hK hP hD hS 0 rfl rfl 11 (by decide) (hts _ m_295) (fun _ h9 => h9) rfl (tyX3_ok 11 (by decide)) rfl rfl (Nat.le_of_ble_eq_true rfl) dX3_fewest_25 (fun H locs hP hD hS => ?_)
  have hP : va_P G vwCl [((q 23), .inr (3, [.ref (q 24), .ref (q 25), .ref (q 26), .ref (q 27), .ref (q 28), .ref (q 29), .ref (q 30), .ref (q 31), .int 0, .long 1, .int p2, .int 0, .int 0, .int 0, .long 0, .int 0])), ((q 26), .inl (cZ, 10, .inl (fun _ => 0))), ((q 1), .inr (4, [.ref (q 2), .ref (q 3), .ref (q 4), .int 0, .int 0, .int 0, .int 0, .int 0, .int 9, .int 0, .int (-1), .int 0, .int 0])), ((q 2), .inl (cI, 90, .inl (fun _ => 0))), ((q 3), .inl (cI, 12, .inl (fun _ => 0))), ((q 4), .inl (cI, 1880, .inl (fun _ => 0)))] H := hP
  have hD : va_D A [((q 23), .inr (3, [.ref (q 24), .ref (q 25), .ref (q 26), .ref (q 27), .ref (q 28), .ref (q 29), .ref (q 30), .ref (q 31), .int 0, .long 1, .int p2, .int 0, .int 0, .int 0, .long 0, .int 0])), ((q 26), .inl (cZ, 10, .inl (fun _ => 0))), ((q 1), .inr (4, [.ref (q 2), .ref (q 3), .ref (q 4), .int 0, .int 0, .int 0, .int 0, .int 0, .int 9, .int 0, .int (-1), .int 0, .int 0])), ((q 2), .inl (cI, 90, .inl (fun _ => 0))), ((q 3), .inl (cI, 12, .inl (fun _ => 0))), ((q 4), .inl (cI, 1880, .inl (fun _ => 0)))] := hD
  refine lv_iconst (v := 0) hx hb dX3_fewest_28 (by decide) ?_
  refine lv_istore (lv' := [(5, .int 0), (0, .ref (q 23)), (1, .ref (q 1)), (2, .ref (q 16)), (3, .int p1), (4, .int p2)]) hx hb dX3_fewest_29 hl (by decide) rfl (fun ls hl => ?_)
  refine lv_iload hx hb dX3_fewest_31 (lv_at hl 0 rfl) ?_
  refine lv_bipush (v := 10) hx hb dX3_fewest_33 (by decide) ?_
  refine lv_icmp_ge (tgt := 95) hx hb dX3_fewest_35 (by decide) (fun c => absurd c (by decide)) (fun _ => ?_)
  refine lv_aload_n hx hb dX3_fewest_38 rfl (lv_at hl 1 rfl) ?_
  refine va_get (D := G) (ci := 3) (v := .ref (q 26)) (C := RX3) (T := TX3) (N := 16) hx hb hts iX3 hown hK hP 0 rfl rfl 2 (by decide) (hts _ m_286) (fun _ h9 => h9) rfl dX3_fewest_39 ?_
  refine lv_iload hx hb dX3_fewest_42 (lv_at hl 0 rfl) ?_
  refine lv_aload_n hx hb dX3_fewest_44 rfl (lv_at hl 2 rfl) ?_
  refine lv_iload hx hb dX3_fewest_45 (lv_at hl 0 rfl) ?_
  refine gw_calli (gw_runV (As := [.int 0]) (rest := [.int 0, .ref (q 26)]) ⟨hx, hb, hml, hown, hts⟩ (c_isFree0 l G cI cJ cZ cB cT (q 1) (q 2) (q 3) (q 4) 0 0 0 0 9 0 (-1) 0 0 (fun _ => 0) (fun _ => 0) (fun _ => 0) 0  H.size) (gG_V m_296 m_71 m_72 m_6 m_69) rfl e_X4_isFree ⟨Nat.le_of_ble_eq_true rfl, Nat.le_of_ble_eq_true rfl⟩ hK hP hD [2, 3, 4, 5] rfl (by decide) rfl 0 rfl rfl rfl hl.1 rfl (Nat.le_of_ble_eq_true rfl) dX3_fewest_47 ⟨Nat.le_of_ble_eq_true rfl, Nat.le_of_ble_eq_true rfl⟩) hP hD hS hA [2, 3, 4, 5] [0, 1] rfl rfl (by decide) (by decide) (fun r_1 u_1 H locs hw_1 hP hD hS => ?_)
  subst hw_1
  have hP : va_P G vwCl [((q 23), .inr (3, [.ref (q 24), .ref (q 25), .ref (q 26), .ref (q 27), .ref (q 28), .ref (q 29), .ref (q 30), .ref (q 31), .int 0, .long 1, .int p2, .int 0, .int 0, .int 0, .long 0, .int 0])), ((q 26), .inl (cZ, 10, .inl (fun _ => 0))), ((q 1), .inr (4, [.ref (q 2), .ref (q 3), .ref (q 4), .int 0, .int 0, .int 0, .int 0, .int 0, .int 9, .int 0, .int (-1), .int 0, .int 0])), ((q 2), .inl (cI, 90, .inl (fun _ => 0))), ((q 3), .inl (cI, 12, .inl (fun _ => 0))), ((q 4), .inl (cI, 1880, .inl (fun _ => 0)))] H := hP
  have hD : va_D A [((q 23), .inr (3, [.ref (q 24), .ref (q 25), .ref (q 26), .ref (q 27), .ref (q 28), .ref (q 29), .ref (q 30), .ref (q 31), .int 0, .long 1, .int p2, .int 0, .int 0, .int 0, .long 0, .int 0])), ((q 26), .inl (cZ, 10, .inl (fun _ => 0))), ((q 1), .inr (4, [.ref (q 2), .ref (q 3), .ref (q 4), .int 0, .int 0, .int 0, .int 0, .int 0, .int 9, .int 0, .int (-1), .int 0, .int 0])), ((q 2), .inl (cI, 90, .inl (fun _ => 0))), ((q 3), .inl (cI, 12, .inl (fun _ => 0))), ((q 4), .inl (cI, 1880, .inl (fun _ => 0)))] := hD
  refine lv_if_eq (tgt := 68) hx hb dX3_fewest_50 (by decide) (fun _ => ?_) (fun c => absurd (by decide) c)
  refine lv_iconst (v := 0) hx hb dX3_fewest_68 (by decide) ?_
  refine gw_zast (y := 0) hx hb hK hP hD hS 1 2 0 rfl rfl rfl (by decide) (by decide) rfl dX3_fewest_69 (fun H locs hP hD hS => ?_)
  have hP : va_P G vwCl [((q 23), .inr (3, [.ref (q 24), .ref (q 25), .ref (q 26), .ref (q 27), .ref (q 28), .ref (q 29), .ref (q 30), .ref (q 31), .int 0, .long 1, .int p2, .int 0, .int 0, .int 0, .long 0, .int 0])), ((q 26), .inl (cZ, 10, .inl (upd (fun _ => 0) 0 0))), ((q 1), .inr (4, [.ref (q 2), .ref (q 3), .ref (q 4), .int 0, .int 0, .int 0, .int 0, .int 0, .int 9, .int 0, .int (-1), .int 0, .int 0])), ((q 2), .inl (cI, 90, .inl (fun _ => 0))), ((q 3), .inl (cI, 12, .inl (fun _ => 0))), ((q 4), .inl (cI, 1880, .inl (fun _ => 0)))] H := hP
  have hD : va_D A [((q 23), .inr (3, [.ref (q 24), .ref (q 25), .ref (q 26), .ref (q 27), .ref (q 28), .ref (q 29), .ref (q 30), .ref (q 31), .int 0, .long 1, .int p2, .int 0, .int 0, .int 0, .long 0, .int 0])), ((q 26), .inl (cZ, 10, .inl (upd (fun _ => 0) 0 0))), ((q 1), .inr (4, [.ref (q 2), .ref (q 3), .ref (q 4), .int 0, .int 0, .int 0, .int 0, .int 0, .int 9, .int 0, .int (-1), .int 0, .int 0])), ((q 2), .inl (cI, 90, .inl (fun _ => 0))), ((q 3), .inl (cI, 12, .inl (fun _ => 0))), ((q 4), .inl (cI, 1880, .inl (fun _ => 0)))] := hD
  refine lv_aload_n hx hb dX3_fewest_70 rfl (lv_at hl 1 rfl) ?_
  refine va_get (D := G) (ci := 3) (v := .ref (q 26)) (C := RX3) (T := TX3) (N := 16) hx hb hts iX3 hown hK hP 0 rfl rfl 2 (by decide) (hts _ m_286) (fun _ h9 => h9) rfl dX3_fewest_71 ?_
  refine lv_iload hx hb dX3_fewest_74 (lv_at hl 0 rfl) ?_
  refine gw_zald (x := 0) hx hb hK hP 1 2 0 rfl rfl rfl (by decide) (by decide) rfl dX3_fewest_76 ?_
  refine lv_if_eq (tgt := 89) hx hb dX3_fewest_77 (by decide) (fun _ => ?_) (fun c => absurd (by decide) c)
  refine lv_iinc (v := 1) (lv' := [(5, .int 1), (0, .ref (q 23)), (1, .ref (q 1)), (2, .ref (q 16)), (3, .int p1), (4, .int p2)]) hx hb dX3_fewest_89 hl (k := 0) rfl (by decide) (by decide) rfl (fun ls hl => ?_)
  refine lv_goto (tgt := 31) hx hb dX3_fewest_92 (by decide) ?_
  refine lv_iload hx hb dX3_fewest_31 (lv_at hl 0 rfl) ?_
  refine lv_bipush (v := 10) hx hb dX3_fewest_33 (by decide) ?_
  refine lv_icmp_ge (tgt := 95) hx hb dX3_fewest_35 (by decide) (fun c => absurd c (by decide)) (fun _ => ?_)
  refine lv_aload_n hx hb dX3_fewest_38 rfl (lv_at hl 1 rfl) ?_
  refine va_get (D := G) (ci := 3) (v := .ref (q 26)) (C := RX3) (T := TX3) (N := 16) hx hb hts iX3 hown hK hP 0 rfl rfl 2 (by decide) (hts _ m_286) (fun _ h9 => h9) rfl dX3_fewest_39 ?_
  refine lv_iload hx hb dX3_fewest_42 (lv_at hl 0 rfl) ?_
  refine lv_aload_n hx hb dX3_fewest_44 rfl (lv_at hl 2 rfl) ?_
  refine lv_iload hx hb dX3_fewest_45 (lv_at hl 0 rfl) ?_
  refine gw_calli (gw_runV (As := [.int 1]) (rest := [.int 1, .ref (q 26)]) ⟨hx, hb, hml, hown, hts⟩ (c_isFree0 l G cI cJ cZ cB cT (q 1) (q 2) (q 3) (q 4) 0 0 0 0 9 0 (-1) 0 0 (fun _ => 0) (fun _ => 0) (fun _ => 0) 1  H.size) (gG_V m_296 m_71 m_72 m_6 m_69) rfl e_X4_isFree ⟨Nat.le_of_ble_eq_true rfl, Nat.le_of_ble_eq_true rfl⟩ hK hP hD [2, 3, 4, 5] rfl (by decide) rfl 0 rfl rfl rfl hl.1 rfl (Nat.le_of_ble_eq_true rfl) dX3_fewest_47 ⟨Nat.le_of_ble_eq_true rfl, Nat.le_of_ble_eq_true rfl⟩) hP hD hS hA [2, 3, 4, 5] [0, 1] rfl rfl (by decide) (by decide) (fun r_2 u_2 H locs hw_2 hP hD hS => ?_)
  subst hw_2
  have hP : va_P G vwCl [((q 23), .inr (3, [.ref (q 24), .ref (q 25), .ref (q 26), .ref (q 27), .ref (q 28), .ref (q 29), .ref (q 30), .ref (q 31), .int 0, .long 1, .int p2, .int 0, .int 0, .int 0, .long 0, .int 0])), ((q 26), .inl (cZ, 10, .inl (upd (fun _ => 0) 0 0))), ((q 1), .inr (4, [.ref (q 2), .ref (q 3), .ref (q 4), .int 0, .int 0, .int 0, .int 0, .int 0, .int 9, .int 0, .int (-1), .int 0, .int 0])), ((q 2), .inl (cI, 90, .inl (fun _ => 0))), ((q 3), .inl (cI, 12, .inl (fun _ => 0))), ((q 4), .inl (cI, 1880, .inl (fun _ => 0)))] H := hP
  have hD : va_D A [((q 23), .inr (3, [.ref (q 24), .ref (q 25), .ref (q 26), .ref (q 27), .ref (q 28), .ref (q 29), .ref (q 30), .ref (q 31), .int 0, .long 1, .int p2, .int 0, .int 0, .int 0, .long 0, .int 0])), ((q 26), .inl (cZ, 10, .inl (upd (fun _ => 0) 0 0))), ((q 1), .inr (4, [.ref (q 2), .ref (q 3), .ref (q 4), .int 0, .int 0, .int 0, .int 0, .int 0, .int 9, .int 0, .int (-1), .int 0, .int 0])), ((q 2), .inl (cI, 90, .inl (fun _ => 0))), ((q 3), .inl (cI, 12, .inl (fun _ => 0))), ((q 4), .inl (cI, 1880, .inl (fun _ => 0)))] := hD
  refine lv_if_eq (tgt := 68) hx hb dX3_fewest_50 (by decide) (fun _ => ?_) (fun c => absurd (by decide) c)
  refine lv_iconst (v := 0) hx hb dX3_fewest_68 (by decide) ?_
  refine gw_zast (y := 0) hx hb hK hP hD hS 1 2 1 rfl rfl rfl (by decide) (by decide) rfl dX3_fewest_69 (fun H locs hP hD hS => ?_)
  have hP : va_P G vwCl [((q 23), .inr (3, [.ref (q 24), .ref (q 25), .ref (q 26), .ref (q 27), .ref (q 28), .ref (q 29), .ref (q 30), .ref (q 31), .int 0, .long 1, .int p2, .int 0, .int 0, .int 0, .long 0, .int 0])), ((q 26), .inl (cZ, 10, .inl (upd (upd (fun _ => 0) 0 0) 1 0))), ((q 1), .inr (4, [.ref (q 2), .ref (q 3), .ref (q 4), .int 0, .int 0, .int 0, .int 0, .int 0, .int 9, .int 0, .int (-1), .int 0, .int 0])), ((q 2), .inl (cI, 90, .inl (fun _ => 0))), ((q 3), .inl (cI, 12, .inl (fun _ => 0))), ((q 4), .inl (cI, 1880, .inl (fun _ => 0)))] H := hP
  have hD : va_D A [((q 23), .inr (3, [.ref (q 24), .ref (q 25), .ref (q 26), .ref (q 27), .ref (q 28), .ref (q 29), .ref (q 30), .ref (q 31), .int 0, .long 1, .int p2, .int 0, .int 0, .int 0, .long 0, .int 0])), ((q 26), .inl (cZ, 10, .inl (upd (upd (fun _ => 0) 0 0) 1 0))), ((q 1), .inr (4, [.ref (q 2), .ref (q 3), .ref (q 4), .int 0, .int 0, .int 0, .int 0, .int 0, .int 9, .int 0, .int (-1), .int 0, .int 0])), ((q 2), .inl (cI, 90, .inl (fun _ => 0))), ((q 3), .inl (cI, 12, .inl (fun _ => 0))), ((q 4), .inl (cI, 1880, .inl (fun _ => 0)))] := hD
  refine lv_aload_n hx hb dX3_fewest_70 rfl (lv_at hl 1 rfl) ?_
  refine va_get (D := G) (ci := 3) (v := .ref (q 26)) (C := RX3) (T := TX3) (N := 16) hx hb hts iX3 hown hK hP 0 rfl rfl 2 (by decide) (hts _ m_286) (fun _ h9 => h9) rfl dX3_fewest_71 ?_
  refine lv_iload hx hb dX3_fewest_74 (lv_at hl 0 rfl) ?_
  refine gw_zald (x := 0) hx hb hK hP 1 2 1 rfl rfl rfl (by decide) (by decide) rfl dX3_fewest_76 ?_
  refine lv_if_eq (tgt := 89) hx hb dX3_fewest_77 (by decide) (fun _ => ?_) (fun c => absurd (by decide) c)
  refine lv_iinc (v := 2) (lv' := [(5, .int 2), (0, .ref (q 23)), (1, .ref (q 1)), (2, .ref (q 16)), (3, .int p1), (4, .int p2)]) hx hb dX3_fewest_89 hl (k := 0) rfl (by decide) (by decide) rfl (fun ls hl => ?_)
  refine lv_goto (tgt := 31) hx hb dX3_fewest_92 (by decide) ?_
  refine lv_iload hx hb dX3_fewest_31 (lv_at hl 0 rfl) ?_
  refine lv_bipush (v := 10) hx hb dX3_fewest_33 (by decide) ?_
  refine lv_icmp_ge (tgt := 95) hx hb dX3_fewest_35 (by decide) (fun c => absurd c (by decide)) (fun _ => ?_)
  refine lv_aload_n hx hb dX3_fewest_38 rfl (lv_at hl 1 rfl) ?_
  refine va_get (D := G) (ci := 3) (v := .ref (q 26)) (C := RX3) (T := TX3) (N := 16) hx hb hts iX3 hown hK hP 0 rfl rfl 2 (by decide) (hts _ m_286) (fun _ h9 => h9) rfl dX3_fewest_39 ?_
  refine lv_iload hx hb dX3_fewest_42 (lv_at hl 0 rfl) ?_
  refine lv_aload_n hx hb dX3_fewest_44 rfl (lv_at hl 2 rfl) ?_
  refine lv_iload hx hb dX3_fewest_45 (lv_at hl 0 rfl) ?_
  refine gw_calli (gw_runV (As := [.int 2]) (rest := [.int 2, .ref (q 26)]) ⟨hx, hb, hml, hown, hts⟩ (c_isFree0 l G cI cJ cZ cB cT (q 1) (q 2) (q 3) (q 4) 0 0 0 0 9 0 (-1) 0 0 (fun _ => 0) (fun _ => 0) (fun _ => 0) 2  H.size) (gG_V m_296 m_71 m_72 m_6 m_69) rfl e_X4_isFree ⟨Nat.le_of_ble_eq_true rfl, Nat.le_of_ble_eq_true rfl⟩ hK hP hD [2, 3, 4, 5] rfl (by decide) rfl 0 rfl rfl rfl hl.1 rfl (Nat.le_of_ble_eq_true rfl) dX3_fewest_47 ⟨Nat.le_of_ble_eq_true rfl, Nat.le_of_ble_eq_true rfl⟩) hP hD hS hA [2, 3, 4, 5] [0, 1] rfl rfl (by decide) (by decide) (fun r_3 u_3 H locs hw_3 hP hD hS => ?_)
  subst hw_3
  have hP : va_P G vwCl [((q 23), .inr (3, [.ref (q 24), .ref (q 25), .ref (q 26), .ref (q 27), .ref (q 28), .ref (q 29), .ref (q 30), .ref (q 31), .int 0, .long 1, .int p2, .int 0, .int 0, .int 0, .long 0, .int 0])), ((q 26), .inl (cZ, 10, .inl (upd (upd (fun _ => 0) 0 0) 1 0))), ((q 1), .inr (4, [.ref (q 2), .ref (q 3), .ref (q 4), .int 0, .int 0, .int 0, .int 0, .int 0, .int 9, .int 0, .int (-1), .int 0, .int 0])), ((q 2), .inl (cI, 90, .inl (fun _ => 0))), ((q 3), .inl (cI, 12, .inl (fun _ => 0))), ((q 4), .inl (cI, 1880, .inl (fun _ => 0)))] H := hP
  have hD : va_D A [((q 23), .inr (3, [.ref (q 24), .ref (q 25), .ref (q 26), .ref (q 27), .ref (q 28), .ref (q 29), .ref (q 30), .ref (q 31), .int 0, .long 1, .int p2, .int 0, .int 0, .int 0, .long 0, .int 0])), ((q 26), .inl (cZ, 10, .inl (upd (upd (fun _ => 0) 0 0) 1 0))), ((q 1), .inr (4, [.ref (q 2), .ref (q 3), .ref (q 4), .int 0, .int 0, .int 0, .int 0, .int 0, .int 9, .int 0, .int (-1), .int 0, .int 0])), ((q 2), .inl (cI, 90, .inl (fun _ => 0))), ((q 3), .inl (cI, 12, .inl (fun _ => 0))), ((q 4), .inl (cI, 1880, .inl (fun _ => 0)))] := hD
  refine lv_if_eq (tgt := 68) hx hb dX3_fewest_50 (by decide) (fun _ => ?_) (fun c => absurd (by decide) c)
  refine lv_iconst (v := 0) hx hb dX3_fewest_68 (by decide) ?_
  refine gw_zast (y := 0) hx hb hK hP hD hS 1 2 2 rfl rfl rfl (by decide) (by decide) rfl dX3_fewest_69 (fun H locs hP hD hS => ?_)
  have hP : va_P G vwCl [((q 23), .inr (3, [.ref (q 24), .ref (q 25), .ref (q 26), .ref (q 27), .ref (q 28), .ref (q 29), .ref (q 30), .ref (q 31), .int 0, .long 1, .int p2, .int 0, .int 0, .int 0, .long 0, .int 0])), ((q 26), .inl (cZ, 10, .inl (upd (upd (upd (fun _ => 0) 0 0) 1 0) 2 0))), ((q 1), .inr (4, [.ref (q 2), .ref (q 3), .ref (q 4), .int 0, .int 0, .int 0, .int 0, .int 0, .int 9, .int 0, .int (-1), .int 0, .int 0])), ((q 2), .inl (cI, 90, .inl (fun _ => 0))), ((q 3), .inl (cI, 12, .inl (fun _ => 0))), ((q 4), .inl (cI, 1880, .inl (fun _ => 0)))] H := hP
  have hD : va_D A [((q 23), .inr (3, [.ref (q 24), .ref (q 25), .ref (q 26), .ref (q 27), .ref (q 28), .ref (q 29), .ref (q 30), .ref (q 31), .int 0, .long 1, .int p2, .int 0, .int 0, .int 0, .long 0, .int 0])), ((q 26), .inl (cZ, 10, .inl (upd (upd (upd (fun _ => 0) 0 0) 1 0) 2 0))), ((q 1), .inr (4, [.ref (q 2), .ref (q 3), .ref (q 4), .int 0, .int 0, .int 0, .int 0, .int 0, .int 9, .int 0, .int (-1), .int 0, .int 0])), ((q 2), .inl (cI, 90, .inl (fun _ => 0))), ((q 3), .inl (cI, 12, .inl (fun _ => 0))), ((q 4), .inl (cI, 1880, .inl (fun _ => 0)))] := hD
  refine lv_aload_n hx hb dX3_fewest_70 rfl (lv_at hl 1 rfl) ?_
  refine va_get (D := G) (ci := 3) (v := .ref (q 26)) (C := RX3) (T := TX3) (N := 16) hx hb hts iX3 hown hK hP 0 rfl rfl 2 (by decide) (hts _ m_286) (fun _ h9 => h9) rfl dX3_fewest_71 ?_
  refine lv_iload hx hb dX3_fewest_74 (lv_at hl 0 rfl) ?_
  refine gw_zald (x := 0) hx hb hK hP 1 2 2 rfl rfl rfl (by decide) (by decide) rfl dX3_fewest_76 ?_
  refine lv_if_eq (tgt := 89) hx hb dX3_fewest_77 (by decide) (fun _ => ?_) (fun c => absurd (by decide) c)
  refine lv_iinc (v := 3) (lv' := [(5, .int 3), (0, .ref (q 23)), (1, .ref (q 1)), (2, .ref (q 16)), (3, .int p1), (4, .int p2)]) hx hb dX3_fewest_89 hl (k := 0) rfl (by decide) (by decide) rfl (fun ls hl => ?_)
  refine lv_goto (tgt := 31) hx hb dX3_fewest_92 (by decide) ?_
  refine lv_iload hx hb dX3_fewest_31 (lv_at hl 0 rfl) ?_
  refine lv_bipush (v := 10) hx hb dX3_fewest_33 (by decide) ?_
  refine lv_icmp_ge (tgt := 95) hx hb dX3_fewest_35 (by decide) (fun c => absurd c (by decide)) (fun _ => ?_)
  refine lv_aload_n hx hb dX3_fewest_38 rfl (lv_at hl 1 rfl) ?_
  refine va_get (D := G) (ci := 3) (v := .ref (q 26)) (C := RX3) (T := TX3) (N := 16) hx hb hts iX3 hown hK hP 0 rfl rfl 2 (by decide) (hts _ m_286) (fun _ h9 => h9) rfl dX3_fewest_39 ?_
  refine lv_iload hx hb dX3_fewest_42 (lv_at hl 0 rfl) ?_
  refine lv_aload_n hx hb dX3_fewest_44 rfl (lv_at hl 2 rfl) ?_
  refine lv_iload hx hb dX3_fewest_45 (lv_at hl 0 rfl) ?_
  refine gw_calli (gw_runV (As := [.int 3]) (rest := [.int 3, .ref (q 26)]) ⟨hx, hb, hml, hown, hts⟩ (c_isFree0 l G cI cJ cZ cB cT (q 1) (q 2) (q 3) (q 4) 0 0 0 0 9 0 (-1) 0 0 (fun _ => 0) (fun _ => 0) (fun _ => 0) 3  H.size) (gG_V m_296 m_71 m_72 m_6 m_69) rfl e_X4_isFree ⟨Nat.le_of_ble_eq_true rfl, Nat.le_of_ble_eq_true rfl⟩ hK hP hD [2, 3, 4, 5] rfl (by decide) rfl 0 rfl rfl rfl hl.1 rfl (Nat.le_of_ble_eq_true rfl) dX3_fewest_47 ⟨Nat.le_of_ble_eq_true rfl, Nat.le_of_ble_eq_true rfl⟩) hP hD hS hA [2, 3, 4, 5] [0, 1] rfl rfl (by decide) (by decide) (fun r_4 u_4 H locs hw_4 hP hD hS => ?_)
  subst hw_4
  have hP : va_P G vwCl [((q 23), .inr (3, [.ref (q 24), .ref (q 25), .ref (q 26), .ref (q 27), .ref (q 28), .ref (q 29), .ref (q 30), .ref (q 31), .int 0, .long 1, .int p2, .int 0, .int 0, .int 0, .long 0, .int 0])), ((q 26), .inl (cZ, 10, .inl (upd (upd (upd (fun _ => 0) 0 0) 1 0) 2 0))), ((q 1), .inr (4, [.ref (q 2), .ref (q 3), .ref (q 4), .int 0, .int 0, .int 0, .int 0, .int 0, .int 9, .int 0, .int (-1), .int 0, .int 0])), ((q 2), .inl (cI, 90, .inl (fun _ => 0))), ((q 3), .inl (cI, 12, .inl (fun _ => 0))), ((q 4), .inl (cI, 1880, .inl (fun _ => 0)))] H := hP
  have hD : va_D A [((q 23), .inr (3, [.ref (q 24), .ref (q 25), .ref (q 26), .ref (q 27), .ref (q 28), .ref (q 29), .ref (q 30), .ref (q 31), .int 0, .long 1, .int p2, .int 0, .int 0, .int 0, .long 0, .int 0])), ((q 26), .inl (cZ, 10, .inl (upd (upd (upd (fun _ => 0) 0 0) 1 0) 2 0))), ((q 1), .inr (4, [.ref (q 2), .ref (q 3), .ref (q 4), .int 0, .int 0, .int 0, .int 0, .int 0, .int 9, .int 0, .int (-1), .int 0, .int 0])), ((q 2), .inl (cI, 90, .inl (fun _ => 0))), ((q 3), .inl (cI, 12, .inl (fun _ => 0))), ((q 4), .inl (cI, 1880, .inl (fun _ => 0)))] := hD
  refine lv_if_eq (tgt := 68) hx hb dX3_fewest_50 (by decide) (fun _ => ?_) (fun c => absurd (by decide) c)
  refine lv_iconst (v := 0) hx hb dX3_fewest_68 (by decide) ?_
  refine gw_zast (y := 0) hx hb hK hP hD hS 1 2 3 rfl rfl rfl (by decide) (by decide) rfl dX3_fewest_69 (fun H locs hP hD hS => ?_)
  have hP : va_P G vwCl [((q 23), .inr (3, [.ref (q 24), .ref (q 25), .ref (q 26), .ref (q 27), .ref (q 28), .ref (q 29), .ref (q 30), .ref (q 31), .int 0, .long 1, .int p2, .int 0, .int 0, .int 0, .long 0, .int 0])), ((q 26), .inl (cZ, 10, .inl (upd (upd (upd (upd (fun _ => 0) 0 0) 1 0) 2 0) 3 0))), ((q 1), .inr (4, [.ref (q 2), .ref (q 3), .ref (q 4), .int 0, .int 0, .int 0, .int 0, .int 0, .int 9, .int 0, .int (-1), .int 0, .int 0])), ((q 2), .inl (cI, 90, .inl (fun _ => 0))), ((q 3), .inl (cI, 12, .inl (fun _ => 0))), ((q 4), .inl (cI, 1880, .inl (fun _ => 0)))] H := hP
  have hD : va_D A [((q 23), .inr (3, [.ref (q 24), .ref (q 25), .ref (q 26), .ref (q 27), .ref (q 28), .ref (q 29), .ref (q 30), .ref (q 31), .int 0, .long 1, .int p2, .int 0, .int 0, .int 0, .long 0, .int 0])), ((q 26), .inl (cZ, 10, .inl (upd (upd (upd (upd (fun _ => 0) 0 0) 1 0) 2 0) 3 0))), ((q 1), .inr (4, [.ref (q 2), .ref (q 3), .ref (q 4), .int 0, .int 0, .int 0, .int 0, .int 0, .int 9, .int 0, .int (-1), .int 0, .int 0])), ((q 2), .inl (cI, 90, .inl (fun _ => 0))), ((q 3), .inl (cI, 12, .inl (fun _ => 0))), ((q 4), .inl (cI, 1880, .inl (fun _ => 0)))] := hD
  refine lv_aload_n hx hb dX3_fewest_70 rfl (lv_at hl 1 rfl) ?_
  refine va_get (D := G) (ci := 3) (v := .ref (q 26)) (C := RX3) (T := TX3) (N := 16) hx hb hts iX3 hown hK hP 0 rfl rfl 2 (by decide) (hts _ m_286) (fun _ h9 => h9) rfl dX3_fewest_71 ?_
  refine lv_iload hx hb dX3_fewest_74 (lv_at hl 0 rfl) ?_
  refine gw_zald (x := 0) hx hb hK hP 1 2 3 rfl rfl rfl (by decide) (by decide) rfl dX3_fewest_76 ?_
  refine lv_if_eq (tgt := 89) hx hb dX3_fewest_77 (by decide) (fun _ => ?_) (fun c => absurd (by decide) c)
  refine lv_iinc (v := 4) (lv' := [(5, .int 4), (0, .ref (q 23)), (1, .ref (q 1)), (2, .ref (q 16)), (3, .int p1), (4, .int p2)]) hx hb dX3_fewest_89 hl (k := 0) rfl (by decide) (by decide) rfl (fun ls hl => ?_)
  refine lv_goto (tgt := 31) hx hb dX3_fewest_92 (by decide) ?_
  refine lv_iload hx hb dX3_fewest_31 (lv_at hl 0 rfl) ?_
  refine lv_bipush (v := 10) hx hb dX3_fewest_33 (by decide) ?_
  refine lv_icmp_ge (tgt := 95) hx hb dX3_fewest_35 (by decide) (fun c => absurd c (by decide)) (fun _ => ?_)
  refine lv_aload_n hx hb dX3_fewest_38 rfl (lv_at hl 1 rfl) ?_
  refine va_get (D := G) (ci := 3) (v := .ref (q 26)) (C := RX3) (T := TX3) (N := 16) hx hb hts iX3 hown hK hP 0 rfl rfl 2 (by decide) (hts _ m_286) (fun _ h9 => h9) rfl dX3_fewest_39 ?_
  refine lv_iload hx hb dX3_fewest_42 (lv_at hl 0 rfl) ?_
  refine lv_aload_n hx hb dX3_fewest_44 rfl (lv_at hl 2 rfl) ?_
  refine lv_iload hx hb dX3_fewest_45 (lv_at hl 0 rfl) ?_
  refine gw_calli (gw_runV (As := [.int 4]) (rest := [.int 4, .ref (q 26)]) ⟨hx, hb, hml, hown, hts⟩ (c_isFree0 l G cI cJ cZ cB cT (q 1) (q 2) (q 3) (q 4) 0 0 0 0 9 0 (-1) 0 0 (fun _ => 0) (fun _ => 0) (fun _ => 0) 4  H.size) (gG_V m_296 m_71 m_72 m_6 m_69) rfl e_X4_isFree ⟨Nat.le_of_ble_eq_true rfl, Nat.le_of_ble_eq_true rfl⟩ hK hP hD [2, 3, 4, 5] rfl (by decide) rfl 0 rfl rfl rfl hl.1 rfl (Nat.le_of_ble_eq_true rfl) dX3_fewest_47 ⟨Nat.le_of_ble_eq_true rfl, Nat.le_of_ble_eq_true rfl⟩) hP hD hS hA [2, 3, 4, 5] [0, 1] rfl rfl (by decide) (by decide) (fun r_5 u_5 H locs hw_5 hP hD hS => ?_)
  subst hw_5
  have hP : va_P G vwCl [((q 23), .inr (3, [.ref (q 24), .ref (q 25), .ref (q 26), .ref (q 27), .ref (q 28), .ref (q 29), .ref (q 30), .ref (q 31), .int 0, .long 1, .int p2, .int 0, .int 0, .int 0, .long 0, .int 0])), ((q 26), .inl (cZ, 10, .inl (upd (upd (upd (upd (fun _ => 0) 0 0) 1 0) 2 0) 3 0))), ((q 1), .inr (4, [.ref (q 2), .ref (q 3), .ref (q 4), .int 0, .int 0, .int 0, .int 0, .int 0, .int 9, .int 0, .int (-1), .int 0, .int 0])), ((q 2), .inl (cI, 90, .inl (fun _ => 0))), ((q 3), .inl (cI, 12, .inl (fun _ => 0))), ((q 4), .inl (cI, 1880, .inl (fun _ => 0)))] H := hP
  have hD : va_D A [((q 23), .inr (3, [.ref (q 24), .ref (q 25), .ref (q 26), .ref (q 27), .ref (q 28), .ref (q 29), .ref (q 30), .ref (q 31), .int 0, .long 1, .int p2, .int 0, .int 0, .int 0, .long 0, .int 0])), ((q 26), .inl (cZ, 10, .inl (upd (upd (upd (upd (fun _ => 0) 0 0) 1 0) 2 0) 3 0))), ((q 1), .inr (4, [.ref (q 2), .ref (q 3), .ref (q 4), .int 0, .int 0, .int 0, .int 0, .int 0, .int 9, .int 0, .int (-1), .int 0, .int 0])), ((q 2), .inl (cI, 90, .inl (fun _ => 0))), ((q 3), .inl (cI, 12, .inl (fun _ => 0))), ((q 4), .inl (cI, 1880, .inl (fun _ => 0)))] := hD
  refine lv_if_eq (tgt := 68) hx hb dX3_fewest_50 (by decide) (fun _ => ?_) (fun c => absurd (by decide) c)
  refine lv_iconst (v := 0) hx hb dX3_fewest_68 (by decide) ?_
  refine gw_zast (y := 0) hx hb hK hP hD hS 1 2 4 rfl rfl rfl (by decide) (by decide) rfl dX3_fewest_69 (fun H locs hP hD hS => ?_)
  have hP : va_P G vwCl [((q 23), .inr (3, [.ref (q 24), .ref (q 25), .ref (q 26), .ref (q 27), .ref (q 28), .ref (q 29), .ref (q 30), .ref (q 31), .int 0, .long 1, .int p2, .int 0, .int 0, .int 0, .long 0, .int 0])), ((q 26), .inl (cZ, 10, .inl (upd (upd (upd (upd (upd (fun _ => 0) 0 0) 1 0) 2 0) 3 0) 4 0))), ((q 1), .inr (4, [.ref (q 2), .ref (q 3), .ref (q 4), .int 0, .int 0, .int 0, .int 0, .int 0, .int 9, .int 0, .int (-1), .int 0, .int 0])), ((q 2), .inl (cI, 90, .inl (fun _ => 0))), ((q 3), .inl (cI, 12, .inl (fun _ => 0))), ((q 4), .inl (cI, 1880, .inl (fun _ => 0)))] H := hP
  have hD : va_D A [((q 23), .inr (3, [.ref (q 24), .ref (q 25), .ref (q 26), .ref (q 27), .ref (q 28), .ref (q 29), .ref (q 30), .ref (q 31), .int 0, .long 1, .int p2, .int 0, .int 0, .int 0, .long 0, .int 0])), ((q 26), .inl (cZ, 10, .inl (upd (upd (upd (upd (upd (fun _ => 0) 0 0) 1 0) 2 0) 3 0) 4 0))), ((q 1), .inr (4, [.ref (q 2), .ref (q 3), .ref (q 4), .int 0, .int 0, .int 0, .int 0, .int 0, .int 9, .int 0, .int (-1), .int 0, .int 0])), ((q 2), .inl (cI, 90, .inl (fun _ => 0))), ((q 3), .inl (cI, 12, .inl (fun _ => 0))), ((q 4), .inl (cI, 1880, .inl (fun _ => 0)))] := hD
  refine lv_aload_n hx hb dX3_fewest_70 rfl (lv_at hl 1 rfl) ?_
  refine va_get (D := G) (ci := 3) (v := .ref (q 26)) (C := RX3) (T := TX3) (N := 16) hx hb hts iX3 hown hK hP 0 rfl rfl 2 (by decide) (hts _ m_286) (fun _ h9 => h9) rfl dX3_fewest_71 ?_
  refine lv_iload hx hb dX3_fewest_74 (lv_at hl 0 rfl) ?_
  refine gw_zald (x := 0) hx hb hK hP 1 2 4 rfl rfl rfl (by decide) (by decide) rfl dX3_fewest_76 ?_
  refine lv_if_eq (tgt := 89) hx hb dX3_fewest_77 (by decide) (fun _ => ?_) (fun c => absurd (by decide) c)
  refine lv_iinc (v := 5) (lv' := [(5, .int 5), (0, .ref (q 23)), (1, .ref (q 1)), (2, .ref (q 16)), (3, .int p1), (4, .int p2)]) hx hb dX3_fewest_89 hl (k := 0) rfl (by decide) (by decide) rfl (fun ls hl => ?_)
  refine lv_goto (tgt := 31) hx hb dX3_fewest_92 (by decide) ?_
  refine lv_iload hx hb dX3_fewest_31 (lv_at hl 0 rfl) ?_
  refine lv_bipush (v := 10) hx hb dX3_fewest_33 (by decide) ?_
  refine lv_icmp_ge (tgt := 95) hx hb dX3_fewest_35 (by decide) (fun c => absurd c (by decide)) (fun _ => ?_)
  refine lv_aload_n hx hb dX3_fewest_38 rfl (lv_at hl 1 rfl) ?_
  refine va_get (D := G) (ci := 3) (v := .ref (q 26)) (C := RX3) (T := TX3) (N := 16) hx hb hts iX3 hown hK hP 0 rfl rfl 2 (by decide) (hts _ m_286) (fun _ h9 => h9) rfl dX3_fewest_39 ?_
  refine lv_iload hx hb dX3_fewest_42 (lv_at hl 0 rfl) ?_
  refine lv_aload_n hx hb dX3_fewest_44 rfl (lv_at hl 2 rfl) ?_
  refine lv_iload hx hb dX3_fewest_45 (lv_at hl 0 rfl) ?_
  refine gw_calli (gw_runV (As := [.int 5]) (rest := [.int 5, .ref (q 26)]) ⟨hx, hb, hml, hown, hts⟩ (c_isFree0 l G cI cJ cZ cB cT (q 1) (q 2) (q 3) (q 4) 0 0 0 0 9 0 (-1) 0 0 (fun _ => 0) (fun _ => 0) (fun _ => 0) 5  H.size) (gG_V m_296 m_71 m_72 m_6 m_69) rfl e_X4_isFree ⟨Nat.le_of_ble_eq_true rfl, Nat.le_of_ble_eq_true rfl⟩ hK hP hD [2, 3, 4, 5] rfl (by decide) rfl 0 rfl rfl rfl hl.1 rfl (Nat.le_of_ble_eq_true rfl) dX3_fewest_47 ⟨Nat.le_of_ble_eq_true rfl, Nat.le_of_ble_eq_true rfl⟩) hP hD hS hA [2, 3, 4, 5] [0, 1] rfl rfl (by decide) (by decide) (fun r_6 u_6 H locs hw_6 hP hD hS => ?_)
  subst hw_6
  have hP : va_P G vwCl [((q 23), .inr (3, [.ref (q 24), .ref (q 25), .ref (q 26), .ref (q 27), .ref (q 28), .ref (q 29), .ref (q 30), .ref (q 31), .int 0, .long 1, .int p2, .int 0, .int 0, .int 0, .long 0, .int 0])), ((q 26), .inl (cZ, 10, .inl (upd (upd (upd (upd (upd (fun _ => 0) 0 0) 1 0) 2 0) 3 0) 4 0))), ((q 1), .inr (4, [.ref (q 2), .ref (q 3), .ref (q 4), .int 0, .int 0, .int 0, .int 0, .int 0, .int 9, .int 0, .int (-1), .int 0, .int 0])), ((q 2), .inl (cI, 90, .inl (fun _ => 0))), ((q 3), .inl (cI, 12, .inl (fun _ => 0))), ((q 4), .inl (cI, 1880, .inl (fun _ => 0)))] H := hP
  have hD : va_D A [((q 23), .inr (3, [.ref (q 24), .ref (q 25), .ref (q 26), .ref (q 27), .ref (q 28), .ref (q 29), .ref (q 30), .ref (q 31), .int 0, .long 1, .int p2, .int 0, .int 0, .int 0, .long 0, .int 0])), ((q 26), .inl (cZ, 10, .inl (upd (upd (upd (upd (upd (fun _ => 0) 0 0) 1 0) 2 0) 3 0) 4 0))), ((q 1), .inr (4, [.ref (q 2), .ref (q 3), .ref (q 4), .int 0, .int 0, .int 0, .int 0, .int 0, .int 9, .int 0, .int (-1), .int 0, .int 0])), ((q 2), .inl (cI, 90, .inl (fun _ => 0))), ((q 3), .inl (cI, 12, .inl (fun _ => 0))), ((q 4), .inl (cI, 1880, .inl (fun _ => 0)))] := hD
  refine lv_if_eq (tgt := 68) hx hb dX3_fewest_50 (by decide) (fun _ => ?_) (fun c => absurd (by decide) c)
  refine lv_iconst (v := 0) hx hb dX3_fewest_68 (by decide) ?_
  refine gw_zast (y := 0) hx hb hK hP hD hS 1 2 5 rfl rfl rfl (by decide) (by decide) rfl dX3_fewest_69 (fun H locs hP hD hS => ?_)
  have hP : va_P G vwCl [((q 23), .inr (3, [.ref (q 24), .ref (q 25), .ref (q 26), .ref (q 27), .ref (q 28), .ref (q 29), .ref (q 30), .ref (q 31), .int 0, .long 1, .int p2, .int 0, .int 0, .int 0, .long 0, .int 0])), ((q 26), .inl (cZ, 10, .inl (upd (upd (upd (upd (upd (upd (fun _ => 0) 0 0) 1 0) 2 0) 3 0) 4 0) 5 0))), ((q 1), .inr (4, [.ref (q 2), .ref (q 3), .ref (q 4), .int 0, .int 0, .int 0, .int 0, .int 0, .int 9, .int 0, .int (-1), .int 0, .int 0])), ((q 2), .inl (cI, 90, .inl (fun _ => 0))), ((q 3), .inl (cI, 12, .inl (fun _ => 0))), ((q 4), .inl (cI, 1880, .inl (fun _ => 0)))] H := hP
  have hD : va_D A [((q 23), .inr (3, [.ref (q 24), .ref (q 25), .ref (q 26), .ref (q 27), .ref (q 28), .ref (q 29), .ref (q 30), .ref (q 31), .int 0, .long 1, .int p2, .int 0, .int 0, .int 0, .long 0, .int 0])), ((q 26), .inl (cZ, 10, .inl (upd (upd (upd (upd (upd (upd (fun _ => 0) 0 0) 1 0) 2 0) 3 0) 4 0) 5 0))), ((q 1), .inr (4, [.ref (q 2), .ref (q 3), .ref (q 4), .int 0, .int 0, .int 0, .int 0, .int 0, .int 9, .int 0, .int (-1), .int 0, .int 0])), ((q 2), .inl (cI, 90, .inl (fun _ => 0))), ((q 3), .inl (cI, 12, .inl (fun _ => 0))), ((q 4), .inl (cI, 1880, .inl (fun _ => 0)))] := hD
  refine lv_aload_n hx hb dX3_fewest_70 rfl (lv_at hl 1 rfl) ?_
  refine va_get (D := G) (ci := 3) (v := .ref (q 26)) (C := RX3) (T := TX3) (N := 16) hx hb hts iX3 hown hK hP 0 rfl rfl 2 (by decide) (hts _ m_286) (fun _ h9 => h9) rfl dX3_fewest_71 ?_
  refine lv_iload hx hb dX3_fewest_74 (lv_at hl 0 rfl) ?_
  refine gw_zald (x := 0) hx hb hK hP 1 2 5 rfl rfl rfl (by decide) (by decide) rfl dX3_fewest_76 ?_
  refine lv_if_eq (tgt := 89) hx hb dX3_fewest_77 (by decide) (fun _ => ?_) (fun c => absurd (by decide) c)
  refine lv_iinc (v := 6) (lv' := [(5, .int 6), (0, .ref (q 23)), (1, .ref (q 1)), (2, .ref (q 16)), (3, .int p1), (4, .int p2)]) hx hb dX3_fewest_89 hl (k := 0) rfl (by decide) (by decide) rfl (fun ls hl => ?_)
  refine lv_goto (tgt := 31) hx hb dX3_fewest_92 (by decide) ?_
  refine lv_iload hx hb dX3_fewest_31 (lv_at hl 0 rfl) ?_
  refine lv_bipush (v := 10) hx hb dX3_fewest_33 (by decide) ?_
  refine lv_icmp_ge (tgt := 95) hx hb dX3_fewest_35 (by decide) (fun c => absurd c (by decide)) (fun _ => ?_)
  refine lv_aload_n hx hb dX3_fewest_38 rfl (lv_at hl 1 rfl) ?_
  refine va_get (D := G) (ci := 3) (v := .ref (q 26)) (C := RX3) (T := TX3) (N := 16) hx hb hts iX3 hown hK hP 0 rfl rfl 2 (by decide) (hts _ m_286) (fun _ h9 => h9) rfl dX3_fewest_39 ?_
  refine lv_iload hx hb dX3_fewest_42 (lv_at hl 0 rfl) ?_
  refine lv_aload_n hx hb dX3_fewest_44 rfl (lv_at hl 2 rfl) ?_
  refine lv_iload hx hb dX3_fewest_45 (lv_at hl 0 rfl) ?_
  refine gw_calli (gw_runV (As := [.int 6]) (rest := [.int 6, .ref (q 26)]) ⟨hx, hb, hml, hown, hts⟩ (c_isFree0 l G cI cJ cZ cB cT (q 1) (q 2) (q 3) (q 4) 0 0 0 0 9 0 (-1) 0 0 (fun _ => 0) (fun _ => 0) (fun _ => 0) 6  H.size) (gG_V m_296 m_71 m_72 m_6 m_69) rfl e_X4_isFree ⟨Nat.le_of_ble_eq_true rfl, Nat.le_of_ble_eq_true rfl⟩ hK hP hD [2, 3, 4, 5] rfl (by decide) rfl 0 rfl rfl rfl hl.1 rfl (Nat.le_of_ble_eq_true rfl) dX3_fewest_47 ⟨Nat.le_of_ble_eq_true rfl, Nat.le_of_ble_eq_true rfl⟩) hP hD hS hA [2, 3, 4, 5] [0, 1] rfl rfl (by decide) (by decide) (fun r_7 u_7 H locs hw_7 hP hD hS => ?_)
  subst hw_7
  have hP : va_P G vwCl [((q 23), .inr (3, [.ref (q 24), .ref (q 25), .ref (q 26), .ref (q 27), .ref (q 28), .ref (q 29), .ref (q 30), .ref (q 31), .int 0, .long 1, .int p2, .int 0, .int 0, .int 0, .long 0, .int 0])), ((q 26), .inl (cZ, 10, .inl (upd (upd (upd (upd (upd (upd (fun _ => 0) 0 0) 1 0) 2 0) 3 0) 4 0) 5 0))), ((q 1), .inr (4, [.ref (q 2), .ref (q 3), .ref (q 4), .int 0, .int 0, .int 0, .int 0, .int 0, .int 9, .int 0, .int (-1), .int 0, .int 0])), ((q 2), .inl (cI, 90, .inl (fun _ => 0))), ((q 3), .inl (cI, 12, .inl (fun _ => 0))), ((q 4), .inl (cI, 1880, .inl (fun _ => 0)))] H := hP
  have hD : va_D A [((q 23), .inr (3, [.ref (q 24), .ref (q 25), .ref (q 26), .ref (q 27), .ref (q 28), .ref (q 29), .ref (q 30), .ref (q 31), .int 0, .long 1, .int p2, .int 0, .int 0, .int 0, .long 0, .int 0])), ((q 26), .inl (cZ, 10, .inl (upd (upd (upd (upd (upd (upd (fun _ => 0) 0 0) 1 0) 2 0) 3 0) 4 0) 5 0))), ((q 1), .inr (4, [.ref (q 2), .ref (q 3), .ref (q 4), .int 0, .int 0, .int 0, .int 0, .int 0, .int 9, .int 0, .int (-1), .int 0, .int 0])), ((q 2), .inl (cI, 90, .inl (fun _ => 0))), ((q 3), .inl (cI, 12, .inl (fun _ => 0))), ((q 4), .inl (cI, 1880, .inl (fun _ => 0)))] := hD
  refine lv_if_eq (tgt := 68) hx hb dX3_fewest_50 (by decide) (fun _ => ?_) (fun c => absurd (by decide) c)
  refine lv_iconst (v := 0) hx hb dX3_fewest_68 (by decide) ?_
  refine gw_zast (y := 0) hx hb hK hP hD hS 1 2 6 rfl rfl rfl (by decide) (by decide) rfl dX3_fewest_69 (fun H locs hP hD hS => ?_)
  have hP : va_P G vwCl [((q 23), .inr (3, [.ref (q 24), .ref (q 25), .ref (q 26), .ref (q 27), .ref (q 28), .ref (q 29), .ref (q 30), .ref (q 31), .int 0, .long 1, .int p2, .int 0, .int 0, .int 0, .long 0, .int 0])), ((q 26), .inl (cZ, 10, .inl (upd (upd (upd (upd (upd (upd (upd (fun _ => 0) 0 0) 1 0) 2 0) 3 0) 4 0) 5 0) 6 0))), ((q 1), .inr (4, [.ref (q 2), .ref (q 3), .ref (q 4), .int 0, .int 0, .int 0, .int 0, .int 0, .int 9, .int 0, .int (-1), .int 0, .int 0])), ((q 2), .inl (cI, 90, .inl (fun _ => 0))), ((q 3), .inl (cI, 12, .inl (fun _ => 0))), ((q 4), .inl (cI, 1880, .inl (fun _ => 0)))] H := hP
  have hD : va_D A [((q 23), .inr (3, [.ref (q 24), .ref (q 25), .ref (q 26), .ref (q 27), .ref (q 28), .ref (q 29), .ref (q 30), .ref (q 31), .int 0, .long 1, .int p2, .int 0, .int 0, .int 0, .long 0, .int 0])), ((q 26), .inl (cZ, 10, .inl (upd (upd (upd (upd (upd (upd (upd (fun _ => 0) 0 0) 1 0) 2 0) 3 0) 4 0) 5 0) 6 0))), ((q 1), .inr (4, [.ref (q 2), .ref (q 3), .ref (q 4), .int 0, .int 0, .int 0, .int 0, .int 0, .int 9, .int 0, .int (-1), .int 0, .int 0])), ((q 2), .inl (cI, 90, .inl (fun _ => 0))), ((q 3), .inl (cI, 12, .inl (fun _ => 0))), ((q 4), .inl (cI, 1880, .inl (fun _ => 0)))] := hD
  refine lv_aload_n hx hb dX3_fewest_70 rfl (lv_at hl 1 rfl) ?_
  refine va_get (D := G) (ci := 3) (v := .ref (q 26)) (C := RX3) (T := TX3) (N := 16) hx hb hts iX3 hown hK hP 0 rfl rfl 2 (by decide) (hts _ m_286) (fun _ h9 => h9) rfl dX3_fewest_71 ?_
  refine lv_iload hx hb dX3_fewest_74 (lv_at hl 0 rfl) ?_
  refine gw_zald (x := 0) hx hb hK hP 1 2 6 rfl rfl rfl (by decide) (by decide) rfl dX3_fewest_76 ?_
  refine lv_if_eq (tgt := 89) hx hb dX3_fewest_77 (by decide) (fun _ => ?_) (fun c => absurd (by decide) c)
  refine lv_iinc (v := 7) (lv' := [(5, .int 7), (0, .ref (q 23)), (1, .ref (q 1)), (2, .ref (q 16)), (3, .int p1), (4, .int p2)]) hx hb dX3_fewest_89 hl (k := 0) rfl (by decide) (by decide) rfl (fun ls hl => ?_)
  refine lv_goto (tgt := 31) hx hb dX3_fewest_92 (by decide) ?_
  refine lv_iload hx hb dX3_fewest_31 (lv_at hl 0 rfl) ?_
  refine lv_bipush (v := 10) hx hb dX3_fewest_33 (by decide) ?_
  refine lv_icmp_ge (tgt := 95) hx hb dX3_fewest_35 (by decide) (fun c => absurd c (by decide)) (fun _ => ?_)
  refine lv_aload_n hx hb dX3_fewest_38 rfl (lv_at hl 1 rfl) ?_
  refine va_get (D := G) (ci := 3) (v := .ref (q 26)) (C := RX3) (T := TX3) (N := 16) hx hb hts iX3 hown hK hP 0 rfl rfl 2 (by decide) (hts _ m_286) (fun _ h9 => h9) rfl dX3_fewest_39 ?_
  refine lv_iload hx hb dX3_fewest_42 (lv_at hl 0 rfl) ?_
  refine lv_aload_n hx hb dX3_fewest_44 rfl (lv_at hl 2 rfl) ?_
  refine lv_iload hx hb dX3_fewest_45 (lv_at hl 0 rfl) ?_
  refine gw_calli (gw_runV (As := [.int 7]) (rest := [.int 7, .ref (q 26)]) ⟨hx, hb, hml, hown, hts⟩ (c_isFree0 l G cI cJ cZ cB cT (q 1) (q 2) (q 3) (q 4) 0 0 0 0 9 0 (-1) 0 0 (fun _ => 0) (fun _ => 0) (fun _ => 0) 7  H.size) (gG_V m_296 m_71 m_72 m_6 m_69) rfl e_X4_isFree ⟨Nat.le_of_ble_eq_true rfl, Nat.le_of_ble_eq_true rfl⟩ hK hP hD [2, 3, 4, 5] rfl (by decide) rfl 0 rfl rfl rfl hl.1 rfl (Nat.le_of_ble_eq_true rfl) dX3_fewest_47 ⟨Nat.le_of_ble_eq_true rfl, Nat.le_of_ble_eq_true rfl⟩) hP hD hS hA [2, 3, 4, 5] [0, 1] rfl rfl (by decide) (by decide) (fun r_8 u_8 H locs hw_8 hP hD hS => ?_)
  subst hw_8
  have hP : va_P G vwCl [((q 23), .inr (3, [.ref (q 24), .ref (q 25), .ref (q 26), .ref (q 27), .ref (q 28), .ref (q 29), .ref (q 30), .ref (q 31), .int 0, .long 1, .int p2, .int 0, .int 0, .int 0, .long 0, .int 0])), ((q 26), .inl (cZ, 10, .inl (upd (upd (upd (upd (upd (upd (upd (fun _ => 0) 0 0) 1 0) 2 0) 3 0) 4 0) 5 0) 6 0))), ((q 1), .inr (4, [.ref (q 2), .ref (q 3), .ref (q 4), .int 0, .int 0, .int 0, .int 0, .int 0, .int 9, .int 0, .int (-1), .int 0, .int 0])), ((q 2), .inl (cI, 90, .inl (fun _ => 0))), ((q 3), .inl (cI, 12, .inl (fun _ => 0))), ((q 4), .inl (cI, 1880, .inl (fun _ => 0)))] H := hP
  have hD : va_D A [((q 23), .inr (3, [.ref (q 24), .ref (q 25), .ref (q 26), .ref (q 27), .ref (q 28), .ref (q 29), .ref (q 30), .ref (q 31), .int 0, .long 1, .int p2, .int 0, .int 0, .int 0, .long 0, .int 0])), ((q 26), .inl (cZ, 10, .inl (upd (upd (upd (upd (upd (upd (upd (fun _ => 0) 0 0) 1 0) 2 0) 3 0) 4 0) 5 0) 6 0))), ((q 1), .inr (4, [.ref (q 2), .ref (q 3), .ref (q 4), .int 0, .int 0, .int 0, .int 0, .int 0, .int 9, .int 0, .int (-1), .int 0, .int 0])), ((q 2), .inl (cI, 90, .inl (fun _ => 0))), ((q 3), .inl (cI, 12, .inl (fun _ => 0))), ((q 4), .inl (cI, 1880, .inl (fun _ => 0)))] := hD
  refine lv_if_eq (tgt := 68) hx hb dX3_fewest_50 (by decide) (fun _ => ?_) (fun c => absurd (by decide) c)
  refine lv_iconst (v := 0) hx hb dX3_fewest_68 (by decide) ?_
  refine gw_zast (y := 0) hx hb hK hP hD hS 1 2 7 rfl rfl rfl (by decide) (by decide) rfl dX3_fewest_69 (fun H locs hP hD hS => ?_)
  have hP : va_P G vwCl [((q 23), .inr (3, [.ref (q 24), .ref (q 25), .ref (q 26), .ref (q 27), .ref (q 28), .ref (q 29), .ref (q 30), .ref (q 31), .int 0, .long 1, .int p2, .int 0, .int 0, .int 0, .long 0, .int 0])), ((q 26), .inl (cZ, 10, .inl (upd (upd (upd (upd (upd (upd (upd (upd (fun _ => 0) 0 0) 1 0) 2 0) 3 0) 4 0) 5 0) 6 0) 7 0))), ((q 1), .inr (4, [.ref (q 2), .ref (q 3), .ref (q 4), .int 0, .int 0, .int 0, .int 0, .int 0, .int 9, .int 0, .int (-1), .int 0, .int 0])), ((q 2), .inl (cI, 90, .inl (fun _ => 0))), ((q 3), .inl (cI, 12, .inl (fun _ => 0))), ((q 4), .inl (cI, 1880, .inl (fun _ => 0)))] H := hP
  have hD : va_D A [((q 23), .inr (3, [.ref (q 24), .ref (q 25), .ref (q 26), .ref (q 27), .ref (q 28), .ref (q 29), .ref (q 30), .ref (q 31), .int 0, .long 1, .int p2, .int 0, .int 0, .int 0, .long 0, .int 0])), ((q 26), .inl (cZ, 10, .inl (upd (upd (upd (upd (upd (upd (upd (upd (fun _ => 0) 0 0) 1 0) 2 0) 3 0) 4 0) 5 0) 6 0) 7 0))), ((q 1), .inr (4, [.ref (q 2), .ref (q 3), .ref (q 4), .int 0, .int 0, .int 0, .int 0, .int 0, .int 9, .int 0, .int (-1), .int 0, .int 0])), ((q 2), .inl (cI, 90, .inl (fun _ => 0))), ((q 3), .inl (cI, 12, .inl (fun _ => 0))), ((q 4), .inl (cI, 1880, .inl (fun _ => 0)))] := hD
  refine lv_aload_n hx hb dX3_fewest_70 rfl (lv_at hl 1 rfl) ?_
  refine va_get (D := G) (ci := 3) (v := .ref (q 26)) (C := RX3) (T := TX3) (N := 16) hx hb hts iX3 hown hK hP 0 rfl rfl 2 (by decide) (hts _ m_286) (fun _ h9 => h9) rfl dX3_fewest_71 ?_
  refine lv_iload hx hb dX3_fewest_74 (lv_at hl 0 rfl) ?_
  refine gw_zald (x := 0) hx hb hK hP 1 2 7 rfl rfl rfl (by decide) (by decide) rfl dX3_fewest_76 ?_
  refine lv_if_eq (tgt := 89) hx hb dX3_fewest_77 (by decide) (fun _ => ?_) (fun c => absurd (by decide) c)
  refine lv_iinc (v := 8) (lv' := [(5, .int 8), (0, .ref (q 23)), (1, .ref (q 1)), (2, .ref (q 16)), (3, .int p1), (4, .int p2)]) hx hb dX3_fewest_89 hl (k := 0) rfl (by decide) (by decide) rfl (fun ls hl => ?_)
  refine lv_goto (tgt := 31) hx hb dX3_fewest_92 (by decide) ?_
  refine lv_iload hx hb dX3_fewest_31 (lv_at hl 0 rfl) ?_
  refine lv_bipush (v := 10) hx hb dX3_fewest_33 (by decide) ?_
  refine lv_icmp_ge (tgt := 95) hx hb dX3_fewest_35 (by decide) (fun c => absurd c (by decide)) (fun _ => ?_)
  refine lv_aload_n hx hb dX3_fewest_38 rfl (lv_at hl 1 rfl) ?_
  refine va_get (D := G) (ci := 3) (v := .ref (q 26)) (C := RX3) (T := TX3) (N := 16) hx hb hts iX3 hown hK hP 0 rfl rfl 2 (by decide) (hts _ m_286) (fun _ h9 => h9) rfl dX3_fewest_39 ?_
  refine lv_iload hx hb dX3_fewest_42 (lv_at hl 0 rfl) ?_
  refine lv_aload_n hx hb dX3_fewest_44 rfl (lv_at hl 2 rfl) ?_
  refine lv_iload hx hb dX3_fewest_45 (lv_at hl 0 rfl) ?_
  refine gw_calli (gw_runV (As := [.int 8]) (rest := [.int 8, .ref (q 26)]) ⟨hx, hb, hml, hown, hts⟩ (c_isFree0 l G cI cJ cZ cB cT (q 1) (q 2) (q 3) (q 4) 0 0 0 0 9 0 (-1) 0 0 (fun _ => 0) (fun _ => 0) (fun _ => 0) 8  H.size) (gG_V m_296 m_71 m_72 m_6 m_69) rfl e_X4_isFree ⟨Nat.le_of_ble_eq_true rfl, Nat.le_of_ble_eq_true rfl⟩ hK hP hD [2, 3, 4, 5] rfl (by decide) rfl 0 rfl rfl rfl hl.1 rfl (Nat.le_of_ble_eq_true rfl) dX3_fewest_47 ⟨Nat.le_of_ble_eq_true rfl, Nat.le_of_ble_eq_true rfl⟩) hP hD hS hA [2, 3, 4, 5] [0, 1] rfl rfl (by decide) (by decide) (fun r_9 u_9 H locs hw_9 hP hD hS => ?_)
  subst hw_9
  have hP : va_P G vwCl [((q 23), .inr (3, [.ref (q 24), .ref (q 25), .ref (q 26), .ref (q 27), .ref (q 28), .ref (q 29), .ref (q 30), .ref (q 31), .int 0, .long 1, .int p2, .int 0, .int 0, .int 0, .long 0, .int 0])), ((q 26), .inl (cZ, 10, .inl (upd (upd (upd (upd (upd (upd (upd (upd (fun _ => 0) 0 0) 1 0) 2 0) 3 0) 4 0) 5 0) 6 0) 7 0))), ((q 1), .inr (4, [.ref (q 2), .ref (q 3), .ref (q 4), .int 0, .int 0, .int 0, .int 0, .int 0, .int 9, .int 0, .int (-1), .int 0, .int 0])), ((q 2), .inl (cI, 90, .inl (fun _ => 0))), ((q 3), .inl (cI, 12, .inl (fun _ => 0))), ((q 4), .inl (cI, 1880, .inl (fun _ => 0)))] H := hP
  have hD : va_D A [((q 23), .inr (3, [.ref (q 24), .ref (q 25), .ref (q 26), .ref (q 27), .ref (q 28), .ref (q 29), .ref (q 30), .ref (q 31), .int 0, .long 1, .int p2, .int 0, .int 0, .int 0, .long 0, .int 0])), ((q 26), .inl (cZ, 10, .inl (upd (upd (upd (upd (upd (upd (upd (upd (fun _ => 0) 0 0) 1 0) 2 0) 3 0) 4 0) 5 0) 6 0) 7 0))), ((q 1), .inr (4, [.ref (q 2), .ref (q 3), .ref (q 4), .int 0, .int 0, .int 0, .int 0, .int 0, .int 9, .int 0, .int (-1), .int 0, .int 0])), ((q 2), .inl (cI, 90, .inl (fun _ => 0))), ((q 3), .inl (cI, 12, .inl (fun _ => 0))), ((q 4), .inl (cI, 1880, .inl (fun _ => 0)))] := hD
  refine lv_if_eq (tgt := 68) hx hb dX3_fewest_50 (by decide) (fun _ => ?_) (fun c => absurd (by decide) c)
  refine lv_iconst (v := 0) hx hb dX3_fewest_68 (by decide) ?_
  refine gw_zast (y := 0) hx hb hK hP hD hS 1 2 8 rfl rfl rfl (by decide) (by decide) rfl dX3_fewest_69 (fun H locs hP hD hS => ?_)
  have hP : va_P G vwCl [((q 23), .inr (3, [.ref (q 24), .ref (q 25), .ref (q 26), .ref (q 27), .ref (q 28), .ref (q 29), .ref (q 30), .ref (q 31), .int 0, .long 1, .int p2, .int 0, .int 0, .int 0, .long 0, .int 0])), ((q 26), .inl (cZ, 10, .inl (upd (upd (upd (upd (upd (upd (upd (upd (upd (fun _ => 0) 0 0) 1 0) 2 0) 3 0) 4 0) 5 0) 6 0) 7 0) 8 0))), ((q 1), .inr (4, [.ref (q 2), .ref (q 3), .ref (q 4), .int 0, .int 0, .int 0, .int 0, .int 0, .int 9, .int 0, .int (-1), .int 0, .int 0])), ((q 2), .inl (cI, 90, .inl (fun _ => 0))), ((q 3), .inl (cI, 12, .inl (fun _ => 0))), ((q 4), .inl (cI, 1880, .inl (fun _ => 0)))] H := hP
  have hD : va_D A [((q 23), .inr (3, [.ref (q 24), .ref (q 25), .ref (q 26), .ref (q 27), .ref (q 28), .ref (q 29), .ref (q 30), .ref (q 31), .int 0, .long 1, .int p2, .int 0, .int 0, .int 0, .long 0, .int 0])), ((q 26), .inl (cZ, 10, .inl (upd (upd (upd (upd (upd (upd (upd (upd (upd (fun _ => 0) 0 0) 1 0) 2 0) 3 0) 4 0) 5 0) 6 0) 7 0) 8 0))), ((q 1), .inr (4, [.ref (q 2), .ref (q 3), .ref (q 4), .int 0, .int 0, .int 0, .int 0, .int 0, .int 9, .int 0, .int (-1), .int 0, .int 0])), ((q 2), .inl (cI, 90, .inl (fun _ => 0))), ((q 3), .inl (cI, 12, .inl (fun _ => 0))), ((q 4), .inl (cI, 1880, .inl (fun _ => 0)))] := hD
  refine lv_aload_n hx hb dX3_fewest_70 rfl (lv_at hl 1 rfl) ?_
  refine va_get (D := G) (ci := 3) (v := .ref (q 26)) (C := RX3) (T := TX3) (N := 16) hx hb hts iX3 hown hK hP 0 rfl rfl 2 (by decide) (hts _ m_286) (fun _ h9 => h9) rfl dX3_fewest_71 ?_
  refine lv_iload hx hb dX3_fewest_74 (lv_at hl 0 rfl) ?_
  refine gw_zald (x := 0) hx hb hK hP 1 2 8 rfl rfl rfl (by decide) (by decide) rfl dX3_fewest_76 ?_
  refine lv_if_eq (tgt := 89) hx hb dX3_fewest_77 (by decide) (fun _ => ?_) (fun c => absurd (by decide) c)
  refine lv_iinc (v := 9) (lv' := [(5, .int 9), (0, .ref (q 23)), (1, .ref (q 1)), (2, .ref (q 16)), (3, .int p1), (4, .int p2)]) hx hb dX3_fewest_89 hl (k := 0) rfl (by decide) (by decide) rfl (fun ls hl => ?_)
  refine lv_goto (tgt := 31) hx hb dX3_fewest_92 (by decide) ?_
  refine lv_iload hx hb dX3_fewest_31 (lv_at hl 0 rfl) ?_
  refine lv_bipush (v := 10) hx hb dX3_fewest_33 (by decide) ?_
  refine lv_icmp_ge (tgt := 95) hx hb dX3_fewest_35 (by decide) (fun c => absurd c (by decide)) (fun _ => ?_)
  refine lv_aload_n hx hb dX3_fewest_38 rfl (lv_at hl 1 rfl) ?_
  refine va_get (D := G) (ci := 3) (v := .ref (q 26)) (C := RX3) (T := TX3) (N := 16) hx hb hts iX3 hown hK hP 0 rfl rfl 2 (by decide) (hts _ m_286) (fun _ h9 => h9) rfl dX3_fewest_39 ?_
  refine lv_iload hx hb dX3_fewest_42 (lv_at hl 0 rfl) ?_
  refine lv_aload_n hx hb dX3_fewest_44 rfl (lv_at hl 2 rfl) ?_
  refine lv_iload hx hb dX3_fewest_45 (lv_at hl 0 rfl) ?_
  refine gw_calli (gw_runV (As := [.int 9]) (rest := [.int 9, .ref (q 26)]) ⟨hx, hb, hml, hown, hts⟩ (c_isFree0 l G cI cJ cZ cB cT (q 1) (q 2) (q 3) (q 4) 0 0 0 0 9 0 (-1) 0 0 (fun _ => 0) (fun _ => 0) (fun _ => 0) 9  H.size) (gG_V m_296 m_71 m_72 m_6 m_69) rfl e_X4_isFree ⟨Nat.le_of_ble_eq_true rfl, Nat.le_of_ble_eq_true rfl⟩ hK hP hD [2, 3, 4, 5] rfl (by decide) rfl 0 rfl rfl rfl hl.1 rfl (Nat.le_of_ble_eq_true rfl) dX3_fewest_47 ⟨Nat.le_of_ble_eq_true rfl, Nat.le_of_ble_eq_true rfl⟩) hP hD hS hA [2, 3, 4, 5] [0, 1] rfl rfl (by decide) (by decide) (fun r_10 u_10 H locs hw_10 hP hD hS => ?_)
  subst hw_10
  have hP : va_P G vwCl [((q 23), .inr (3, [.ref (q 24), .ref (q 25), .ref (q 26), .ref (q 27), .ref (q 28), .ref (q 29), .ref (q 30), .ref (q 31), .int 0, .long 1, .int p2, .int 0, .int 0, .int 0, .long 0, .int 0])), ((q 26), .inl (cZ, 10, .inl (upd (upd (upd (upd (upd (upd (upd (upd (upd (fun _ => 0) 0 0) 1 0) 2 0) 3 0) 4 0) 5 0) 6 0) 7 0) 8 0))), ((q 1), .inr (4, [.ref (q 2), .ref (q 3), .ref (q 4), .int 0, .int 0, .int 0, .int 0, .int 0, .int 9, .int 0, .int (-1), .int 0, .int 0])), ((q 2), .inl (cI, 90, .inl (fun _ => 0))), ((q 3), .inl (cI, 12, .inl (fun _ => 0))), ((q 4), .inl (cI, 1880, .inl (fun _ => 0)))] H := hP
  have hD : va_D A [((q 23), .inr (3, [.ref (q 24), .ref (q 25), .ref (q 26), .ref (q 27), .ref (q 28), .ref (q 29), .ref (q 30), .ref (q 31), .int 0, .long 1, .int p2, .int 0, .int 0, .int 0, .long 0, .int 0])), ((q 26), .inl (cZ, 10, .inl (upd (upd (upd (upd (upd (upd (upd (upd (upd (fun _ => 0) 0 0) 1 0) 2 0) 3 0) 4 0) 5 0) 6 0) 7 0) 8 0))), ((q 1), .inr (4, [.ref (q 2), .ref (q 3), .ref (q 4), .int 0, .int 0, .int 0, .int 0, .int 0, .int 9, .int 0, .int (-1), .int 0, .int 0])), ((q 2), .inl (cI, 90, .inl (fun _ => 0))), ((q 3), .inl (cI, 12, .inl (fun _ => 0))), ((q 4), .inl (cI, 1880, .inl (fun _ => 0)))] := hD
  refine lv_if_eq (tgt := 68) hx hb dX3_fewest_50 (by decide) (fun _ => ?_) (fun c => absurd (by decide) c)
  refine lv_iconst (v := 0) hx hb dX3_fewest_68 (by decide) ?_
  refine gw_zast (y := 0) hx hb hK hP hD hS 1 2 9 rfl rfl rfl (by decide) (by decide) rfl dX3_fewest_69 (fun H locs hP hD hS => ?_)
  have hP : va_P G vwCl [((q 23), .inr (3, [.ref (q 24), .ref (q 25), .ref (q 26), .ref (q 27), .ref (q 28), .ref (q 29), .ref (q 30), .ref (q 31), .int 0, .long 1, .int p2, .int 0, .int 0, .int 0, .long 0, .int 0])), ((q 26), .inl (cZ, 10, .inl (upd (upd (upd (upd (upd (upd (upd (upd (upd (upd (fun _ => 0) 0 0) 1 0) 2 0) 3 0) 4 0) 5 0) 6 0) 7 0) 8 0) 9 0))), ((q 1), .inr (4, [.ref (q 2), .ref (q 3), .ref (q 4), .int 0, .int 0, .int 0, .int 0, .int 0, .int 9, .int 0, .int (-1), .int 0, .int 0])), ((q 2), .inl (cI, 90, .inl (fun _ => 0))), ((q 3), .inl (cI, 12, .inl (fun _ => 0))), ((q 4), .inl (cI, 1880, .inl (fun _ => 0)))] H := hP
  have hD : va_D A [((q 23), .inr (3, [.ref (q 24), .ref (q 25), .ref (q 26), .ref (q 27), .ref (q 28), .ref (q 29), .ref (q 30), .ref (q 31), .int 0, .long 1, .int p2, .int 0, .int 0, .int 0, .long 0, .int 0])), ((q 26), .inl (cZ, 10, .inl (upd (upd (upd (upd (upd (upd (upd (upd (upd (upd (fun _ => 0) 0 0) 1 0) 2 0) 3 0) 4 0) 5 0) 6 0) 7 0) 8 0) 9 0))), ((q 1), .inr (4, [.ref (q 2), .ref (q 3), .ref (q 4), .int 0, .int 0, .int 0, .int 0, .int 0, .int 9, .int 0, .int (-1), .int 0, .int 0])), ((q 2), .inl (cI, 90, .inl (fun _ => 0))), ((q 3), .inl (cI, 12, .inl (fun _ => 0))), ((q 4), .inl (cI, 1880, .inl (fun _ => 0)))] := hD
  refine lv_aload_n hx hb dX3_fewest_70 rfl (lv_at hl 1 rfl) ?_
  refine va_get (D := G) (ci := 3) (v := .ref (q 26)) (C := RX3) (T := TX3) (N := 16) hx hb hts iX3 hown hK hP 0 rfl rfl 2 (by decide) (hts _ m_286) (fun _ h9 => h9) rfl dX3_fewest_71 ?_
  refine lv_iload hx hb dX3_fewest_74 (lv_at hl 0 rfl) ?_
  refine gw_zald (x := 0) hx hb hK hP 1 2 9 rfl rfl rfl (by decide) (by decide) rfl dX3_fewest_76 ?_
  refine lv_if_eq (tgt := 89) hx hb dX3_fewest_77 (by decide) (fun _ => ?_) (fun c => absurd (by decide) c)
  refine lv_iinc (v := 10) (lv' := [(5, .int 10), (0, .ref (q 23)), (1, .ref (q 1)), (2, .ref (q 16)), (3, .int p1), (4, .int p2)]) hx hb dX3_fewest_89 hl (k := 0) rfl (by decide) (by decide) rfl (fun ls hl => ?_)
  refine lv_goto (tgt := 31) hx hb dX3_fewest_92 (by decide) ?_
  refine lv_iload hx hb dX3_fewest_31 (lv_at hl 0 rfl) ?_
  refine lv_bipush (v := 10) hx hb dX3_fewest_33 (by decide) ?_
  refine lv_icmp_ge (tgt := 95) hx hb dX3_fewest_35 (by decide) (fun _ => ?_) (fun c => absurd (by decide) c)
  refine lv_iconst (v := 1) hx hb dX3_fewest_95 (by decide) ?_
  refine lv_istore (lv' := [(5, .int 1), (0, .ref (q 23)), (1, .ref (q 1)), (2, .ref (q 16)), (3, .int p1), (4, .int p2)]) hx hb dX3_fewest_96 hl (by decide) rfl (fun ls hl => ?_)
  refine lv_iload hx hb dX3_fewest_98 (lv_at hl 0 rfl) ?_
  refine lv_iconst (v := 3) hx hb dX3_fewest_100 (by decide) ?_
  refine lv_icmp_gt (tgt := 146) hx hb dX3_fewest_101 (by decide) (fun c => absurd c (by decide)) (fun _ => ?_)
  refine lv_aload_n hx hb dX3_fewest_104 rfl (lv_at hl 1 rfl) ?_
  refine lv_iload hx hb dX3_fewest_105 (lv_at hl 0 rfl) ?_
  refine va_put (D := G) (ci := 3) (v := .int 1) (ty := .int) (C := RX3) (T := TX3) (N := 16) hx hb hts iX3 tyX3 tyX3_ok nmX3 hown hK hP hD hS 0 rfl rfl 8 (by decide) (hts _ m_285) (fun _ h9 => h9) rfl (tyX3_ok 8 (by decide)) rfl rfl (Nat.le_of_ble_eq_true rfl) dX3_fewest_107 (fun H locs hP hD hS => ?_)
  have hP : va_P G vwCl [((q 23), .inr (3, [.ref (q 24), .ref (q 25), .ref (q 26), .ref (q 27), .ref (q 28), .ref (q 29), .ref (q 30), .ref (q 31), .int 1, .long 1, .int p2, .int 0, .int 0, .int 0, .long 0, .int 0])), ((q 26), .inl (cZ, 10, .inl (upd (upd (upd (upd (upd (upd (upd (upd (upd (upd (fun _ => 0) 0 0) 1 0) 2 0) 3 0) 4 0) 5 0) 6 0) 7 0) 8 0) 9 0))), ((q 1), .inr (4, [.ref (q 2), .ref (q 3), .ref (q 4), .int 0, .int 0, .int 0, .int 0, .int 0, .int 9, .int 0, .int (-1), .int 0, .int 0])), ((q 2), .inl (cI, 90, .inl (fun _ => 0))), ((q 3), .inl (cI, 12, .inl (fun _ => 0))), ((q 4), .inl (cI, 1880, .inl (fun _ => 0)))] H := hP
  have hD : va_D A [((q 23), .inr (3, [.ref (q 24), .ref (q 25), .ref (q 26), .ref (q 27), .ref (q 28), .ref (q 29), .ref (q 30), .ref (q 31), .int 1, .long 1, .int p2, .int 0, .int 0, .int 0, .long 0, .int 0])), ((q 26), .inl (cZ, 10, .inl (upd (upd (upd (upd (upd (upd (upd (upd (upd (upd (fun _ => 0) 0 0) 1 0) 2 0) 3 0) 4 0) 5 0) 6 0) 7 0) 8 0) 9 0))), ((q 1), .inr (4, [.ref (q 2), .ref (q 3), .ref (q 4), .int 0, .int 0, .int 0, .int 0, .int 0, .int 9, .int 0, .int (-1), .int 0, .int 0])), ((q 2), .inl (cI, 90, .inl (fun _ => 0))), ((q 3), .inl (cI, 12, .inl (fun _ => 0))), ((q 4), .inl (cI, 1880, .inl (fun _ => 0)))] := hD
  refine lv_aload_n hx hb dX3_fewest_110 rfl (lv_at hl 1 rfl) ?_
  refine lv_dup hx hb dX3_fewest_111 rfl ?_
  refine va_get (D := G) (ci := 3) (v := .long 1) (C := RX3) (T := TX3) (N := 16) hx hb hts iX3 hown hK hP 0 rfl rfl 9 (by decide) (hts _ m_288) (fun _ h9 => h9) rfl dX3_fewest_112 ?_
  refine lv_ldc2 (v := 100) hx hb hown (hts _ m_297) dX3_fewest_115 ?_
  refine lv_lmul hx hb dX3_fewest_118 ?_
  refine gw_topl (y := 100) (by decide) ?_
  refine va_put (D := G) (ci := 3) (v := .long 100) (ty := .long) (C := RX3) (T := TX3) (N := 16) hx hb hts iX3 tyX3 tyX3_ok nmX3 hown hK hP hD hS 0 rfl rfl 9 (by decide) (hts _ m_288) (fun _ h9 => h9) rfl (tyX3_ok 9 (by decide)) rfl rfl (Nat.le_of_ble_eq_true rfl) dX3_fewest_119 (fun H locs hP hD hS => ?_)
  have hP : va_P G vwCl [((q 23), .inr (3, [.ref (q 24), .ref (q 25), .ref (q 26), .ref (q 27), .ref (q 28), .ref (q 29), .ref (q 30), .ref (q 31), .int 1, .long 100, .int p2, .int 0, .int 0, .int 0, .long 0, .int 0])), ((q 26), .inl (cZ, 10, .inl (upd (upd (upd (upd (upd (upd (upd (upd (upd (upd (fun _ => 0) 0 0) 1 0) 2 0) 3 0) 4 0) 5 0) 6 0) 7 0) 8 0) 9 0))), ((q 1), .inr (4, [.ref (q 2), .ref (q 3), .ref (q 4), .int 0, .int 0, .int 0, .int 0, .int 0, .int 9, .int 0, .int (-1), .int 0, .int 0])), ((q 2), .inl (cI, 90, .inl (fun _ => 0))), ((q 3), .inl (cI, 12, .inl (fun _ => 0))), ((q 4), .inl (cI, 1880, .inl (fun _ => 0)))] H := hP
  have hD : va_D A [((q 23), .inr (3, [.ref (q 24), .ref (q 25), .ref (q 26), .ref (q 27), .ref (q 28), .ref (q 29), .ref (q 30), .ref (q 31), .int 1, .long 100, .int p2, .int 0, .int 0, .int 0, .long 0, .int 0])), ((q 26), .inl (cZ, 10, .inl (upd (upd (upd (upd (upd (upd (upd (upd (upd (upd (fun _ => 0) 0 0) 1 0) 2 0) 3 0) 4 0) 5 0) 6 0) 7 0) 8 0) 9 0))), ((q 1), .inr (4, [.ref (q 2), .ref (q 3), .ref (q 4), .int 0, .int 0, .int 0, .int 0, .int 0, .int 9, .int 0, .int (-1), .int 0, .int 0])), ((q 2), .inl (cI, 90, .inl (fun _ => 0))), ((q 3), .inl (cI, 12, .inl (fun _ => 0))), ((q 4), .inl (cI, 1880, .inl (fun _ => 0)))] := hD
  refine lv_aload_n hx hb dX3_fewest_122 rfl (lv_at hl 1 rfl) ?_
  refine lv_iconst (v := 0) hx hb dX3_fewest_123 (by decide) ?_
  refine lv_iconst (v := 0) hx hb dX3_fewest_124 (by decide) ?_
  refine gw_callv (gw_runV (As := [.int 0, .int 0]) (rest := []) ⟨hx, hb, hml, hown, hts⟩ (c_tryGeese1 l G cI cJ cZ cB cT q 100 p2  H.size) (gG_V m_299 m_300 m_301 m_302 m_298) rfl e_X3_tryGeese ⟨Nat.le_of_ble_eq_true rfl, Nat.le_of_ble_eq_true rfl⟩ hK hP hD [0, 1] rfl (by decide) rfl 0 rfl rfl rfl hl.1 rfl (Nat.le_of_ble_eq_true rfl) dX3_fewest_125 ⟨Nat.le_of_ble_eq_true rfl, Nat.le_of_ble_eq_true rfl⟩) hP hD hS hA [0, 1] [2, 3, 4, 5] rfl rfl (by decide) (by decide) (fun u_11 H locs hw_11 hP hD hS => ?_)
  have hP : va_P G vwCl [((q 1), .inr (4, [.ref (q 2), .ref (q 3), .ref (q 4), .int 0, .int 0, .int 0, .int 0, .int 0, .int 9, .int 0, .int (-1), .int 0, .int 0])), ((q 2), .inl (cI, 90, .inl (fun _ => 0))), ((q 3), .inl (cI, 12, .inl (fun _ => 0))), ((q 4), .inl (cI, 1880, .inl (fun _ => 0))), ((q 23), .inr (3, [.ref (q 24), .ref (q 25), .ref (q 26), .ref (q 27), .ref (q 28), .ref (q 29), .ref (q 30), .ref (q 31), .int 1, .long 100, .int p2, .int 0, .int 0, .int 0, .long 0, .int 0])), ((q 26), .inl (cZ, 10, .inl (upd (upd (upd (upd (upd (upd (upd (upd (upd (upd (fun _ => 0) 0 0) 1 0) 2 0) 3 0) 4 0) 5 0) 6 0) 7 0) 8 0) 9 0)))] H := hP
  have hD : va_D A [((q 1), .inr (4, [.ref (q 2), .ref (q 3), .ref (q 4), .int 0, .int 0, .int 0, .int 0, .int 0, .int 9, .int 0, .int (-1), .int 0, .int 0])), ((q 2), .inl (cI, 90, .inl (fun _ => 0))), ((q 3), .inl (cI, 12, .inl (fun _ => 0))), ((q 4), .inl (cI, 1880, .inl (fun _ => 0))), ((q 23), .inr (3, [.ref (q 24), .ref (q 25), .ref (q 26), .ref (q 27), .ref (q 28), .ref (q 29), .ref (q 30), .ref (q 31), .int 1, .long 100, .int p2, .int 0, .int 0, .int 0, .long 0, .int 0])), ((q 26), .inl (cZ, 10, .inl (upd (upd (upd (upd (upd (upd (upd (upd (upd (upd (fun _ => 0) 0 0) 1 0) 2 0) 3 0) 4 0) 5 0) 6 0) 7 0) 8 0) 9 0)))] := hD
  refine lv_aload_n hx hb dX3_fewest_128 rfl (lv_at hl 1 rfl) ?_
  refine va_get (D := G) (ci := 3) (v := .int 0) (C := RX3) (T := TX3) (N := 16) hx hb hts iX3 hown hK hP 4 rfl rfl 12 (by decide) (hts _ m_289) (fun _ h9 => h9) rfl dX3_fewest_129 ?_
  refine lv_if_eq (tgt := 140) hx hb dX3_fewest_132 (by decide) (fun _ => ?_) (fun c => absurd (by decide) c)
  refine lv_iinc (v := 2) (lv' := [(5, .int 2), (0, .ref (q 23)), (1, .ref (q 1)), (2, .ref (q 16)), (3, .int p1), (4, .int p2)]) hx hb dX3_fewest_140 hl (k := 0) rfl (by decide) (by decide) rfl (fun ls hl => ?_)
  refine lv_goto (tgt := 98) hx hb dX3_fewest_143 (by decide) ?_
  refine lv_iload hx hb dX3_fewest_98 (lv_at hl 0 rfl) ?_
  refine lv_iconst (v := 3) hx hb dX3_fewest_100 (by decide) ?_
  refine lv_icmp_gt (tgt := 146) hx hb dX3_fewest_101 (by decide) (fun c => absurd c (by decide)) (fun _ => ?_)
  refine lv_aload_n hx hb dX3_fewest_104 rfl (lv_at hl 1 rfl) ?_
  refine lv_iload hx hb dX3_fewest_105 (lv_at hl 0 rfl) ?_
  refine va_put (D := G) (ci := 3) (v := .int 2) (ty := .int) (C := RX3) (T := TX3) (N := 16) hx hb hts iX3 tyX3 tyX3_ok nmX3 hown hK hP hD hS 4 rfl rfl 8 (by decide) (hts _ m_285) (fun _ h9 => h9) rfl (tyX3_ok 8 (by decide)) rfl rfl (Nat.le_of_ble_eq_true rfl) dX3_fewest_107 (fun H locs hP hD hS => ?_)
  have hP : va_P G vwCl [((q 1), .inr (4, [.ref (q 2), .ref (q 3), .ref (q 4), .int 0, .int 0, .int 0, .int 0, .int 0, .int 9, .int 0, .int (-1), .int 0, .int 0])), ((q 2), .inl (cI, 90, .inl (fun _ => 0))), ((q 3), .inl (cI, 12, .inl (fun _ => 0))), ((q 4), .inl (cI, 1880, .inl (fun _ => 0))), ((q 23), .inr (3, [.ref (q 24), .ref (q 25), .ref (q 26), .ref (q 27), .ref (q 28), .ref (q 29), .ref (q 30), .ref (q 31), .int 2, .long 100, .int p2, .int 0, .int 0, .int 0, .long 0, .int 0])), ((q 26), .inl (cZ, 10, .inl (upd (upd (upd (upd (upd (upd (upd (upd (upd (upd (fun _ => 0) 0 0) 1 0) 2 0) 3 0) 4 0) 5 0) 6 0) 7 0) 8 0) 9 0)))] H := hP
  have hD : va_D A [((q 1), .inr (4, [.ref (q 2), .ref (q 3), .ref (q 4), .int 0, .int 0, .int 0, .int 0, .int 0, .int 9, .int 0, .int (-1), .int 0, .int 0])), ((q 2), .inl (cI, 90, .inl (fun _ => 0))), ((q 3), .inl (cI, 12, .inl (fun _ => 0))), ((q 4), .inl (cI, 1880, .inl (fun _ => 0))), ((q 23), .inr (3, [.ref (q 24), .ref (q 25), .ref (q 26), .ref (q 27), .ref (q 28), .ref (q 29), .ref (q 30), .ref (q 31), .int 2, .long 100, .int p2, .int 0, .int 0, .int 0, .long 0, .int 0])), ((q 26), .inl (cZ, 10, .inl (upd (upd (upd (upd (upd (upd (upd (upd (upd (upd (fun _ => 0) 0 0) 1 0) 2 0) 3 0) 4 0) 5 0) 6 0) 7 0) 8 0) 9 0)))] := hD
  refine lv_aload_n hx hb dX3_fewest_110 rfl (lv_at hl 1 rfl) ?_
  refine lv_dup hx hb dX3_fewest_111 rfl ?_
  refine va_get (D := G) (ci := 3) (v := .long 100) (C := RX3) (T := TX3) (N := 16) hx hb hts iX3 hown hK hP 4 rfl rfl 9 (by decide) (hts _ m_288) (fun _ h9 => h9) rfl dX3_fewest_112 ?_
  refine lv_ldc2 (v := 100) hx hb hown (hts _ m_297) dX3_fewest_115 ?_
  refine lv_lmul hx hb dX3_fewest_118 ?_
  refine va_put (D := G) (ci := 3) (v := .long (100 * 100)) (ty := .long) (C := RX3) (T := TX3) (N := 16) hx hb hts iX3 tyX3 tyX3_ok nmX3 hown hK hP hD hS 4 rfl rfl 9 (by decide) (hts _ m_288) (fun _ h9 => h9) rfl (tyX3_ok 9 (by decide)) rfl rfl (Nat.le_of_ble_eq_true rfl) dX3_fewest_119 (fun H locs hP hD hS => ?_)
  have hP : va_P G vwCl [((q 1), .inr (4, [.ref (q 2), .ref (q 3), .ref (q 4), .int 0, .int 0, .int 0, .int 0, .int 0, .int 9, .int 0, .int (-1), .int 0, .int 0])), ((q 2), .inl (cI, 90, .inl (fun _ => 0))), ((q 3), .inl (cI, 12, .inl (fun _ => 0))), ((q 4), .inl (cI, 1880, .inl (fun _ => 0))), ((q 23), .inr (3, [.ref (q 24), .ref (q 25), .ref (q 26), .ref (q 27), .ref (q 28), .ref (q 29), .ref (q 30), .ref (q 31), .int 2, .long (100 * 100), .int p2, .int 0, .int 0, .int 0, .long 0, .int 0])), ((q 26), .inl (cZ, 10, .inl (upd (upd (upd (upd (upd (upd (upd (upd (upd (upd (fun _ => 0) 0 0) 1 0) 2 0) 3 0) 4 0) 5 0) 6 0) 7 0) 8 0) 9 0)))] H := hP
  have hD : va_D A [((q 1), .inr (4, [.ref (q 2), .ref (q 3), .ref (q 4), .int 0, .int 0, .int 0, .int 0, .int 0, .int 9, .int 0, .int (-1), .int 0, .int 0])), ((q 2), .inl (cI, 90, .inl (fun _ => 0))), ((q 3), .inl (cI, 12, .inl (fun _ => 0))), ((q 4), .inl (cI, 1880, .inl (fun _ => 0))), ((q 23), .inr (3, [.ref (q 24), .ref (q 25), .ref (q 26), .ref (q 27), .ref (q 28), .ref (q 29), .ref (q 30), .ref (q 31), .int 2, .long (100 * 100), .int p2, .int 0, .int 0, .int 0, .long 0, .int 0])), ((q 26), .inl (cZ, 10, .inl (upd (upd (upd (upd (upd (upd (upd (upd (upd (upd (fun _ => 0) 0 0) 1 0) 2 0) 3 0) 4 0) 5 0) 6 0) 7 0) 8 0) 9 0)))] := hD
  refine lv_aload_n hx hb dX3_fewest_122 rfl (lv_at hl 1 rfl) ?_
  refine lv_iconst (v := 0) hx hb dX3_fewest_123 (by decide) ?_
  refine lv_iconst (v := 0) hx hb dX3_fewest_124 (by decide) ?_
  refine gw_callv (gw_runV (As := [.int 0, .int 0]) (rest := []) ⟨hx, hb, hml, hown, hts⟩ (c_tryGeese2 l G cI cJ cZ cB cT q (100 * 100) p2  H.size) (gG_V m_299 m_300 m_301 m_302 m_298) rfl e_X3_tryGeese ⟨Nat.le_of_ble_eq_true rfl, Nat.le_of_ble_eq_true rfl⟩ hK hP hD [4, 5] rfl (by decide) rfl 0 rfl rfl rfl hl.1 rfl (Nat.le_of_ble_eq_true rfl) dX3_fewest_125 ⟨Nat.le_of_ble_eq_true rfl, Nat.le_of_ble_eq_true rfl⟩) hP hD hS hA [4, 5] [0, 1, 2, 3] rfl rfl (by decide) (by decide) (fun u_12 H locs hw_12 hP hD hS => ?_)
  have hP : va_P G vwCl [((q 1), .inr (4, [.ref (q 2), .ref (q 3), .ref (q 4), .int 0, .int 0, .int 0, .int 0, .int 0, .int 9, .int 0, .int (-1), .int 0, .int 0])), ((q 2), .inl (cI, 90, .inl (fun _ => 0))), ((q 3), .inl (cI, 12, .inl (fun _ => 0))), ((q 4), .inl (cI, 1880, .inl (fun _ => 0))), ((q 23), .inr (3, [.ref (q 24), .ref (q 25), .ref (q 26), .ref (q 27), .ref (q 28), .ref (q 29), .ref (q 30), .ref (q 31), .int 2, .long (100 * 100), .int p2, .int 0, .int 0, .int 0, .long 0, .int 0])), ((q 26), .inl (cZ, 10, .inl (upd (upd (upd (upd (upd (upd (upd (upd (upd (upd (fun _ => 0) 0 0) 1 0) 2 0) 3 0) 4 0) 5 0) 6 0) 7 0) 8 0) 9 0)))] H := hP
  have hD : va_D A [((q 1), .inr (4, [.ref (q 2), .ref (q 3), .ref (q 4), .int 0, .int 0, .int 0, .int 0, .int 0, .int 9, .int 0, .int (-1), .int 0, .int 0])), ((q 2), .inl (cI, 90, .inl (fun _ => 0))), ((q 3), .inl (cI, 12, .inl (fun _ => 0))), ((q 4), .inl (cI, 1880, .inl (fun _ => 0))), ((q 23), .inr (3, [.ref (q 24), .ref (q 25), .ref (q 26), .ref (q 27), .ref (q 28), .ref (q 29), .ref (q 30), .ref (q 31), .int 2, .long (100 * 100), .int p2, .int 0, .int 0, .int 0, .long 0, .int 0])), ((q 26), .inl (cZ, 10, .inl (upd (upd (upd (upd (upd (upd (upd (upd (upd (upd (fun _ => 0) 0 0) 1 0) 2 0) 3 0) 4 0) 5 0) 6 0) 7 0) 8 0) 9 0)))] := hD
  refine lv_aload_n hx hb dX3_fewest_128 rfl (lv_at hl 1 rfl) ?_
  refine va_get (D := G) (ci := 3) (v := .int 0) (C := RX3) (T := TX3) (N := 16) hx hb hts iX3 hown hK hP 4 rfl rfl 12 (by decide) (hts _ m_289) (fun _ h9 => h9) rfl dX3_fewest_129 ?_
  refine lv_if_eq (tgt := 140) hx hb dX3_fewest_132 (by decide) (fun _ => ?_) (fun c => absurd (by decide) c)
  refine lv_iinc (v := 3) (lv' := [(5, .int 3), (0, .ref (q 23)), (1, .ref (q 1)), (2, .ref (q 16)), (3, .int p1), (4, .int p2)]) hx hb dX3_fewest_140 hl (k := 0) rfl (by decide) (by decide) rfl (fun ls hl => ?_)
  refine lv_goto (tgt := 98) hx hb dX3_fewest_143 (by decide) ?_
  refine lv_iload hx hb dX3_fewest_98 (lv_at hl 0 rfl) ?_
  refine lv_iconst (v := 3) hx hb dX3_fewest_100 (by decide) ?_
  refine lv_icmp_gt (tgt := 146) hx hb dX3_fewest_101 (by decide) (fun c => absurd c (by decide)) (fun _ => ?_)
  refine lv_aload_n hx hb dX3_fewest_104 rfl (lv_at hl 1 rfl) ?_
  refine lv_iload hx hb dX3_fewest_105 (lv_at hl 0 rfl) ?_
  refine va_put (D := G) (ci := 3) (v := .int 3) (ty := .int) (C := RX3) (T := TX3) (N := 16) hx hb hts iX3 tyX3 tyX3_ok nmX3 hown hK hP hD hS 4 rfl rfl 8 (by decide) (hts _ m_285) (fun _ h9 => h9) rfl (tyX3_ok 8 (by decide)) rfl rfl (Nat.le_of_ble_eq_true rfl) dX3_fewest_107 (fun H locs hP hD hS => ?_)
  have hP : va_P G vwCl [((q 1), .inr (4, [.ref (q 2), .ref (q 3), .ref (q 4), .int 0, .int 0, .int 0, .int 0, .int 0, .int 9, .int 0, .int (-1), .int 0, .int 0])), ((q 2), .inl (cI, 90, .inl (fun _ => 0))), ((q 3), .inl (cI, 12, .inl (fun _ => 0))), ((q 4), .inl (cI, 1880, .inl (fun _ => 0))), ((q 23), .inr (3, [.ref (q 24), .ref (q 25), .ref (q 26), .ref (q 27), .ref (q 28), .ref (q 29), .ref (q 30), .ref (q 31), .int 3, .long (100 * 100), .int p2, .int 0, .int 0, .int 0, .long 0, .int 0])), ((q 26), .inl (cZ, 10, .inl (upd (upd (upd (upd (upd (upd (upd (upd (upd (upd (fun _ => 0) 0 0) 1 0) 2 0) 3 0) 4 0) 5 0) 6 0) 7 0) 8 0) 9 0)))] H := hP
  have hD : va_D A [((q 1), .inr (4, [.ref (q 2), .ref (q 3), .ref (q 4), .int 0, .int 0, .int 0, .int 0, .int 0, .int 9, .int 0, .int (-1), .int 0, .int 0])), ((q 2), .inl (cI, 90, .inl (fun _ => 0))), ((q 3), .inl (cI, 12, .inl (fun _ => 0))), ((q 4), .inl (cI, 1880, .inl (fun _ => 0))), ((q 23), .inr (3, [.ref (q 24), .ref (q 25), .ref (q 26), .ref (q 27), .ref (q 28), .ref (q 29), .ref (q 30), .ref (q 31), .int 3, .long (100 * 100), .int p2, .int 0, .int 0, .int 0, .long 0, .int 0])), ((q 26), .inl (cZ, 10, .inl (upd (upd (upd (upd (upd (upd (upd (upd (upd (upd (fun _ => 0) 0 0) 1 0) 2 0) 3 0) 4 0) 5 0) 6 0) 7 0) 8 0) 9 0)))] := hD
  refine lv_aload_n hx hb dX3_fewest_110 rfl (lv_at hl 1 rfl) ?_
  refine lv_dup hx hb dX3_fewest_111 rfl ?_
  refine va_get (D := G) (ci := 3) (v := .long (100 * 100)) (C := RX3) (T := TX3) (N := 16) hx hb hts iX3 hown hK hP 4 rfl rfl 9 (by decide) (hts _ m_288) (fun _ h9 => h9) rfl dX3_fewest_112 ?_
  refine lv_ldc2 (v := 100) hx hb hown (hts _ m_297) dX3_fewest_115 ?_
  refine lv_lmul hx hb dX3_fewest_118 ?_
  refine va_put (D := G) (ci := 3) (v := .long ((100 * 100) * 100)) (ty := .long) (C := RX3) (T := TX3) (N := 16) hx hb hts iX3 tyX3 tyX3_ok nmX3 hown hK hP hD hS 4 rfl rfl 9 (by decide) (hts _ m_288) (fun _ h9 => h9) rfl (tyX3_ok 9 (by decide)) rfl rfl (Nat.le_of_ble_eq_true rfl) dX3_fewest_119 (fun H locs hP hD hS => ?_)
  have hP : va_P G vwCl [((q 1), .inr (4, [.ref (q 2), .ref (q 3), .ref (q 4), .int 0, .int 0, .int 0, .int 0, .int 0, .int 9, .int 0, .int (-1), .int 0, .int 0])), ((q 2), .inl (cI, 90, .inl (fun _ => 0))), ((q 3), .inl (cI, 12, .inl (fun _ => 0))), ((q 4), .inl (cI, 1880, .inl (fun _ => 0))), ((q 23), .inr (3, [.ref (q 24), .ref (q 25), .ref (q 26), .ref (q 27), .ref (q 28), .ref (q 29), .ref (q 30), .ref (q 31), .int 3, .long ((100 * 100) * 100), .int p2, .int 0, .int 0, .int 0, .long 0, .int 0])), ((q 26), .inl (cZ, 10, .inl (upd (upd (upd (upd (upd (upd (upd (upd (upd (upd (fun _ => 0) 0 0) 1 0) 2 0) 3 0) 4 0) 5 0) 6 0) 7 0) 8 0) 9 0)))] H := hP
  have hD : va_D A [((q 1), .inr (4, [.ref (q 2), .ref (q 3), .ref (q 4), .int 0, .int 0, .int 0, .int 0, .int 0, .int 9, .int 0, .int (-1), .int 0, .int 0])), ((q 2), .inl (cI, 90, .inl (fun _ => 0))), ((q 3), .inl (cI, 12, .inl (fun _ => 0))), ((q 4), .inl (cI, 1880, .inl (fun _ => 0))), ((q 23), .inr (3, [.ref (q 24), .ref (q 25), .ref (q 26), .ref (q 27), .ref (q 28), .ref (q 29), .ref (q 30), .ref (q 31), .int 3, .long ((100 * 100) * 100), .int p2, .int 0, .int 0, .int 0, .long 0, .int 0])), ((q 26), .inl (cZ, 10, .inl (upd (upd (upd (upd (upd (upd (upd (upd (upd (upd (fun _ => 0) 0 0) 1 0) 2 0) 3 0) 4 0) 5 0) 6 0) 7 0) 8 0) 9 0)))] := hD
  refine lv_aload_n hx hb dX3_fewest_122 rfl (lv_at hl 1 rfl) ?_
  refine lv_iconst (v := 0) hx hb dX3_fewest_123 (by decide) ?_
  refine lv_iconst (v := 0) hx hb dX3_fewest_124 (by decide) ?_
  refine gw_callv (gw_runV (As := [.int 0, .int 0]) (rest := []) ⟨hx, hb, hml, hown, hts⟩ (c_tryGeese3 l G cI cJ cZ cB cT q ((100 * 100) * 100) p2  H.size) (gG_V m_299 m_300 m_301 m_302 m_298) rfl e_X3_tryGeese ⟨Nat.le_of_ble_eq_true rfl, Nat.le_of_ble_eq_true rfl⟩ hK hP hD [4, 5] rfl (by decide) rfl 0 rfl rfl rfl hl.1 rfl (Nat.le_of_ble_eq_true rfl) dX3_fewest_125 ⟨Nat.le_of_ble_eq_true rfl, Nat.le_of_ble_eq_true rfl⟩) hP hD hS hA [4, 5] [0, 1, 2, 3] rfl rfl (by decide) (by decide) (fun u_13 H locs hw_13 hP hD hS => ?_)
  have hP : va_P G vwCl [((q 1), .inr (4, [.ref (q 2), .ref (q 3), .ref (q 4), .int 0, .int 0, .int 0, .int 0, .int 0, .int 9, .int 0, .int (-1), .int 0, .int 0])), ((q 2), .inl (cI, 90, .inl (fun _ => 0))), ((q 3), .inl (cI, 12, .inl (fun _ => 0))), ((q 4), .inl (cI, 1880, .inl (fun _ => 0))), ((q 23), .inr (3, [.ref (q 24), .ref (q 25), .ref (q 26), .ref (q 27), .ref (q 28), .ref (q 29), .ref (q 30), .ref (q 31), .int 3, .long ((100 * 100) * 100), .int p2, .int 0, .int 0, .int 0, .long 0, .int 0])), ((q 26), .inl (cZ, 10, .inl (upd (upd (upd (upd (upd (upd (upd (upd (upd (upd (fun _ => 0) 0 0) 1 0) 2 0) 3 0) 4 0) 5 0) 6 0) 7 0) 8 0) 9 0)))] H := hP
  have hD : va_D A [((q 1), .inr (4, [.ref (q 2), .ref (q 3), .ref (q 4), .int 0, .int 0, .int 0, .int 0, .int 0, .int 9, .int 0, .int (-1), .int 0, .int 0])), ((q 2), .inl (cI, 90, .inl (fun _ => 0))), ((q 3), .inl (cI, 12, .inl (fun _ => 0))), ((q 4), .inl (cI, 1880, .inl (fun _ => 0))), ((q 23), .inr (3, [.ref (q 24), .ref (q 25), .ref (q 26), .ref (q 27), .ref (q 28), .ref (q 29), .ref (q 30), .ref (q 31), .int 3, .long ((100 * 100) * 100), .int p2, .int 0, .int 0, .int 0, .long 0, .int 0])), ((q 26), .inl (cZ, 10, .inl (upd (upd (upd (upd (upd (upd (upd (upd (upd (upd (fun _ => 0) 0 0) 1 0) 2 0) 3 0) 4 0) 5 0) 6 0) 7 0) 8 0) 9 0)))] := hD
  refine lv_aload_n hx hb dX3_fewest_128 rfl (lv_at hl 1 rfl) ?_
  refine va_get (D := G) (ci := 3) (v := .int 0) (C := RX3) (T := TX3) (N := 16) hx hb hts iX3 hown hK hP 4 rfl rfl 12 (by decide) (hts _ m_289) (fun _ h9 => h9) rfl dX3_fewest_129 ?_
  refine lv_if_eq (tgt := 140) hx hb dX3_fewest_132 (by decide) (fun _ => ?_) (fun c => absurd (by decide) c)
  refine lv_iinc (v := 4) (lv' := [(5, .int 4), (0, .ref (q 23)), (1, .ref (q 1)), (2, .ref (q 16)), (3, .int p1), (4, .int p2)]) hx hb dX3_fewest_140 hl (k := 0) rfl (by decide) (by decide) rfl (fun ls hl => ?_)
  refine lv_goto (tgt := 98) hx hb dX3_fewest_143 (by decide) ?_
  refine lv_iload hx hb dX3_fewest_98 (lv_at hl 0 rfl) ?_
  refine lv_iconst (v := 3) hx hb dX3_fewest_100 (by decide) ?_
  refine lv_icmp_gt (tgt := 146) hx hb dX3_fewest_101 (by decide) (fun _ => ?_) (fun c => absurd (by decide) c)
  refine lv_iconst (v := 0) hx hb dX3_fewest_146 (by decide) ?_
  exact gw_iret () hx hb hr hlocks (hP.sub [] rfl) (hD.sub [] (by decide) rfl) hS rfl dX3_fewest_147
theorem e_X3_fewest : yX3_fewest.cls = RX3 ∧ yX3_fewest.cls ≠ "java/lang/invoke/MethodHandle" ∧ yX3_fewest.cls ≠ "java/lang/invoke/VarHandle" ∧ (parseMethodDescriptor yX3_fewest.desc).map (fun d => d.parameters.length) = some 4 := by decide +kernel
set_option maxHeartbeats 4000000 in
set_option maxRecDepth 100000 in
theorem c_X8_plan (l : Launch) (G : va_G) (cI cJ cZ cB cT : ClassId) (q : Nat → Nat) (p1 : Int32) (p2 : Int32) (p3 : Int32)  : gMi l yX8_plan (gws yX8_plan cX8_plan 5 (some .int)) 5 G (gT cI cJ cZ cB cT) [.ref (q 0), .int p1, .int p2, .int p3] [((q 0), .inr (8, [.ref (q 1), .ref (q 5), .ref (q 9), .ref (q 11), .ref (q 15), .ref (q 16), .ref (q 20), .ref (q 23)])), ((q 23), .inr (3, [.ref (q 24), .ref (q 25), .ref (q 26), .ref (q 27), .ref (q 28), .ref (q 29), .ref (q 30), .ref (q 31), .int 0, .long 1, .int 0, .int 0, .int 0, .int 0, .long 0, .int 0])), ((q 26), .inl (cZ, 10, .inl (fun _ => 0))), ((q 1), .inr (4, [.ref (q 2), .ref (q 3), .ref (q 4), .int 0, .int 0, .int 0, .int 0, .int 0, .int 9, .int 0, .int (-1), .int 0, .int 0])), ((q 2), .inl (cI, 90, .inl (fun _ => 0))), ((q 3), .inl (cI, 12, .inl (fun _ => 0))), ((q 4), .inl (cI, 1880, .inl (fun _ => 0)))] (fun r (_ : Unit) => r = (-2)) (fun (_ : Unit) => ([] : va_W)) := by
  intro sz
  refine gM_start (y := yX8_plan) (av := [.ref (q 0), .int p1, .int p2, .int p3]) (ws := [((q 0), .inr (8, [.ref (q 1), .ref (q 5), .ref (q 9), .ref (q 11), .ref (q 15), .ref (q 16), .ref (q 20), .ref (q 23)])), ((q 23), .inr (3, [.ref (q 24), .ref (q 25), .ref (q 26), .ref (q 27), .ref (q 28), .ref (q 29), .ref (q 30), .ref (q 31), .int 0, .long 1, .int 0, .int 0, .int 0, .int 0, .long 0, .int 0])), ((q 26), .inl (cZ, 10, .inl (fun _ => 0))), ((q 1), .inr (4, [.ref (q 2), .ref (q 3), .ref (q 4), .int 0, .int 0, .int 0, .int 0, .int 0, .int 9, .int 0, .int (-1), .int 0, .int 0])), ((q 2), .inl (cI, 90, .inl (fun _ => 0))), ((q 3), .inl (cI, 12, .inl (fun _ => 0))), ((q 4), .inl (cI, 1880, .inl (fun _ => 0)))]) (Qf := fun A => va_Qi (fun r (_ : Unit) => r = (-2)) (gB G (fun (_ : Unit) => ([] : va_W)) A) A) (cc := cX8_plan) (maxL := 5) (ret := (some .int)) (by decide) (Nat.le_of_ble_eq_true rfl) ?_
  intro p e s m args below meth c A ls H hx hb hr hts hown hin hlocks hml hP hK hD hA hS hl
  have hl : lv_has ls 5 [(0, .ref (q 0)), (1, .int p1), (2, .int p2), (3, .int p3)] := hl
  refine lv_iload_n hx hb dX8_plan_0 rfl (lv_at hl 1 rfl) ?_
  refine gw_calli (gw_runS (As := [.int p1]) (rest := []) ⟨hx, hb, hml, hown, hts⟩ (c_X8_isLetter l G cI cJ cZ cB cT p1  H.size) (gG_S m_43 m_44 m_45 m_42) rfl e_X8_isLetter ⟨Nat.le_of_ble_eq_true rfl, Nat.le_of_ble_eq_true rfl⟩ hK hP hD [] rfl (by decide) rfl rfl hl.1 rfl (Nat.le_of_ble_eq_true rfl) dX8_plan_1 ⟨Nat.le_of_ble_eq_true rfl, Nat.le_of_ble_eq_true rfl⟩) hP hD hS hA [] [0, 1, 2, 3, 4, 5, 6] rfl rfl (by decide) (by decide) (fun r_1 u_1 H locs hw_1 hP hD hS => ?_)
  subst hw_1
  have hP : va_P G vwCl [((q 0), .inr (8, [.ref (q 1), .ref (q 5), .ref (q 9), .ref (q 11), .ref (q 15), .ref (q 16), .ref (q 20), .ref (q 23)])), ((q 23), .inr (3, [.ref (q 24), .ref (q 25), .ref (q 26), .ref (q 27), .ref (q 28), .ref (q 29), .ref (q 30), .ref (q 31), .int 0, .long 1, .int 0, .int 0, .int 0, .int 0, .long 0, .int 0])), ((q 26), .inl (cZ, 10, .inl (fun _ => 0))), ((q 1), .inr (4, [.ref (q 2), .ref (q 3), .ref (q 4), .int 0, .int 0, .int 0, .int 0, .int 0, .int 9, .int 0, .int (-1), .int 0, .int 0])), ((q 2), .inl (cI, 90, .inl (fun _ => 0))), ((q 3), .inl (cI, 12, .inl (fun _ => 0))), ((q 4), .inl (cI, 1880, .inl (fun _ => 0)))] H := hP
  have hD : va_D A [((q 0), .inr (8, [.ref (q 1), .ref (q 5), .ref (q 9), .ref (q 11), .ref (q 15), .ref (q 16), .ref (q 20), .ref (q 23)])), ((q 23), .inr (3, [.ref (q 24), .ref (q 25), .ref (q 26), .ref (q 27), .ref (q 28), .ref (q 29), .ref (q 30), .ref (q 31), .int 0, .long 1, .int 0, .int 0, .int 0, .int 0, .long 0, .int 0])), ((q 26), .inl (cZ, 10, .inl (fun _ => 0))), ((q 1), .inr (4, [.ref (q 2), .ref (q 3), .ref (q 4), .int 0, .int 0, .int 0, .int 0, .int 0, .int 9, .int 0, .int (-1), .int 0, .int 0])), ((q 2), .inl (cI, 90, .inl (fun _ => 0))), ((q 3), .inl (cI, 12, .inl (fun _ => 0))), ((q 4), .inl (cI, 1880, .inl (fun _ => 0)))] := hD
  refine lv_if_eq (tgt := 34) hx hb dX8_plan_4 (by decide) (fun c_2 => ?_) (fun c_2 => ?_)
  · refine lv_bipush (v := (-2)) hx hb dX8_plan_34 (by decide) ?_
    exact gw_iret () hx hb hr hlocks (hP.sub [] rfl) (hD.sub [] (by decide) rfl) hS rfl dX8_plan_36
  · refine lv_iload_n hx hb dX8_plan_7 rfl (lv_at hl 2 rfl) ?_
    refine lv_iconst (v := 1) hx hb dX8_plan_8 (by decide) ?_
    refine lv_icmp_lt (tgt := 34) hx hb dX8_plan_9 (by decide) (fun c_3 => ?_) (fun c_3 => ?_)
    · refine lv_bipush (v := (-2)) hx hb dX8_plan_34 (by decide) ?_
      exact gw_iret () hx hb hr hlocks (hP.sub [] rfl) (hD.sub [] (by decide) rfl) hS rfl dX8_plan_36
    · refine lv_iload_n hx hb dX8_plan_12 rfl (lv_at hl 2 rfl) ?_
      refine lv_bipush (v := 100) hx hb dX8_plan_13 (by decide) ?_
      refine lv_icmp_gt (tgt := 34) hx hb dX8_plan_15 (by decide) (fun c_4 => ?_) (fun c_4 => ?_)
      · refine lv_bipush (v := (-2)) hx hb dX8_plan_34 (by decide) ?_
        exact gw_iret () hx hb hr hlocks (hP.sub [] rfl) (hD.sub [] (by decide) rfl) hS rfl dX8_plan_36
      · refine lv_iload_n hx hb dX8_plan_18 rfl (lv_at hl 3 rfl) ?_
        refine lv_iconst (v := (-1)) hx hb dX8_plan_19 (by decide) ?_
        refine lv_icmp_eq (tgt := 37) hx hb dX8_plan_20 (by decide) (fun c_5 => ?_) (fun c_5 => ?_)
        · refine lv_aload_n hx hb dX8_plan_37 rfl (lv_at hl 0 rfl) ?_
          refine va_get (D := G) (ci := 8) (v := .ref (q 23)) (C := RX8) (T := TX8) (N := 8) hx hb hts iX8 hown hK hP 0 rfl rfl 7 (by decide) (hts _ m_303) (fun _ h9 => h9) rfl dX8_plan_38 ?_
          refine lv_aload_n hx hb dX8_plan_41 rfl (lv_at hl 0 rfl) ?_
          refine va_get (D := G) (ci := 8) (v := .ref (q 1)) (C := RX8) (T := TX8) (N := 8) hx hb hts iX8 hown hK hP 0 rfl rfl 0 (by decide) (hts _ m_49) (fun _ h9 => h9) rfl dX8_plan_42 ?_
          refine lv_aload_n hx hb dX8_plan_45 rfl (lv_at hl 0 rfl) ?_
          refine va_get (D := G) (ci := 8) (v := .ref (q 16)) (C := RX8) (T := TX8) (N := 8) hx hb hts iX8 hown hK hP 0 rfl rfl 5 (by decide) (hts _ m_154) (fun _ h9 => h9) rfl dX8_plan_46 ?_
          refine lv_iload_n hx hb dX8_plan_49 rfl (lv_at hl 1 rfl) ?_
          refine lv_iload_n hx hb dX8_plan_50 rfl (lv_at hl 2 rfl) ?_
          refine gw_calli (gw_runV (As := [.ref (q 1), .ref (q 16), .int p1, .int p2]) (rest := []) ⟨hx, hb, hml, hown, hts⟩ (c_fewest0 l G cI cJ cZ cB cT q p1 p2  H.size) (gG_V m_305 m_306 m_307 m_302 m_304) rfl e_X3_fewest ⟨Nat.le_of_ble_eq_true rfl, Nat.le_of_ble_eq_true rfl⟩ hK hP hD [1, 2, 3, 4, 5, 6] rfl (by decide) rfl 0 rfl rfl rfl hl.1 rfl (Nat.le_of_ble_eq_true rfl) dX8_plan_51 ⟨Nat.le_of_ble_eq_true rfl, Nat.le_of_ble_eq_true rfl⟩) hP hD hS hA [1, 2, 3, 4, 5, 6] [0] rfl rfl (by decide) (by decide) (fun r_6 u_6 H locs hw_6 hP hD hS => ?_)
          subst hw_6
          have hP : va_P G vwCl [((q 0), .inr (8, [.ref (q 1), .ref (q 5), .ref (q 9), .ref (q 11), .ref (q 15), .ref (q 16), .ref (q 20), .ref (q 23)]))] H := hP
          have hD : va_D A [((q 0), .inr (8, [.ref (q 1), .ref (q 5), .ref (q 9), .ref (q 11), .ref (q 15), .ref (q 16), .ref (q 20), .ref (q 23)]))] := hD
          refine lv_istore (lv' := [(4, .int 0), (0, .ref (q 0)), (1, .int p1), (2, .int p2), (3, .int p3)]) hx hb dX8_plan_54 hl (by decide) rfl (fun ls hl => ?_)
          refine lv_iload hx hb dX8_plan_56 (lv_at hl 0 rfl) ?_
          refine lv_if_ne (tgt := 64) hx hb dX8_plan_58 (by decide) (fun c => absurd (by decide) c) (fun _ => ?_)
          refine lv_bipush (v := (-2)) hx hb dX8_plan_61 (by decide) ?_
          exact gw_iret () hx hb hr hlocks (hP.sub [] rfl) (hD.sub [] (by decide) rfl) hS rfl dX8_plan_63
        · refine lv_aload_n hx hb dX8_plan_23 rfl (lv_at hl 0 rfl) ?_
          refine va_get (D := G) (ci := 8) (v := .ref (q 1)) (C := RX8) (T := TX8) (N := 8) hx hb hts iX8 hown hK hP 0 rfl rfl 0 (by decide) (hts _ m_49) (fun _ h9 => h9) rfl dX8_plan_24 ?_
          refine lv_iload_n hx hb dX8_plan_27 rfl (lv_at hl 3 rfl) ?_
          refine gw_calli (gw_runV (As := [.int p3]) (rest := []) ⟨hx, hb, hml, hown, hts⟩ (c_hasGoose0 l G cI cJ cZ cB cT (q 1) (q 2) (q 3) (q 4) 0 0 0 0 9 0 (-1) 0 0 (fun _ => 0) (fun _ => 0) (fun _ => 0) p3  H.size) (gG_V m_81 m_26 m_27 m_6 m_24) rfl e_X4_hasGoose ⟨Nat.le_of_ble_eq_true rfl, Nat.le_of_ble_eq_true rfl⟩ hK hP hD [3, 4, 5, 6] rfl (by decide) rfl 0 rfl rfl rfl hl.1 rfl (Nat.le_of_ble_eq_true rfl) dX8_plan_28 ⟨Nat.le_of_ble_eq_true rfl, Nat.le_of_ble_eq_true rfl⟩) hP hD hS hA [3, 4, 5, 6] [0, 1, 2] rfl rfl (by decide) (by decide) (fun r_7 u_7 H locs hw_7 hP hD hS => ?_)
          subst hw_7
          have hP : va_P G vwCl [((q 0), .inr (8, [.ref (q 1), .ref (q 5), .ref (q 9), .ref (q 11), .ref (q 15), .ref (q 16), .ref (q 20), .ref (q 23)])), ((q 23), .inr (3, [.ref (q 24), .ref (q 25), .ref (q 26), .ref (q 27), .ref (q 28), .ref (q 29), .ref (q 30), .ref (q 31), .int 0, .long 1, .int 0, .int 0, .int 0, .int 0, .long 0, .int 0])), ((q 26), .inl (cZ, 10, .inl (fun _ => 0))), ((q 1), .inr (4, [.ref (q 2), .ref (q 3), .ref (q 4), .int 0, .int 0, .int 0, .int 0, .int 0, .int 9, .int 0, .int (-1), .int 0, .int 0])), ((q 2), .inl (cI, 90, .inl (fun _ => 0))), ((q 3), .inl (cI, 12, .inl (fun _ => 0))), ((q 4), .inl (cI, 1880, .inl (fun _ => 0)))] H := hP
          have hD : va_D A [((q 0), .inr (8, [.ref (q 1), .ref (q 5), .ref (q 9), .ref (q 11), .ref (q 15), .ref (q 16), .ref (q 20), .ref (q 23)])), ((q 23), .inr (3, [.ref (q 24), .ref (q 25), .ref (q 26), .ref (q 27), .ref (q 28), .ref (q 29), .ref (q 30), .ref (q 31), .int 0, .long 1, .int 0, .int 0, .int 0, .int 0, .long 0, .int 0])), ((q 26), .inl (cZ, 10, .inl (fun _ => 0))), ((q 1), .inr (4, [.ref (q 2), .ref (q 3), .ref (q 4), .int 0, .int 0, .int 0, .int 0, .int 0, .int 9, .int 0, .int (-1), .int 0, .int 0])), ((q 2), .inl (cI, 90, .inl (fun _ => 0))), ((q 3), .inl (cI, 12, .inl (fun _ => 0))), ((q 4), .inl (cI, 1880, .inl (fun _ => 0)))] := hD
          refine lv_if_ne (tgt := 37) hx hb dX8_plan_31 (by decide) (fun c => absurd (by decide) c) (fun _ => ?_)
          refine lv_bipush (v := (-2)) hx hb dX8_plan_34 (by decide) ?_
          exact gw_iret () hx hb hr hlocks (hP.sub [] rfl) (hD.sub [] (by decide) rfl) hS rfl dX8_plan_36
