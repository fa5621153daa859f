set_option maxHeartbeats 4000000 in
set_option maxRecDepth 100000 in
theorem c_begin0 (l : Launch) (G : va_G) (cI cJ cZ cB cT : ClassId) (q : Nat → Nat)  : gMv l yX0_begin (gws yX0_begin cX0_begin 4 none) 1 G (gT cI cJ cZ cB cT) [.ref (q 20), .int 0, .int 0] [((q 20), .inr (0, [.int 0, .long 1, .ref (q 21), .ref (q 22)])), ((q 21), .inl (cJ, 16, .inr (.inl (fun _ => 0))))] (fun (_ : Unit) => True) (fun (_ : Unit) => ([((q 20), .inr (0, [.int 0, .long 1, .ref (q 21), .ref (q 22)])), ((q 21), .inl (cJ, 16, .inr (.inl (vp_updL (vp_updL (vp_updL (vp_updL (vp_updL (vp_updL (vp_updL (vp_updL (vp_updL (vp_updL (vp_updL (vp_updL (vp_updL (vp_updL (vp_updL (vp_updL (fun _ => 0) 0 1) 1 0) 2 0) 3 0) 4 0) 5 0) 6 0) 7 0) 8 0) 9 0) 10 0) 11 0) 12 0) 13 0) 14 0) 15 0))))] : va_W)) := by
  intro sz
  refine gM_start (y := yX0_begin) (av := [.ref (q 20), .int 0, .int 0]) (ws := [((q 20), .inr (0, [.int 0, .long 1, .ref (q 21), .ref (q 22)])), ((q 21), .inl (cJ, 16, .inr (.inl (fun _ => 0))))]) (Qf := fun A => va_Qv (fun (_ : Unit) => True) (gB G (fun (_ : Unit) => ([((q 20), .inr (0, [.int 0, .long 1, .ref (q 21), .ref (q 22)])), ((q 21), .inl (cJ, 16, .inr (.inl (vp_updL (vp_updL (vp_updL (vp_updL (vp_updL (vp_updL (vp_updL (vp_updL (vp_updL (vp_updL (vp_updL (vp_updL (vp_updL (vp_updL (vp_updL (vp_updL (fun _ => 0) 0 1) 1 0) 2 0) 3 0) 4 0) 5 0) 6 0) 7 0) 8 0) 9 0) 10 0) 11 0) 12 0) 13 0) 14 0) 15 0))))] : va_W)) A) A) (cc := cX0_begin) (maxL := 4) (ret := none) (by decide) (Nat.le_of_ble_eq_true rfl) ?_
  intro p e s m args below meth c A ls H hx hb hr hts hown hin hlocks hml hP hK hD hA hS hl
  have hl : lv_has ls 4 [(0, .ref (q 20)), (1, .int 0), (2, .int 0)] := hl
  refine lv_aload_n hx hb dX0_begin_0 rfl (lv_at hl 0 rfl) ?_
  refine lv_iconst (v := 0) hx hb dX0_begin_1 (by decide) ?_
  refine va_put (D := G) (ci := 0) (v := .int 0) (ty := .int) (C := RX0) (T := TX0) (N := 4) hx hb hts iX0 tyX0 tyX0_ok nmX0 hown hK hP hD hS 0 rfl rfl 0 (by decide) (hts _ m_224) (fun _ h9 => h9) rfl (tyX0_ok 0 (by decide)) rfl rfl (Nat.le_of_ble_eq_true rfl) dX0_begin_2 (fun H locs hP hD hS => ?_)
  have hP : va_P G vwCl [((q 20), .inr (0, [.int 0, .long 1, .ref (q 21), .ref (q 22)])), ((q 21), .inl (cJ, 16, .inr (.inl (fun _ => 0))))] H := hP
  have hD : va_D A [((q 20), .inr (0, [.int 0, .long 1, .ref (q 21), .ref (q 22)])), ((q 21), .inl (cJ, 16, .inr (.inl (fun _ => 0))))] := hD
  refine lv_aload_n hx hb dX0_begin_5 rfl (lv_at hl 0 rfl) ?_
  refine lv_lconst (v := 1) hx hb dX0_begin_6 (by decide) ?_
  refine va_put (D := G) (ci := 0) (v := .long 1) (ty := .long) (C := RX0) (T := TX0) (N := 4) hx hb hts iX0 tyX0 tyX0_ok nmX0 hown hK hP hD hS 0 rfl rfl 1 (by decide) (hts _ m_225) (fun _ h9 => h9) rfl (tyX0_ok 1 (by decide)) rfl rfl (Nat.le_of_ble_eq_true rfl) dX0_begin_7 (fun H locs hP hD hS => ?_)
  have hP : va_P G vwCl [((q 20), .inr (0, [.int 0, .long 1, .ref (q 21), .ref (q 22)])), ((q 21), .inl (cJ, 16, .inr (.inl (fun _ => 0))))] H := hP
  have hD : va_D A [((q 20), .inr (0, [.int 0, .long 1, .ref (q 21), .ref (q 22)])), ((q 21), .inl (cJ, 16, .inr (.inl (fun _ => 0))))] := hD
  refine lv_iconst (v := 0) hx hb dX0_begin_10 (by decide) ?_
  refine lv_istore_n (lv' := [(3, .int 0), (0, .ref (q 20)), (1, .int 0), (2, .int 0)]) hx hb dX0_begin_11 rfl hl (by decide) rfl (fun ls hl => ?_)
  refine lv_iload_n hx hb dX0_begin_12 rfl (lv_at hl 0 rfl) ?_
  refine lv_aload_n hx hb dX0_begin_13 rfl (lv_at hl 1 rfl) ?_
  refine va_get (D := G) (ci := 0) (v := .ref (q 21)) (C := RX0) (T := TX0) (N := 4) hx hb hts iX0 hown hK hP 0 rfl rfl 2 (by decide) (hts _ m_226) (fun _ h9 => h9) rfl dX0_begin_14 ?_
  refine va_alen (D := G) hx hb hK hP 1 1 rfl rfl (v := 16) rfl dX0_begin_17 ?_
  refine lv_icmp_ge (tgt := 47) hx hb dX0_begin_18 (by decide) (fun c => absurd c (by decide)) (fun _ => ?_)
  refine lv_aload_n hx hb dX0_begin_21 rfl (lv_at hl 1 rfl) ?_
  refine va_get (D := G) (ci := 0) (v := .ref (q 21)) (C := RX0) (T := TX0) (N := 4) hx hb hts iX0 hown hK hP 0 rfl rfl 2 (by decide) (hts _ m_226) (fun _ h9 => h9) rfl dX0_begin_22 ?_
  refine lv_iload_n hx hb dX0_begin_25 rfl (lv_at hl 0 rfl) ?_
  refine lv_iload_n hx hb dX0_begin_26 rfl (lv_at hl 0 rfl) ?_
  refine lv_iload_n hx hb dX0_begin_27 rfl (lv_at hl 2 rfl) ?_
  refine lv_iconst (v := 4) hx hb dX0_begin_28 (by decide) ?_
  refine lv_imul hx hb dX0_begin_29 ?_
  refine gw_topi (y := 0) (by decide) ?_
  refine lv_iload_n hx hb dX0_begin_30 rfl (lv_at hl 3 rfl) ?_
  refine lv_iadd hx hb dX0_begin_31 ?_
  refine gw_topi (y := 0) (by decide) ?_
  refine lv_icmp_ne (tgt := 39) hx hb dX0_begin_32 (by decide) (fun c => absurd (by decide) c) (fun _ => ?_)
  refine lv_lconst (v := 1) hx hb dX0_begin_35 (by decide) ?_
  refine lv_goto (tgt := 40) hx hb dX0_begin_36 (by decide) ?_
  refine gw_last hx hb hK hP hD hS 1 1 0 rfl rfl rfl (by decide) (by decide) dX0_begin_40 (fun H locs hP hD hS => ?_)
  have hP : va_P G vwCl [((q 20), .inr (0, [.int 0, .long 1, .ref (q 21), .ref (q 22)])), ((q 21), .inl (cJ, 16, .inr (.inl (vp_updL (fun _ => 0) 0 1))))] H := hP
  have hD : va_D A [((q 20), .inr (0, [.int 0, .long 1, .ref (q 21), .ref (q 22)])), ((q 21), .inl (cJ, 16, .inr (.inl (vp_updL (fun _ => 0) 0 1))))] := hD
  refine lv_iinc (v := 1) (lv' := [(3, .int 1), (0, .ref (q 20)), (1, .int 0), (2, .int 0)]) hx hb dX0_begin_41 hl (k := 0) rfl (by decide) (by decide) rfl (fun ls hl => ?_)
  refine lv_goto (tgt := 12) hx hb dX0_begin_44 (by decide) ?_
  refine lv_iload_n hx hb dX0_begin_12 rfl (lv_at hl 0 rfl) ?_
  refine lv_aload_n hx hb dX0_begin_13 rfl (lv_at hl 1 rfl) ?_
  refine va_get (D := G) (ci := 0) (v := .ref (q 21)) (C := RX0) (T := TX0) (N := 4) hx hb hts iX0 hown hK hP 0 rfl rfl 2 (by decide) (hts _ m_226) (fun _ h9 => h9) rfl dX0_begin_14 ?_
  refine va_alen (D := G) hx hb hK hP 1 1 rfl rfl (v := 16) rfl dX0_begin_17 ?_
  refine lv_icmp_ge (tgt := 47) hx hb dX0_begin_18 (by decide) (fun c => absurd c (by decide)) (fun _ => ?_)
  refine lv_aload_n hx hb dX0_begin_21 rfl (lv_at hl 1 rfl) ?_
  refine va_get (D := G) (ci := 0) (v := .ref (q 21)) (C := RX0) (T := TX0) (N := 4) hx hb hts iX0 hown hK hP 0 rfl rfl 2 (by decide) (hts _ m_226) (fun _ h9 => h9) rfl dX0_begin_22 ?_
  refine lv_iload_n hx hb dX0_begin_25 rfl (lv_at hl 0 rfl) ?_
  refine lv_iload_n hx hb dX0_begin_26 rfl (lv_at hl 0 rfl) ?_
  refine lv_iload_n hx hb dX0_begin_27 rfl (lv_at hl 2 rfl) ?_
  refine lv_iconst (v := 4) hx hb dX0_begin_28 (by decide) ?_
  refine lv_imul hx hb dX0_begin_29 ?_
  refine gw_topi (y := 0) (by decide) ?_
  refine lv_iload_n hx hb dX0_begin_30 rfl (lv_at hl 3 rfl) ?_
  refine lv_iadd hx hb dX0_begin_31 ?_
  refine gw_topi (y := 0) (by decide) ?_
  refine lv_icmp_ne (tgt := 39) hx hb dX0_begin_32 (by decide) (fun _ => ?_) (fun c => absurd c (by decide))
  refine lv_lconst (v := 0) hx hb dX0_begin_39 (by decide) ?_
  refine gw_last hx hb hK hP hD hS 1 1 1 rfl rfl rfl (by decide) (by decide) dX0_begin_40 (fun H locs hP hD hS => ?_)
  have hP : va_P G vwCl [((q 20), .inr (0, [.int 0, .long 1, .ref (q 21), .ref (q 22)])), ((q 21), .inl (cJ, 16, .inr (.inl (vp_updL (vp_updL (fun _ => 0) 0 1) 1 0))))] H := hP
  have hD : va_D A [((q 20), .inr (0, [.int 0, .long 1, .ref (q 21), .ref (q 22)])), ((q 21), .inl (cJ, 16, .inr (.inl (vp_updL (vp_updL (fun _ => 0) 0 1) 1 0))))] := hD
  refine lv_iinc (v := 2) (lv' := [(3, .int 2), (0, .ref (q 20)), (1, .int 0), (2, .int 0)]) hx hb dX0_begin_41 hl (k := 0) rfl (by decide) (by decide) rfl (fun ls hl => ?_)
  refine lv_goto (tgt := 12) hx hb dX0_begin_44 (by decide) ?_
  refine lv_iload_n hx hb dX0_begin_12 rfl (lv_at hl 0 rfl) ?_
  refine lv_aload_n hx hb dX0_begin_13 rfl (lv_at hl 1 rfl) ?_
  refine va_get (D := G) (ci := 0) (v := .ref (q 21)) (C := RX0) (T := TX0) (N := 4) hx hb hts iX0 hown hK hP 0 rfl rfl 2 (by decide) (hts _ m_226) (fun _ h9 => h9) rfl dX0_begin_14 ?_
  refine va_alen (D := G) hx hb hK hP 1 1 rfl rfl (v := 16) rfl dX0_begin_17 ?_
  refine lv_icmp_ge (tgt := 47) hx hb dX0_begin_18 (by decide) (fun c => absurd c (by decide)) (fun _ => ?_)
  refine lv_aload_n hx hb dX0_begin_21 rfl (lv_at hl 1 rfl) ?_
  refine va_get (D := G) (ci := 0) (v := .ref (q 21)) (C := RX0) (T := TX0) (N := 4) hx hb hts iX0 hown hK hP 0 rfl rfl 2 (by decide) (hts _ m_226) (fun _ h9 => h9) rfl dX0_begin_22 ?_
  refine lv_iload_n hx hb dX0_begin_25 rfl (lv_at hl 0 rfl) ?_
  refine lv_iload_n hx hb dX0_begin_26 rfl (lv_at hl 0 rfl) ?_
  refine lv_iload_n hx hb dX0_begin_27 rfl (lv_at hl 2 rfl) ?_
  refine lv_iconst (v := 4) hx hb dX0_begin_28 (by decide) ?_
  refine lv_imul hx hb dX0_begin_29 ?_
  refine gw_topi (y := 0) (by decide) ?_
  refine lv_iload_n hx hb dX0_begin_30 rfl (lv_at hl 3 rfl) ?_
  refine lv_iadd hx hb dX0_begin_31 ?_
  refine gw_topi (y := 0) (by decide) ?_
  refine lv_icmp_ne (tgt := 39) hx hb dX0_begin_32 (by decide) (fun _ => ?_) (fun c => absurd c (by decide))
  refine lv_lconst (v := 0) hx hb dX0_begin_39 (by decide) ?_
  refine gw_last hx hb hK hP hD hS 1 1 2 rfl rfl rfl (by decide) (by decide) dX0_begin_40 (fun H locs hP hD hS => ?_)
  have hP : va_P G vwCl [((q 20), .inr (0, [.int 0, .long 1, .ref (q 21), .ref (q 22)])), ((q 21), .inl (cJ, 16, .inr (.inl (vp_updL (vp_updL (vp_updL (fun _ => 0) 0 1) 1 0) 2 0))))] H := hP
  have hD : va_D A [((q 20), .inr (0, [.int 0, .long 1, .ref (q 21), .ref (q 22)])), ((q 21), .inl (cJ, 16, .inr (.inl (vp_updL (vp_updL (vp_updL (fun _ => 0) 0 1) 1 0) 2 0))))] := hD
  refine lv_iinc (v := 3) (lv' := [(3, .int 3), (0, .ref (q 20)), (1, .int 0), (2, .int 0)]) hx hb dX0_begin_41 hl (k := 0) rfl (by decide) (by decide) rfl (fun ls hl => ?_)
  refine lv_goto (tgt := 12) hx hb dX0_begin_44 (by decide) ?_
  refine lv_iload_n hx hb dX0_begin_12 rfl (lv_at hl 0 rfl) ?_
  refine lv_aload_n hx hb dX0_begin_13 rfl (lv_at hl 1 rfl) ?_
  refine va_get (D := G) (ci := 0) (v := .ref (q 21)) (C := RX0) (T := TX0) (N := 4) hx hb hts iX0 hown hK hP 0 rfl rfl 2 (by decide) (hts _ m_226) (fun _ h9 => h9) rfl dX0_begin_14 ?_
  refine va_alen (D := G) hx hb hK hP 1 1 rfl rfl (v := 16) rfl dX0_begin_17 ?_
  refine lv_icmp_ge (tgt := 47) hx hb dX0_begin_18 (by decide) (fun c => absurd c (by decide)) (fun _ => ?_)
  refine lv_aload_n hx hb dX0_begin_21 rfl (lv_at hl 1 rfl) ?_
  refine va_get (D := G) (ci := 0) (v := .ref (q 21)) (C := RX0) (T := TX0) (N := 4) hx hb hts iX0 hown hK hP 0 rfl rfl 2 (by decide) (hts _ m_226) (fun _ h9 => h9) rfl dX0_begin_22 ?_
  refine lv_iload_n hx hb dX0_begin_25 rfl (lv_at hl 0 rfl) ?_
  refine lv_iload_n hx hb dX0_begin_26 rfl (lv_at hl 0 rfl) ?_
  refine lv_iload_n hx hb dX0_begin_27 rfl (lv_at hl 2 rfl) ?_
  refine lv_iconst (v := 4) hx hb dX0_begin_28 (by decide) ?_
  refine lv_imul hx hb dX0_begin_29 ?_
  refine gw_topi (y := 0) (by decide) ?_
  refine lv_iload_n hx hb dX0_begin_30 rfl (lv_at hl 3 rfl) ?_
  refine lv_iadd hx hb dX0_begin_31 ?_
  refine gw_topi (y := 0) (by decide) ?_
  refine lv_icmp_ne (tgt := 39) hx hb dX0_begin_32 (by decide) (fun _ => ?_) (fun c => absurd c (by decide))
  refine lv_lconst (v := 0) hx hb dX0_begin_39 (by decide) ?_
  refine gw_last hx hb hK hP hD hS 1 1 3 rfl rfl rfl (by decide) (by decide) dX0_begin_40 (fun H locs hP hD hS => ?_)
  have hP : va_P G vwCl [((q 20), .inr (0, [.int 0, .long 1, .ref (q 21), .ref (q 22)])), ((q 21), .inl (cJ, 16, .inr (.inl (vp_updL (vp_updL (vp_updL (vp_updL (fun _ => 0) 0 1) 1 0) 2 0) 3 0))))] H := hP
  have hD : va_D A [((q 20), .inr (0, [.int 0, .long 1, .ref (q 21), .ref (q 22)])), ((q 21), .inl (cJ, 16, .inr (.inl (vp_updL (vp_updL (vp_updL (vp_updL (fun _ => 0) 0 1) 1 0) 2 0) 3 0))))] := hD
  refine lv_iinc (v := 4) (lv' := [(3, .int 4), (0, .ref (q 20)), (1, .int 0), (2, .int 0)]) hx hb dX0_begin_41 hl (k := 0) rfl (by decide) (by decide) rfl (fun ls hl => ?_)
  refine lv_goto (tgt := 12) hx hb dX0_begin_44 (by decide) ?_
  refine lv_iload_n hx hb dX0_begin_12 rfl (lv_at hl 0 rfl) ?_
  refine lv_aload_n hx hb dX0_begin_13 rfl (lv_at hl 1 rfl) ?_
  refine va_get (D := G) (ci := 0) (v := .ref (q 21)) (C := RX0) (T := TX0) (N := 4) hx hb hts iX0 hown hK hP 0 rfl rfl 2 (by decide) (hts _ m_226) (fun _ h9 => h9) rfl dX0_begin_14 ?_
  refine va_alen (D := G) hx hb hK hP 1 1 rfl rfl (v := 16) rfl dX0_begin_17 ?_
  refine lv_icmp_ge (tgt := 47) hx hb dX0_begin_18 (by decide) (fun c => absurd c (by decide)) (fun _ => ?_)
  refine lv_aload_n hx hb dX0_begin_21 rfl (lv_at hl 1 rfl) ?_
  refine va_get (D := G) (ci := 0) (v := .ref (q 21)) (C := RX0) (T := TX0) (N := 4) hx hb hts iX0 hown hK hP 0 rfl rfl 2 (by decide) (hts _ m_226) (fun _ h9 => h9) rfl dX0_begin_22 ?_
  refine lv_iload_n hx hb dX0_begin_25 rfl (lv_at hl 0 rfl) ?_
  refine lv_iload_n hx hb dX0_begin_26 rfl (lv_at hl 0 rfl) ?_
  refine lv_iload_n hx hb dX0_begin_27 rfl (lv_at hl 2 rfl) ?_
  refine lv_iconst (v := 4) hx hb dX0_begin_28 (by decide) ?_
  refine lv_imul hx hb dX0_begin_29 ?_
  refine gw_topi (y := 0) (by decide) ?_
  refine lv_iload_n hx hb dX0_begin_30 rfl (lv_at hl 3 rfl) ?_
  refine lv_iadd hx hb dX0_begin_31 ?_
  refine gw_topi (y := 0) (by decide) ?_
  refine lv_icmp_ne (tgt := 39) hx hb dX0_begin_32 (by decide) (fun _ => ?_) (fun c => absurd c (by decide))
  refine lv_lconst (v := 0) hx hb dX0_begin_39 (by decide) ?_
  refine gw_last hx hb hK hP hD hS 1 1 4 rfl rfl rfl (by decide) (by decide) dX0_begin_40 (fun H locs hP hD hS => ?_)
  have hP : va_P G vwCl [((q 20), .inr (0, [.int 0, .long 1, .ref (q 21), .ref (q 22)])), ((q 21), .inl (cJ, 16, .inr (.inl (vp_updL (vp_updL (vp_updL (vp_updL (vp_updL (fun _ => 0) 0 1) 1 0) 2 0) 3 0) 4 0))))] H := hP
  have hD : va_D A [((q 20), .inr (0, [.int 0, .long 1, .ref (q 21), .ref (q 22)])), ((q 21), .inl (cJ, 16, .inr (.inl (vp_updL (vp_updL (vp_updL (vp_updL (vp_updL (fun _ => 0) 0 1) 1 0) 2 0) 3 0) 4 0))))] := hD
  refine lv_iinc (v := 5) (lv' := [(3, .int 5), (0, .ref (q 20)), (1, .int 0), (2, .int 0)]) hx hb dX0_begin_41 hl (k := 0) rfl (by decide) (by decide) rfl (fun ls hl => ?_)
  refine lv_goto (tgt := 12) hx hb dX0_begin_44 (by decide) ?_
  refine lv_iload_n hx hb dX0_begin_12 rfl (lv_at hl 0 rfl) ?_
  refine lv_aload_n hx hb dX0_begin_13 rfl (lv_at hl 1 rfl) ?_
  refine va_get (D := G) (ci := 0) (v := .ref (q 21)) (C := RX0) (T := TX0) (N := 4) hx hb hts iX0 hown hK hP 0 rfl rfl 2 (by decide) (hts _ m_226) (fun _ h9 => h9) rfl dX0_begin_14 ?_
  refine va_alen (D := G) hx hb hK hP 1 1 rfl rfl (v := 16) rfl dX0_begin_17 ?_
  refine lv_icmp_ge (tgt := 47) hx hb dX0_begin_18 (by decide) (fun c => absurd c (by decide)) (fun _ => ?_)
  refine lv_aload_n hx hb dX0_begin_21 rfl (lv_at hl 1 rfl) ?_
  refine va_get (D := G) (ci := 0) (v := .ref (q 21)) (C := RX0) (T := TX0) (N := 4) hx hb hts iX0 hown hK hP 0 rfl rfl 2 (by decide) (hts _ m_226) (fun _ h9 => h9) rfl dX0_begin_22 ?_
  refine lv_iload_n hx hb dX0_begin_25 rfl (lv_at hl 0 rfl) ?_
  refine lv_iload_n hx hb dX0_begin_26 rfl (lv_at hl 0 rfl) ?_
  refine lv_iload_n hx hb dX0_begin_27 rfl (lv_at hl 2 rfl) ?_
  refine lv_iconst (v := 4) hx hb dX0_begin_28 (by decide) ?_
  refine lv_imul hx hb dX0_begin_29 ?_
  refine gw_topi (y := 0) (by decide) ?_
  refine lv_iload_n hx hb dX0_begin_30 rfl (lv_at hl 3 rfl) ?_
  refine lv_iadd hx hb dX0_begin_31 ?_
  refine gw_topi (y := 0) (by decide) ?_
  refine lv_icmp_ne (tgt := 39) hx hb dX0_begin_32 (by decide) (fun _ => ?_) (fun c => absurd c (by decide))
  refine lv_lconst (v := 0) hx hb dX0_begin_39 (by decide) ?_
  refine gw_last hx hb hK hP hD hS 1 1 5 rfl rfl rfl (by decide) (by decide) dX0_begin_40 (fun H locs hP hD hS => ?_)
  have hP : va_P G vwCl [((q 20), .inr (0, [.int 0, .long 1, .ref (q 21), .ref (q 22)])), ((q 21), .inl (cJ, 16, .inr (.inl (vp_updL (vp_updL (vp_updL (vp_updL (vp_updL (vp_updL (fun _ => 0) 0 1) 1 0) 2 0) 3 0) 4 0) 5 0))))] H := hP
  have hD : va_D A [((q 20), .inr (0, [.int 0, .long 1, .ref (q 21), .ref (q 22)])), ((q 21), .inl (cJ, 16, .inr (.inl (vp_updL (vp_updL (vp_updL (vp_updL (vp_updL (vp_updL (fun _ => 0) 0 1) 1 0) 2 0) 3 0) 4 0) 5 0))))] := hD
  refine lv_iinc (v := 6) (lv' := [(3, .int 6), (0, .ref (q 20)), (1, .int 0), (2, .int 0)]) hx hb dX0_begin_41 hl (k := 0) rfl (by decide) (by decide) rfl (fun ls hl => ?_)
  refine lv_goto (tgt := 12) hx hb dX0_begin_44 (by decide) ?_
  refine lv_iload_n hx hb dX0_begin_12 rfl (lv_at hl 0 rfl) ?_
  refine lv_aload_n hx hb dX0_begin_13 rfl (lv_at hl 1 rfl) ?_
  refine va_get (D := G) (ci := 0) (v := .ref (q 21)) (C := RX0) (T := TX0) (N := 4) hx hb hts iX0 hown hK hP 0 rfl rfl 2 (by decide) (hts _ m_226) (fun _ h9 => h9) rfl dX0_begin_14 ?_
  refine va_alen (D := G) hx hb hK hP 1 1 rfl rfl (v := 16) rfl dX0_begin_17 ?_
  refine lv_icmp_ge (tgt := 47) hx hb dX0_begin_18 (by decide) (fun c => absurd c (by decide)) (fun _ => ?_)
  refine lv_aload_n hx hb dX0_begin_21 rfl (lv_at hl 1 rfl) ?_
  refine va_get (D := G) (ci := 0) (v := .ref (q 21)) (C := RX0) (T := TX0) (N := 4) hx hb hts iX0 hown hK hP 0 rfl rfl 2 (by decide) (hts _ m_226) (fun _ h9 => h9) rfl dX0_begin_22 ?_
  refine lv_iload_n hx hb dX0_begin_25 rfl (lv_at hl 0 rfl) ?_
  refine lv_iload_n hx hb dX0_begin_26 rfl (lv_at hl 0 rfl) ?_
  refine lv_iload_n hx hb dX0_begin_27 rfl (lv_at hl 2 rfl) ?_
  refine lv_iconst (v := 4) hx hb dX0_begin_28 (by decide) ?_
  refine lv_imul hx hb dX0_begin_29 ?_
  refine gw_topi (y := 0) (by decide) ?_
  refine lv_iload_n hx hb dX0_begin_30 rfl (lv_at hl 3 rfl) ?_
  refine lv_iadd hx hb dX0_begin_31 ?_
  refine gw_topi (y := 0) (by decide) ?_
  refine lv_icmp_ne (tgt := 39) hx hb dX0_begin_32 (by decide) (fun _ => ?_) (fun c => absurd c (by decide))
  refine lv_lconst (v := 0) hx hb dX0_begin_39 (by decide) ?_
  refine gw_last hx hb hK hP hD hS 1 1 6 rfl rfl rfl (by decide) (by decide) dX0_begin_40 (fun H locs hP hD hS => ?_)
  have hP : va_P G vwCl [((q 20), .inr (0, [.int 0, .long 1, .ref (q 21), .ref (q 22)])), ((q 21), .inl (cJ, 16, .inr (.inl (vp_updL (vp_updL (vp_updL (vp_updL (vp_updL (vp_updL (vp_updL (fun _ => 0) 0 1) 1 0) 2 0) 3 0) 4 0) 5 0) 6 0))))] H := hP
  have hD : va_D A [((q 20), .inr (0, [.int 0, .long 1, .ref (q 21), .ref (q 22)])), ((q 21), .inl (cJ, 16, .inr (.inl (vp_updL (vp_updL (vp_updL (vp_updL (vp_updL (vp_updL (vp_updL (fun _ => 0) 0 1) 1 0) 2 0) 3 0) 4 0) 5 0) 6 0))))] := hD
  refine lv_iinc (v := 7) (lv' := [(3, .int 7), (0, .ref (q 20)), (1, .int 0), (2, .int 0)]) hx hb dX0_begin_41 hl (k := 0) rfl (by decide) (by decide) rfl (fun ls hl => ?_)
  refine lv_goto (tgt := 12) hx hb dX0_begin_44 (by decide) ?_
  refine lv_iload_n hx hb dX0_begin_12 rfl (lv_at hl 0 rfl) ?_
  refine lv_aload_n hx hb dX0_begin_13 rfl (lv_at hl 1 rfl) ?_
  refine va_get (D := G) (ci := 0) (v := .ref (q 21)) (C := RX0) (T := TX0) (N := 4) hx hb hts iX0 hown hK hP 0 rfl rfl 2 (by decide) (hts _ m_226) (fun _ h9 => h9) rfl dX0_begin_14 ?_
  refine va_alen (D := G) hx hb hK hP 1 1 rfl rfl (v := 16) rfl dX0_begin_17 ?_
  refine lv_icmp_ge (tgt := 47) hx hb dX0_begin_18 (by decide) (fun c => absurd c (by decide)) (fun _ => ?_)
  refine lv_aload_n hx hb dX0_begin_21 rfl (lv_at hl 1 rfl) ?_
  refine va_get (D := G) (ci := 0) (v := .ref (q 21)) (C := RX0) (T := TX0) (N := 4) hx hb hts iX0 hown hK hP 0 rfl rfl 2 (by decide) (hts _ m_226) (fun _ h9 => h9) rfl dX0_begin_22 ?_
  refine lv_iload_n hx hb dX0_begin_25 rfl (lv_at hl 0 rfl) ?_
  refine lv_iload_n hx hb dX0_begin_26 rfl (lv_at hl 0 rfl) ?_
  refine lv_iload_n hx hb dX0_begin_27 rfl (lv_at hl 2 rfl) ?_
  refine lv_iconst (v := 4) hx hb dX0_begin_28 (by decide) ?_
  refine lv_imul hx hb dX0_begin_29 ?_
  refine gw_topi (y := 0) (by decide) ?_
  refine lv_iload_n hx hb dX0_begin_30 rfl (lv_at hl 3 rfl) ?_
  refine lv_iadd hx hb dX0_begin_31 ?_
  refine gw_topi (y := 0) (by decide) ?_
  refine lv_icmp_ne (tgt := 39) hx hb dX0_begin_32 (by decide) (fun _ => ?_) (fun c => absurd c (by decide))
  refine lv_lconst (v := 0) hx hb dX0_begin_39 (by decide) ?_
  refine gw_last hx hb hK hP hD hS 1 1 7 rfl rfl rfl (by decide) (by decide) dX0_begin_40 (fun H locs hP hD hS => ?_)
  have hP : va_P G vwCl [((q 20), .inr (0, [.int 0, .long 1, .ref (q 21), .ref (q 22)])), ((q 21), .inl (cJ, 16, .inr (.inl (vp_updL (vp_updL (vp_updL (vp_updL (vp_updL (vp_updL (vp_updL (vp_updL (fun _ => 0) 0 1) 1 0) 2 0) 3 0) 4 0) 5 0) 6 0) 7 0))))] H := hP
  have hD : va_D A [((q 20), .inr (0, [.int 0, .long 1, .ref (q 21), .ref (q 22)])), ((q 21), .inl (cJ, 16, .inr (.inl (vp_updL (vp_updL (vp_updL (vp_updL (vp_updL (vp_updL (vp_updL (vp_updL (fun _ => 0) 0 1) 1 0) 2 0) 3 0) 4 0) 5 0) 6 0) 7 0))))] := hD
  refine lv_iinc (v := 8) (lv' := [(3, .int 8), (0, .ref (q 20)), (1, .int 0), (2, .int 0)]) hx hb dX0_begin_41 hl (k := 0) rfl (by decide) (by decide) rfl (fun ls hl => ?_)
  refine lv_goto (tgt := 12) hx hb dX0_begin_44 (by decide) ?_
  refine lv_iload_n hx hb dX0_begin_12 rfl (lv_at hl 0 rfl) ?_
  refine lv_aload_n hx hb dX0_begin_13 rfl (lv_at hl 1 rfl) ?_
  refine va_get (D := G) (ci := 0) (v := .ref (q 21)) (C := RX0) (T := TX0) (N := 4) hx hb hts iX0 hown hK hP 0 rfl rfl 2 (by decide) (hts _ m_226) (fun _ h9 => h9) rfl dX0_begin_14 ?_
  refine va_alen (D := G) hx hb hK hP 1 1 rfl rfl (v := 16) rfl dX0_begin_17 ?_
  refine lv_icmp_ge (tgt := 47) hx hb dX0_begin_18 (by decide) (fun c => absurd c (by decide)) (fun _ => ?_)
  refine lv_aload_n hx hb dX0_begin_21 rfl (lv_at hl 1 rfl) ?_
  refine va_get (D := G) (ci := 0) (v := .ref (q 21)) (C := RX0) (T := TX0) (N := 4) hx hb hts iX0 hown hK hP 0 rfl rfl 2 (by decide) (hts _ m_226) (fun _ h9 => h9) rfl dX0_begin_22 ?_
  refine lv_iload_n hx hb dX0_begin_25 rfl (lv_at hl 0 rfl) ?_
  refine lv_iload_n hx hb dX0_begin_26 rfl (lv_at hl 0 rfl) ?_
  refine lv_iload_n hx hb dX0_begin_27 rfl (lv_at hl 2 rfl) ?_
  refine lv_iconst (v := 4) hx hb dX0_begin_28 (by decide) ?_
  refine lv_imul hx hb dX0_begin_29 ?_
  refine gw_topi (y := 0) (by decide) ?_
  refine lv_iload_n hx hb dX0_begin_30 rfl (lv_at hl 3 rfl) ?_
  refine lv_iadd hx hb dX0_begin_31 ?_
  refine gw_topi (y := 0) (by decide) ?_
  refine lv_icmp_ne (tgt := 39) hx hb dX0_begin_32 (by decide) (fun _ => ?_) (fun c => absurd c (by decide))
  refine lv_lconst (v := 0) hx hb dX0_begin_39 (by decide) ?_
  refine gw_last hx hb hK hP hD hS 1 1 8 rfl rfl rfl (by decide) (by decide) dX0_begin_40 (fun H locs hP hD hS => ?_)
  have hP : va_P G vwCl [((q 20), .inr (0, [.int 0, .long 1, .ref (q 21), .ref (q 22)])), ((q 21), .inl (cJ, 16, .inr (.inl (vp_updL (vp_updL (vp_updL (vp_updL (vp_updL (vp_updL (vp_updL (vp_updL (vp_updL (fun _ => 0) 0 1) 1 0) 2 0) 3 0) 4 0) 5 0) 6 0) 7 0) 8 0))))] H := hP
  have hD : va_D A [((q 20), .inr (0, [.int 0, .long 1, .ref (q 21), .ref (q 22)])), ((q 21), .inl (cJ, 16, .inr (.inl (vp_updL (vp_updL (vp_updL (vp_updL (vp_updL (vp_updL (vp_updL (vp_updL (vp_updL (fun _ => 0) 0 1) 1 0) 2 0) 3 0) 4 0) 5 0) 6 0) 7 0) 8 0))))] := hD
  refine lv_iinc (v := 9) (lv' := [(3, .int 9), (0, .ref (q 20)), (1, .int 0), (2, .int 0)]) hx hb dX0_begin_41 hl (k := 0) rfl (by decide) (by decide) rfl (fun ls hl => ?_)
  refine lv_goto (tgt := 12) hx hb dX0_begin_44 (by decide) ?_
  refine lv_iload_n hx hb dX0_begin_12 rfl (lv_at hl 0 rfl) ?_
  refine lv_aload_n hx hb dX0_begin_13 rfl (lv_at hl 1 rfl) ?_
  refine va_get (D := G) (ci := 0) (v := .ref (q 21)) (C := RX0) (T := TX0) (N := 4) hx hb hts iX0 hown hK hP 0 rfl rfl 2 (by decide) (hts _ m_226) (fun _ h9 => h9) rfl dX0_begin_14 ?_
  refine va_alen (D := G) hx hb hK hP 1 1 rfl rfl (v := 16) rfl dX0_begin_17 ?_
  refine lv_icmp_ge (tgt := 47) hx hb dX0_begin_18 (by decide) (fun c => absurd c (by decide)) (fun _ => ?_)
  refine lv_aload_n hx hb dX0_begin_21 rfl (lv_at hl 1 rfl) ?_
  refine va_get (D := G) (ci := 0) (v := .ref (q 21)) (C := RX0) (T := TX0) (N := 4) hx hb hts iX0 hown hK hP 0 rfl rfl 2 (by decide) (hts _ m_226) (fun _ h9 => h9) rfl dX0_begin_22 ?_
  refine lv_iload_n hx hb dX0_begin_25 rfl (lv_at hl 0 rfl) ?_
  refine lv_iload_n hx hb dX0_begin_26 rfl (lv_at hl 0 rfl) ?_
  refine lv_iload_n hx hb dX0_begin_27 rfl (lv_at hl 2 rfl) ?_
  refine lv_iconst (v := 4) hx hb dX0_begin_28 (by decide) ?_
  refine lv_imul hx hb dX0_begin_29 ?_
  refine gw_topi (y := 0) (by decide) ?_
  refine lv_iload_n hx hb dX0_begin_30 rfl (lv_at hl 3 rfl) ?_
  refine lv_iadd hx hb dX0_begin_31 ?_
  refine gw_topi (y := 0) (by decide) ?_
  refine lv_icmp_ne (tgt := 39) hx hb dX0_begin_32 (by decide) (fun _ => ?_) (fun c => absurd c (by decide))
  refine lv_lconst (v := 0) hx hb dX0_begin_39 (by decide) ?_
  refine gw_last hx hb hK hP hD hS 1 1 9 rfl rfl rfl (by decide) (by decide) dX0_begin_40 (fun H locs hP hD hS => ?_)
  have hP : va_P G vwCl [((q 20), .inr (0, [.int 0, .long 1, .ref (q 21), .ref (q 22)])), ((q 21), .inl (cJ, 16, .inr (.inl (vp_updL (vp_updL (vp_updL (vp_updL (vp_updL (vp_updL (vp_updL (vp_updL (vp_updL (vp_updL (fun _ => 0) 0 1) 1 0) 2 0) 3 0) 4 0) 5 0) 6 0) 7 0) 8 0) 9 0))))] H := hP
  have hD : va_D A [((q 20), .inr (0, [.int 0, .long 1, .ref (q 21), .ref (q 22)])), ((q 21), .inl (cJ, 16, .inr (.inl (vp_updL (vp_updL (vp_updL (vp_updL (vp_updL (vp_updL (vp_updL (vp_updL (vp_updL (vp_updL (fun _ => 0) 0 1) 1 0) 2 0) 3 0) 4 0) 5 0) 6 0) 7 0) 8 0) 9 0))))] := hD
  refine lv_iinc (v := 10) (lv' := [(3, .int 10), (0, .ref (q 20)), (1, .int 0), (2, .int 0)]) hx hb dX0_begin_41 hl (k := 0) rfl (by decide) (by decide) rfl (fun ls hl => ?_)
  refine lv_goto (tgt := 12) hx hb dX0_begin_44 (by decide) ?_
  refine lv_iload_n hx hb dX0_begin_12 rfl (lv_at hl 0 rfl) ?_
  refine lv_aload_n hx hb dX0_begin_13 rfl (lv_at hl 1 rfl) ?_
  refine va_get (D := G) (ci := 0) (v := .ref (q 21)) (C := RX0) (T := TX0) (N := 4) hx hb hts iX0 hown hK hP 0 rfl rfl 2 (by decide) (hts _ m_226) (fun _ h9 => h9) rfl dX0_begin_14 ?_
  refine va_alen (D := G) hx hb hK hP 1 1 rfl rfl (v := 16) rfl dX0_begin_17 ?_
  refine lv_icmp_ge (tgt := 47) hx hb dX0_begin_18 (by decide) (fun c => absurd c (by decide)) (fun _ => ?_)
  refine lv_aload_n hx hb dX0_begin_21 rfl (lv_at hl 1 rfl) ?_
  refine va_get (D := G) (ci := 0) (v := .ref (q 21)) (C := RX0) (T := TX0) (N := 4) hx hb hts iX0 hown hK hP 0 rfl rfl 2 (by decide) (hts _ m_226) (fun _ h9 => h9) rfl dX0_begin_22 ?_
  refine lv_iload_n hx hb dX0_begin_25 rfl (lv_at hl 0 rfl) ?_
  refine lv_iload_n hx hb dX0_begin_26 rfl (lv_at hl 0 rfl) ?_
  refine lv_iload_n hx hb dX0_begin_27 rfl (lv_at hl 2 rfl) ?_
  refine lv_iconst (v := 4) hx hb dX0_begin_28 (by decide) ?_
  refine lv_imul hx hb dX0_begin_29 ?_
  refine gw_topi (y := 0) (by decide) ?_
  refine lv_iload_n hx hb dX0_begin_30 rfl (lv_at hl 3 rfl) ?_
  refine lv_iadd hx hb dX0_begin_31 ?_
  refine gw_topi (y := 0) (by decide) ?_
  refine lv_icmp_ne (tgt := 39) hx hb dX0_begin_32 (by decide) (fun _ => ?_) (fun c => absurd c (by decide))
  refine lv_lconst (v := 0) hx hb dX0_begin_39 (by decide) ?_
  refine gw_last hx hb hK hP hD hS 1 1 10 rfl rfl rfl (by decide) (by decide) dX0_begin_40 (fun H locs hP hD hS => ?_)
  have hP : va_P G vwCl [((q 20), .inr (0, [.int 0, .long 1, .ref (q 21), .ref (q 22)])), ((q 21), .inl (cJ, 16, .inr (.inl (vp_updL (vp_updL (vp_updL (vp_updL (vp_updL (vp_updL (vp_updL (vp_updL (vp_updL (vp_updL (vp_updL (fun _ => 0) 0 1) 1 0) 2 0) 3 0) 4 0) 5 0) 6 0) 7 0) 8 0) 9 0) 10 0))))] H := hP
  have hD : va_D A [((q 20), .inr (0, [.int 0, .long 1, .ref (q 21), .ref (q 22)])), ((q 21), .inl (cJ, 16, .inr (.inl (vp_updL (vp_updL (vp_updL (vp_updL (vp_updL (vp_updL (vp_updL (vp_updL (vp_updL (vp_updL (vp_updL (fun _ => 0) 0 1) 1 0) 2 0) 3 0) 4 0) 5 0) 6 0) 7 0) 8 0) 9 0) 10 0))))] := hD
  refine lv_iinc (v := 11) (lv' := [(3, .int 11), (0, .ref (q 20)), (1, .int 0), (2, .int 0)]) hx hb dX0_begin_41 hl (k := 0) rfl (by decide) (by decide) rfl (fun ls hl => ?_)
  refine lv_goto (tgt := 12) hx hb dX0_begin_44 (by decide) ?_
  refine lv_iload_n hx hb dX0_begin_12 rfl (lv_at hl 0 rfl) ?_
  refine lv_aload_n hx hb dX0_begin_13 rfl (lv_at hl 1 rfl) ?_
  refine va_get (D := G) (ci := 0) (v := .ref (q 21)) (C := RX0) (T := TX0) (N := 4) hx hb hts iX0 hown hK hP 0 rfl rfl 2 (by decide) (hts _ m_226) (fun _ h9 => h9) rfl dX0_begin_14 ?_
  refine va_alen (D := G) hx hb hK hP 1 1 rfl rfl (v := 16) rfl dX0_begin_17 ?_
  refine lv_icmp_ge (tgt := 47) hx hb dX0_begin_18 (by decide) (fun c => absurd c (by decide)) (fun _ => ?_)
  refine lv_aload_n hx hb dX0_begin_21 rfl (lv_at hl 1 rfl) ?_
  refine va_get (D := G) (ci := 0) (v := .ref (q 21)) (C := RX0) (T := TX0) (N := 4) hx hb hts iX0 hown hK hP 0 rfl rfl 2 (by decide) (hts _ m_226) (fun _ h9 => h9) rfl dX0_begin_22 ?_
  refine lv_iload_n hx hb dX0_begin_25 rfl (lv_at hl 0 rfl) ?_
  refine lv_iload_n hx hb dX0_begin_26 rfl (lv_at hl 0 rfl) ?_
  refine lv_iload_n hx hb dX0_begin_27 rfl (lv_at hl 2 rfl) ?_
  refine lv_iconst (v := 4) hx hb dX0_begin_28 (by decide) ?_
  refine lv_imul hx hb dX0_begin_29 ?_
  refine gw_topi (y := 0) (by decide) ?_
  refine lv_iload_n hx hb dX0_begin_30 rfl (lv_at hl 3 rfl) ?_
  refine lv_iadd hx hb dX0_begin_31 ?_
  refine gw_topi (y := 0) (by decide) ?_
  refine lv_icmp_ne (tgt := 39) hx hb dX0_begin_32 (by decide) (fun _ => ?_) (fun c => absurd c (by decide))
  refine lv_lconst (v := 0) hx hb dX0_begin_39 (by decide) ?_
  refine gw_last hx hb hK hP hD hS 1 1 11 rfl rfl rfl (by decide) (by decide) dX0_begin_40 (fun H locs hP hD hS => ?_)
  have hP : va_P G vwCl [((q 20), .inr (0, [.int 0, .long 1, .ref (q 21), .ref (q 22)])), ((q 21), .inl (cJ, 16, .inr (.inl (vp_updL (vp_updL (vp_updL (vp_updL (vp_updL (vp_updL (vp_updL (vp_updL (vp_updL (vp_updL (vp_updL (vp_updL (fun _ => 0) 0 1) 1 0) 2 0) 3 0) 4 0) 5 0) 6 0) 7 0) 8 0) 9 0) 10 0) 11 0))))] H := hP
  have hD : va_D A [((q 20), .inr (0, [.int 0, .long 1, .ref (q 21), .ref (q 22)])), ((q 21), .inl (cJ, 16, .inr (.inl (vp_updL (vp_updL (vp_updL (vp_updL (vp_updL (vp_updL (vp_updL (vp_updL (vp_updL (vp_updL (vp_updL (vp_updL (fun _ => 0) 0 1) 1 0) 2 0) 3 0) 4 0) 5 0) 6 0) 7 0) 8 0) 9 0) 10 0) 11 0))))] := hD
  refine lv_iinc (v := 12) (lv' := [(3, .int 12), (0, .ref (q 20)), (1, .int 0), (2, .int 0)]) hx hb dX0_begin_41 hl (k := 0) rfl (by decide) (by decide) rfl (fun ls hl => ?_)
  refine lv_goto (tgt := 12) hx hb dX0_begin_44 (by decide) ?_
  refine lv_iload_n hx hb dX0_begin_12 rfl (lv_at hl 0 rfl) ?_
  refine lv_aload_n hx hb dX0_begin_13 rfl (lv_at hl 1 rfl) ?_
  refine va_get (D := G) (ci := 0) (v := .ref (q 21)) (C := RX0) (T := TX0) (N := 4) hx hb hts iX0 hown hK hP 0 rfl rfl 2 (by decide) (hts _ m_226) (fun _ h9 => h9) rfl dX0_begin_14 ?_
  refine va_alen (D := G) hx hb hK hP 1 1 rfl rfl (v := 16) rfl dX0_begin_17 ?_
  refine lv_icmp_ge (tgt := 47) hx hb dX0_begin_18 (by decide) (fun c => absurd c (by decide)) (fun _ => ?_)
  refine lv_aload_n hx hb dX0_begin_21 rfl (lv_at hl 1 rfl) ?_
  refine va_get (D := G) (ci := 0) (v := .ref (q 21)) (C := RX0) (T := TX0) (N := 4) hx hb hts iX0 hown hK hP 0 rfl rfl 2 (by decide) (hts _ m_226) (fun _ h9 => h9) rfl dX0_begin_22 ?_
  refine lv_iload_n hx hb dX0_begin_25 rfl (lv_at hl 0 rfl) ?_
  refine lv_iload_n hx hb dX0_begin_26 rfl (lv_at hl 0 rfl) ?_
  refine lv_iload_n hx hb dX0_begin_27 rfl (lv_at hl 2 rfl) ?_
  refine lv_iconst (v := 4) hx hb dX0_begin_28 (by decide) ?_
  refine lv_imul hx hb dX0_begin_29 ?_
  refine gw_topi (y := 0) (by decide) ?_
  refine lv_iload_n hx hb dX0_begin_30 rfl (lv_at hl 3 rfl) ?_
  refine lv_iadd hx hb dX0_begin_31 ?_
  refine gw_topi (y := 0) (by decide) ?_
  refine lv_icmp_ne (tgt := 39) hx hb dX0_begin_32 (by decide) (fun _ => ?_) (fun c => absurd c (by decide))
  refine lv_lconst (v := 0) hx hb dX0_begin_39 (by decide) ?_
  refine gw_last hx hb hK hP hD hS 1 1 12 rfl rfl rfl (by decide) (by decide) dX0_begin_40 (fun H locs hP hD hS => ?_)
  have hP : va_P G vwCl [((q 20), .inr (0, [.int 0, .long 1, .ref (q 21), .ref (q 22)])), ((q 21), .inl (cJ, 16, .inr (.inl (vp_updL (vp_updL (vp_updL (vp_updL (vp_updL (vp_updL (vp_updL (vp_updL (vp_updL (vp_updL (vp_updL (vp_updL (vp_updL (fun _ => 0) 0 1) 1 0) 2 0) 3 0) 4 0) 5 0) 6 0) 7 0) 8 0) 9 0) 10 0) 11 0) 12 0))))] H := hP
  have hD : va_D A [((q 20), .inr (0, [.int 0, .long 1, .ref (q 21), .ref (q 22)])), ((q 21), .inl (cJ, 16, .inr (.inl (vp_updL (vp_updL (vp_updL (vp_updL (vp_updL (vp_updL (vp_updL (vp_updL (vp_updL (vp_updL (vp_updL (vp_updL (vp_updL (fun _ => 0) 0 1) 1 0) 2 0) 3 0) 4 0) 5 0) 6 0) 7 0) 8 0) 9 0) 10 0) 11 0) 12 0))))] := hD
  refine lv_iinc (v := 13) (lv' := [(3, .int 13), (0, .ref (q 20)), (1, .int 0), (2, .int 0)]) hx hb dX0_begin_41 hl (k := 0) rfl (by decide) (by decide) rfl (fun ls hl => ?_)
  refine lv_goto (tgt := 12) hx hb dX0_begin_44 (by decide) ?_
  refine lv_iload_n hx hb dX0_begin_12 rfl (lv_at hl 0 rfl) ?_
  refine lv_aload_n hx hb dX0_begin_13 rfl (lv_at hl 1 rfl) ?_
  refine va_get (D := G) (ci := 0) (v := .ref (q 21)) (C := RX0) (T := TX0) (N := 4) hx hb hts iX0 hown hK hP 0 rfl rfl 2 (by decide) (hts _ m_226) (fun _ h9 => h9) rfl dX0_begin_14 ?_
  refine va_alen (D := G) hx hb hK hP 1 1 rfl rfl (v := 16) rfl dX0_begin_17 ?_
  refine lv_icmp_ge (tgt := 47) hx hb dX0_begin_18 (by decide) (fun c => absurd c (by decide)) (fun _ => ?_)
  refine lv_aload_n hx hb dX0_begin_21 rfl (lv_at hl 1 rfl) ?_
  refine va_get (D := G) (ci := 0) (v := .ref (q 21)) (C := RX0) (T := TX0) (N := 4) hx hb hts iX0 hown hK hP 0 rfl rfl 2 (by decide) (hts _ m_226) (fun _ h9 => h9) rfl dX0_begin_22 ?_
  refine lv_iload_n hx hb dX0_begin_25 rfl (lv_at hl 0 rfl) ?_
  refine lv_iload_n hx hb dX0_begin_26 rfl (lv_at hl 0 rfl) ?_
  refine lv_iload_n hx hb dX0_begin_27 rfl (lv_at hl 2 rfl) ?_
  refine lv_iconst (v := 4) hx hb dX0_begin_28 (by decide) ?_
  refine lv_imul hx hb dX0_begin_29 ?_
  refine gw_topi (y := 0) (by decide) ?_
  refine lv_iload_n hx hb dX0_begin_30 rfl (lv_at hl 3 rfl) ?_
  refine lv_iadd hx hb dX0_begin_31 ?_
  refine gw_topi (y := 0) (by decide) ?_
  refine lv_icmp_ne (tgt := 39) hx hb dX0_begin_32 (by decide) (fun _ => ?_) (fun c => absurd c (by decide))
  refine lv_lconst (v := 0) hx hb dX0_begin_39 (by decide) ?_
  refine gw_last hx hb hK hP hD hS 1 1 13 rfl rfl rfl (by decide) (by decide) dX0_begin_40 (fun H locs hP hD hS => ?_)
  have hP : va_P G vwCl [((q 20), .inr (0, [.int 0, .long 1, .ref (q 21), .ref (q 22)])), ((q 21), .inl (cJ, 16, .inr (.inl (vp_updL (vp_updL (vp_updL (vp_updL (vp_updL (vp_updL (vp_updL (vp_updL (vp_updL (vp_updL (vp_updL (vp_updL (vp_updL (vp_updL (fun _ => 0) 0 1) 1 0) 2 0) 3 0) 4 0) 5 0) 6 0) 7 0) 8 0) 9 0) 10 0) 11 0) 12 0) 13 0))))] H := hP
  have hD : va_D A [((q 20), .inr (0, [.int 0, .long 1, .ref (q 21), .ref (q 22)])), ((q 21), .inl (cJ, 16, .inr (.inl (vp_updL (vp_updL (vp_updL (vp_updL (vp_updL (vp_updL (vp_updL (vp_updL (vp_updL (vp_updL (vp_updL (vp_updL (vp_updL (vp_updL (fun _ => 0) 0 1) 1 0) 2 0) 3 0) 4 0) 5 0) 6 0) 7 0) 8 0) 9 0) 10 0) 11 0) 12 0) 13 0))))] := hD
  refine lv_iinc (v := 14) (lv' := [(3, .int 14), (0, .ref (q 20)), (1, .int 0), (2, .int 0)]) hx hb dX0_begin_41 hl (k := 0) rfl (by decide) (by decide) rfl (fun ls hl => ?_)
  refine lv_goto (tgt := 12) hx hb dX0_begin_44 (by decide) ?_
  refine lv_iload_n hx hb dX0_begin_12 rfl (lv_at hl 0 rfl) ?_
  refine lv_aload_n hx hb dX0_begin_13 rfl (lv_at hl 1 rfl) ?_
  refine va_get (D := G) (ci := 0) (v := .ref (q 21)) (C := RX0) (T := TX0) (N := 4) hx hb hts iX0 hown hK hP 0 rfl rfl 2 (by decide) (hts _ m_226) (fun _ h9 => h9) rfl dX0_begin_14 ?_
  refine va_alen (D := G) hx hb hK hP 1 1 rfl rfl (v := 16) rfl dX0_begin_17 ?_
  refine lv_icmp_ge (tgt := 47) hx hb dX0_begin_18 (by decide) (fun c => absurd c (by decide)) (fun _ => ?_)
  refine lv_aload_n hx hb dX0_begin_21 rfl (lv_at hl 1 rfl) ?_
  refine va_get (D := G) (ci := 0) (v := .ref (q 21)) (C := RX0) (T := TX0) (N := 4) hx hb hts iX0 hown hK hP 0 rfl rfl 2 (by decide) (hts _ m_226) (fun _ h9 => h9) rfl dX0_begin_22 ?_
  refine lv_iload_n hx hb dX0_begin_25 rfl (lv_at hl 0 rfl) ?_
  refine lv_iload_n hx hb dX0_begin_26 rfl (lv_at hl 0 rfl) ?_
  refine lv_iload_n hx hb dX0_begin_27 rfl (lv_at hl 2 rfl) ?_
  refine lv_iconst (v := 4) hx hb dX0_begin_28 (by decide) ?_
  refine lv_imul hx hb dX0_begin_29 ?_
  refine gw_topi (y := 0) (by decide) ?_
  refine lv_iload_n hx hb dX0_begin_30 rfl (lv_at hl 3 rfl) ?_
  refine lv_iadd hx hb dX0_begin_31 ?_
  refine gw_topi (y := 0) (by decide) ?_
  refine lv_icmp_ne (tgt := 39) hx hb dX0_begin_32 (by decide) (fun _ => ?_) (fun c => absurd c (by decide))
  refine lv_lconst (v := 0) hx hb dX0_begin_39 (by decide) ?_
  refine gw_last hx hb hK hP hD hS 1 1 14 rfl rfl rfl (by decide) (by decide) dX0_begin_40 (fun H locs hP hD hS => ?_)
  have hP : va_P G vwCl [((q 20), .inr (0, [.int 0, .long 1, .ref (q 21), .ref (q 22)])), ((q 21), .inl (cJ, 16, .inr (.inl (vp_updL (vp_updL (vp_updL (vp_updL (vp_updL (vp_updL (vp_updL (vp_updL (vp_updL (vp_updL (vp_updL (vp_updL (vp_updL (vp_updL (vp_updL (fun _ => 0) 0 1) 1 0) 2 0) 3 0) 4 0) 5 0) 6 0) 7 0) 8 0) 9 0) 10 0) 11 0) 12 0) 13 0) 14 0))))] H := hP
  have hD : va_D A [((q 20), .inr (0, [.int 0, .long 1, .ref (q 21), .ref (q 22)])), ((q 21), .inl (cJ, 16, .inr (.inl (vp_updL (vp_updL (vp_updL (vp_updL (vp_updL (vp_updL (vp_updL (vp_updL (vp_updL (vp_updL (vp_updL (vp_updL (vp_updL (vp_updL (vp_updL (fun _ => 0) 0 1) 1 0) 2 0) 3 0) 4 0) 5 0) 6 0) 7 0) 8 0) 9 0) 10 0) 11 0) 12 0) 13 0) 14 0))))] := hD
  refine lv_iinc (v := 15) (lv' := [(3, .int 15), (0, .ref (q 20)), (1, .int 0), (2, .int 0)]) hx hb dX0_begin_41 hl (k := 0) rfl (by decide) (by decide) rfl (fun ls hl => ?_)
  refine lv_goto (tgt := 12) hx hb dX0_begin_44 (by decide) ?_
  refine lv_iload_n hx hb dX0_begin_12 rfl (lv_at hl 0 rfl) ?_
  refine lv_aload_n hx hb dX0_begin_13 rfl (lv_at hl 1 rfl) ?_
  refine va_get (D := G) (ci := 0) (v := .ref (q 21)) (C := RX0) (T := TX0) (N := 4) hx hb hts iX0 hown hK hP 0 rfl rfl 2 (by decide) (hts _ m_226) (fun _ h9 => h9) rfl dX0_begin_14 ?_
  refine va_alen (D := G) hx hb hK hP 1 1 rfl rfl (v := 16) rfl dX0_begin_17 ?_
  refine lv_icmp_ge (tgt := 47) hx hb dX0_begin_18 (by decide) (fun c => absurd c (by decide)) (fun _ => ?_)
  refine lv_aload_n hx hb dX0_begin_21 rfl (lv_at hl 1 rfl) ?_
  refine va_get (D := G) (ci := 0) (v := .ref (q 21)) (C := RX0) (T := TX0) (N := 4) hx hb hts iX0 hown hK hP 0 rfl rfl 2 (by decide) (hts _ m_226) (fun _ h9 => h9) rfl dX0_begin_22 ?_
  refine lv_iload_n hx hb dX0_begin_25 rfl (lv_at hl 0 rfl) ?_
  refine lv_iload_n hx hb dX0_begin_26 rfl (lv_at hl 0 rfl) ?_
  refine lv_iload_n hx hb dX0_begin_27 rfl (lv_at hl 2 rfl) ?_
  refine lv_iconst (v := 4) hx hb dX0_begin_28 (by decide) ?_
  refine lv_imul hx hb dX0_begin_29 ?_
  refine gw_topi (y := 0) (by decide) ?_
  refine lv_iload_n hx hb dX0_begin_30 rfl (lv_at hl 3 rfl) ?_
  refine lv_iadd hx hb dX0_begin_31 ?_
  refine gw_topi (y := 0) (by decide) ?_
  refine lv_icmp_ne (tgt := 39) hx hb dX0_begin_32 (by decide) (fun _ => ?_) (fun c => absurd c (by decide))
  refine lv_lconst (v := 0) hx hb dX0_begin_39 (by decide) ?_
  refine gw_last hx hb hK hP hD hS 1 1 15 rfl rfl rfl (by decide) (by decide) dX0_begin_40 (fun H locs hP hD hS => ?_)
  have hP : va_P G vwCl [((q 20), .inr (0, [.int 0, .long 1, .ref (q 21), .ref (q 22)])), ((q 21), .inl (cJ, 16, .inr (.inl (vp_updL (vp_updL (vp_updL (vp_updL (vp_updL (vp_updL (vp_updL (vp_updL (vp_updL (vp_updL (vp_updL (vp_updL (vp_updL (vp_updL (vp_updL (vp_updL (fun _ => 0) 0 1) 1 0) 2 0) 3 0) 4 0) 5 0) 6 0) 7 0) 8 0) 9 0) 10 0) 11 0) 12 0) 13 0) 14 0) 15 0))))] H := hP
  have hD : va_D A [((q 20), .inr (0, [.int 0, .long 1, .ref (q 21), .ref (q 22)])), ((q 21), .inl (cJ, 16, .inr (.inl (vp_updL (vp_updL (vp_updL (vp_updL (vp_updL (vp_updL (vp_updL (vp_updL (vp_updL (vp_updL (vp_updL (vp_updL (vp_updL (vp_updL (vp_updL (vp_updL (fun _ => 0) 0 1) 1 0) 2 0) 3 0) 4 0) 5 0) 6 0) 7 0) 8 0) 9 0) 10 0) 11 0) 12 0) 13 0) 14 0) 15 0))))] := hD
  refine lv_iinc (v := 16) (lv' := [(3, .int 16), (0, .ref (q 20)), (1, .int 0), (2, .int 0)]) hx hb dX0_begin_41 hl (k := 0) rfl (by decide) (by decide) rfl (fun ls hl => ?_)
  refine lv_goto (tgt := 12) hx hb dX0_begin_44 (by decide) ?_
  refine lv_iload_n hx hb dX0_begin_12 rfl (lv_at hl 0 rfl) ?_
  refine lv_aload_n hx hb dX0_begin_13 rfl (lv_at hl 1 rfl) ?_
  refine va_get (D := G) (ci := 0) (v := .ref (q 21)) (C := RX0) (T := TX0) (N := 4) hx hb hts iX0 hown hK hP 0 rfl rfl 2 (by decide) (hts _ m_226) (fun _ h9 => h9) rfl dX0_begin_14 ?_
  refine va_alen (D := G) hx hb hK hP 1 1 rfl rfl (v := 16) rfl dX0_begin_17 ?_
  refine lv_icmp_ge (tgt := 47) hx hb dX0_begin_18 (by decide) (fun _ => ?_) (fun c => absurd (by decide) c)
  exact gw_vret () hx hb hr hlocks hP hD hS trivial dX0_begin_47
set_option maxHeartbeats 4000000 in
set_option maxRecDepth 100000 in
theorem c_upper0 (l : Launch) (G : va_G) (cI cJ cZ cB cT : ClassId) (q : Nat → Nat) (p1 : Int32)  : gMl l yX0_upper (gws yX0_upper cX0_upper 7 (some .long)) 1 G (gT cI cJ cZ cB cT) [.ref (q 20), .int p1] [((q 20), .inr (0, [.int 0, .long 1, .ref (q 21), .ref (q 22)])), ((q 21), .inl (cJ, 16, .inr (.inl (vp_updL (vp_updL (vp_updL (vp_updL (vp_updL (vp_updL (vp_updL (vp_updL (vp_updL (vp_updL (vp_updL (vp_updL (vp_updL (vp_updL (vp_updL (vp_updL (fun _ => 0) 0 1) 1 0) 2 0) 3 0) 4 0) 5 0) 6 0) 7 0) 8 0) 9 0) 10 0) 11 0) 12 0) 13 0) 14 0) 15 0))))] (fun r (_ : Unit) => r = 0) (fun (_ : Unit) => ([((q 20), .inr (0, [.int 0, .long 1, .ref (q 21), .ref (q 22)])), ((q 21), .inl (cJ, 16, .inr (.inl (vp_updL (vp_updL (vp_updL (vp_updL (vp_updL (vp_updL (vp_updL (vp_updL (vp_updL (vp_updL (vp_updL (vp_updL (vp_updL (vp_updL (vp_updL (vp_updL (fun _ => 0) 0 1) 1 0) 2 0) 3 0) 4 0) 5 0) 6 0) 7 0) 8 0) 9 0) 10 0) 11 0) 12 0) 13 0) 14 0) 15 0))))] : va_W)) := by
  intro sz
  refine gM_start (y := yX0_upper) (av := [.ref (q 20), .int p1]) (ws := [((q 20), .inr (0, [.int 0, .long 1, .ref (q 21), .ref (q 22)])), ((q 21), .inl (cJ, 16, .inr (.inl (vp_updL (vp_updL (vp_updL (vp_updL (vp_updL (vp_updL (vp_updL (vp_updL (vp_updL (vp_updL (vp_updL (vp_updL (vp_updL (vp_updL (vp_updL (vp_updL (fun _ => 0) 0 1) 1 0) 2 0) 3 0) 4 0) 5 0) 6 0) 7 0) 8 0) 9 0) 10 0) 11 0) 12 0) 13 0) 14 0) 15 0))))]) (Qf := fun A => va_Ql (fun r (_ : Unit) => r = 0) (gB G (fun (_ : Unit) => ([((q 20), .inr (0, [.int 0, .long 1, .ref (q 21), .ref (q 22)])), ((q 21), .inl (cJ, 16, .inr (.inl (vp_updL (vp_updL (vp_updL (vp_updL (vp_updL (vp_updL (vp_updL (vp_updL (vp_updL (vp_updL (vp_updL (vp_updL (vp_updL (vp_updL (vp_updL (vp_updL (fun _ => 0) 0 1) 1 0) 2 0) 3 0) 4 0) 5 0) 6 0) 7 0) 8 0) 9 0) 10 0) 11 0) 12 0) 13 0) 14 0) 15 0))))] : va_W)) A) A) (cc := cX0_upper) (maxL := 7) (ret := (some .long)) (by decide) (Nat.le_of_ble_eq_true rfl) ?_
  intro p e s m args below meth c A ls H hx hb hr hts hown hin hlocks hml hP hK hD hA hS hl
  have hl : lv_has ls 7 [(0, .ref (q 20)), (1, .int p1)] := hl
  refine lv_lconst (v := 0) hx hb dX0_upper_0 (by decide) ?_
  refine lv_lstore_n (lv' := [(2, .long 0), (0, .ref (q 20)), (1, .int p1)]) hx hb dX0_upper_1 rfl hl (by decide) rfl (fun ls hl => ?_)
  refine lv_iconst (v := 0) hx hb dX0_upper_2 (by decide) ?_
  refine lv_istore (lv' := [(4, .int 0), (2, .long 0), (0, .ref (q 20)), (1, .int p1)]) hx hb dX0_upper_3 hl (by decide) rfl (fun ls hl => ?_)
  refine lv_iload hx hb dX0_upper_5 (lv_at hl 0 rfl) ?_
  refine lv_aload_n hx hb dX0_upper_7 rfl (lv_at hl 2 rfl) ?_
  refine va_get (D := G) (ci := 0) (v := .ref (q 21)) (C := RX0) (T := TX0) (N := 4) hx hb hts iX0 hown hK hP 0 rfl rfl 2 (by decide) (hts _ m_226) (fun _ h9 => h9) rfl dX0_upper_8 ?_
  refine va_alen (D := G) hx hb hK hP 1 1 rfl rfl (v := 16) rfl dX0_upper_11 ?_
  refine lv_icmp_ge (tgt := 96) hx hb dX0_upper_12 (by decide) (fun c => absurd c (by decide)) (fun _ => ?_)
  refine lv_iload hx hb dX0_upper_15 (lv_at hl 0 rfl) ?_
  refine lv_iconst (v := 4) hx hb dX0_upper_17 (by decide) ?_
  refine lv_idiv hx hb dX0_upper_18 (by decide) ?_
  refine gw_topi (y := 0) (by decide) ?_
  refine lv_iconst (v := 3) hx hb dX0_upper_19 (by decide) ?_
  refine lv_icmp_ne (tgt := 27) hx hb dX0_upper_20 (by decide) (fun _ => ?_) (fun c => absurd c (by decide))
  refine lv_iconst (v := 0) hx hb dX0_upper_27 (by decide) ?_
  refine lv_istore (lv' := [(5, .int 0), (4, .int 0), (2, .long 0), (0, .ref (q 20)), (1, .int p1)]) hx hb dX0_upper_28 hl (by decide) rfl (fun ls hl => ?_)
  refine lv_iload hx hb dX0_upper_30 (lv_at hl 1 rfl) ?_
  refine lv_iconst (v := 4) hx hb dX0_upper_32 (by decide) ?_
  refine lv_irem hx hb dX0_upper_33 (by decide) ?_
  refine gw_topi (y := 0) (by decide) ?_
  refine lv_iconst (v := 3) hx hb dX0_upper_34 (by decide) ?_
  refine lv_icmp_ne (tgt := 42) hx hb dX0_upper_35 (by decide) (fun _ => ?_) (fun c => absurd c (by decide))
  refine lv_iconst (v := 0) hx hb dX0_upper_42 (by decide) ?_
  refine lv_istore (lv' := [(6, .int 0), (5, .int 0), (4, .int 0), (2, .long 0), (0, .ref (q 20)), (1, .int p1)]) hx hb dX0_upper_43 hl (by decide) rfl (fun ls hl => ?_)
  refine lv_iload_n hx hb dX0_upper_45 rfl (lv_at hl 5 rfl) ?_
  refine lv_if_ne (tgt := 57) hx hb dX0_upper_46 (by decide) (fun c_1 => ?_) (fun c_1 => ?_)
  · refine lv_iload_n hx hb dX0_upper_57 rfl (lv_at hl 5 rfl) ?_
    refine lv_iconst (v := 1) hx hb dX0_upper_58 (by decide) ?_
    refine lv_icmp_ne (tgt := 70) hx hb dX0_upper_59 (by decide) (fun c_2 => ?_) (fun c_2 => ?_)
    · refine lv_iload hx hb dX0_upper_70 (lv_at hl 1 rfl) ?_
      refine lv_if_eq (tgt := 90) hx hb dX0_upper_72 (by decide) (fun _ => ?_) (fun c => absurd (by decide) c)
      refine lv_iinc (v := 1) (lv' := [(4, .int 1), (6, .int 0), (5, .int 0), (2, .long 0), (0, .ref (q 20)), (1, .int p1)]) hx hb dX0_upper_90 hl (k := 2) rfl (by decide) (by decide) rfl (fun ls hl => ?_)
      refine lv_goto (tgt := 5) hx hb dX0_upper_93 (by decide) ?_
      refine lv_iload hx hb dX0_upper_5 (lv_at hl 0 rfl) ?_
      refine lv_aload_n hx hb dX0_upper_7 rfl (lv_at hl 4 rfl) ?_
      refine va_get (D := G) (ci := 0) (v := .ref (q 21)) (C := RX0) (T := TX0) (N := 4) hx hb hts iX0 hown hK hP 0 rfl rfl 2 (by decide) (hts _ m_226) (fun _ h9 => h9) rfl dX0_upper_8 ?_
      refine va_alen (D := G) hx hb hK hP 1 1 rfl rfl (v := 16) rfl dX0_upper_11 ?_
      refine lv_icmp_ge (tgt := 96) hx hb dX0_upper_12 (by decide) (fun c => absurd c (by decide)) (fun _ => ?_)
      refine lv_iload hx hb dX0_upper_15 (lv_at hl 0 rfl) ?_
      refine lv_iconst (v := 4) hx hb dX0_upper_17 (by decide) ?_
      refine lv_idiv hx hb dX0_upper_18 (by decide) ?_
      refine gw_topi (y := 0) (by decide) ?_
      refine lv_iconst (v := 3) hx hb dX0_upper_19 (by decide) ?_
      refine lv_icmp_ne (tgt := 27) hx hb dX0_upper_20 (by decide) (fun _ => ?_) (fun c => absurd c (by decide))
      refine lv_iconst (v := 0) hx hb dX0_upper_27 (by decide) ?_
      refine lv_istore (lv' := [(5, .int 0), (4, .int 1), (6, .int 0), (2, .long 0), (0, .ref (q 20)), (1, .int p1)]) hx hb dX0_upper_28 hl (by decide) rfl (fun ls hl => ?_)
      refine lv_iload hx hb dX0_upper_30 (lv_at hl 1 rfl) ?_
      refine lv_iconst (v := 4) hx hb dX0_upper_32 (by decide) ?_
      refine lv_irem hx hb dX0_upper_33 (by decide) ?_
      refine gw_topi (y := 1) (by decide) ?_
      refine lv_iconst (v := 3) hx hb dX0_upper_34 (by decide) ?_
      refine lv_icmp_ne (tgt := 42) hx hb dX0_upper_35 (by decide) (fun _ => ?_) (fun c => absurd c (by decide))
      refine lv_iconst (v := 0) hx hb dX0_upper_42 (by decide) ?_
      refine lv_istore (lv' := [(6, .int 0), (5, .int 0), (4, .int 1), (2, .long 0), (0, .ref (q 20)), (1, .int p1)]) hx hb dX0_upper_43 hl (by decide) rfl (fun ls hl => ?_)
      refine lv_iload_n hx hb dX0_upper_45 rfl (lv_at hl 5 rfl) ?_
      refine lv_if_ne (tgt := 57) hx hb dX0_upper_46 (by decide) (fun _ => ?_) (fun c => absurd c c_1)
      refine lv_iload_n hx hb dX0_upper_57 rfl (lv_at hl 5 rfl) ?_
      refine lv_iconst (v := 1) hx hb dX0_upper_58 (by decide) ?_
      refine lv_icmp_ne (tgt := 70) hx hb dX0_upper_59 (by decide) (fun _ => ?_) (fun c => absurd c c_2)
      refine lv_iload hx hb dX0_upper_70 (lv_at hl 1 rfl) ?_
      refine lv_if_eq (tgt := 90) hx hb dX0_upper_72 (by decide) (fun _ => ?_) (fun c => absurd (by decide) c)
      refine lv_iinc (v := 2) (lv' := [(4, .int 2), (6, .int 0), (5, .int 0), (2, .long 0), (0, .ref (q 20)), (1, .int p1)]) hx hb dX0_upper_90 hl (k := 2) rfl (by decide) (by decide) rfl (fun ls hl => ?_)
      refine lv_goto (tgt := 5) hx hb dX0_upper_93 (by decide) ?_
      refine lv_iload hx hb dX0_upper_5 (lv_at hl 0 rfl) ?_
      refine lv_aload_n hx hb dX0_upper_7 rfl (lv_at hl 4 rfl) ?_
      refine va_get (D := G) (ci := 0) (v := .ref (q 21)) (C := RX0) (T := TX0) (N := 4) hx hb hts iX0 hown hK hP 0 rfl rfl 2 (by decide) (hts _ m_226) (fun _ h9 => h9) rfl dX0_upper_8 ?_
      refine va_alen (D := G) hx hb hK hP 1 1 rfl rfl (v := 16) rfl dX0_upper_11 ?_
      refine lv_icmp_ge (tgt := 96) hx hb dX0_upper_12 (by decide) (fun c => absurd c (by decide)) (fun _ => ?_)
      refine lv_iload hx hb dX0_upper_15 (lv_at hl 0 rfl) ?_
      refine lv_iconst (v := 4) hx hb dX0_upper_17 (by decide) ?_
      refine lv_idiv hx hb dX0_upper_18 (by decide) ?_
      refine gw_topi (y := 0) (by decide) ?_
      refine lv_iconst (v := 3) hx hb dX0_upper_19 (by decide) ?_
      refine lv_icmp_ne (tgt := 27) hx hb dX0_upper_20 (by decide) (fun _ => ?_) (fun c => absurd c (by decide))
      refine lv_iconst (v := 0) hx hb dX0_upper_27 (by decide) ?_
      refine lv_istore (lv' := [(5, .int 0), (4, .int 2), (6, .int 0), (2, .long 0), (0, .ref (q 20)), (1, .int p1)]) hx hb dX0_upper_28 hl (by decide) rfl (fun ls hl => ?_)
      refine lv_iload hx hb dX0_upper_30 (lv_at hl 1 rfl) ?_
      refine lv_iconst (v := 4) hx hb dX0_upper_32 (by decide) ?_
      refine lv_irem hx hb dX0_upper_33 (by decide) ?_
      refine gw_topi (y := 2) (by decide) ?_
      refine lv_iconst (v := 3) hx hb dX0_upper_34 (by decide) ?_
      refine lv_icmp_ne (tgt := 42) hx hb dX0_upper_35 (by decide) (fun _ => ?_) (fun c => absurd c (by decide))
      refine lv_iconst (v := 0) hx hb dX0_upper_42 (by decide) ?_
      refine lv_istore (lv' := [(6, .int 0), (5, .int 0), (4, .int 2), (2, .long 0), (0, .ref (q 20)), (1, .int p1)]) hx hb dX0_upper_43 hl (by decide) rfl (fun ls hl => ?_)
      refine lv_iload_n hx hb dX0_upper_45 rfl (lv_at hl 5 rfl) ?_
      refine lv_if_ne (tgt := 57) hx hb dX0_upper_46 (by decide) (fun _ => ?_) (fun c => absurd c c_1)
      refine lv_iload_n hx hb dX0_upper_57 rfl (lv_at hl 5 rfl) ?_
      refine lv_iconst (v := 1) hx hb dX0_upper_58 (by decide) ?_
      refine lv_icmp_ne (tgt := 70) hx hb dX0_upper_59 (by decide) (fun _ => ?_) (fun c => absurd c c_2)
      refine lv_iload hx hb dX0_upper_70 (lv_at hl 1 rfl) ?_
      refine lv_if_eq (tgt := 90) hx hb dX0_upper_72 (by decide) (fun _ => ?_) (fun c => absurd (by decide) c)
      refine lv_iinc (v := 3) (lv' := [(4, .int 3), (6, .int 0), (5, .int 0), (2, .long 0), (0, .ref (q 20)), (1, .int p1)]) hx hb dX0_upper_90 hl (k := 2) rfl (by decide) (by decide) rfl (fun ls hl => ?_)
      refine lv_goto (tgt := 5) hx hb dX0_upper_93 (by decide) ?_
      refine lv_iload hx hb dX0_upper_5 (lv_at hl 0 rfl) ?_
      refine lv_aload_n hx hb dX0_upper_7 rfl (lv_at hl 4 rfl) ?_
      refine va_get (D := G) (ci := 0) (v := .ref (q 21)) (C := RX0) (T := TX0) (N := 4) hx hb hts iX0 hown hK hP 0 rfl rfl 2 (by decide) (hts _ m_226) (fun _ h9 => h9) rfl dX0_upper_8 ?_
      refine va_alen (D := G) hx hb hK hP 1 1 rfl rfl (v := 16) rfl dX0_upper_11 ?_
      refine lv_icmp_ge (tgt := 96) hx hb dX0_upper_12 (by decide) (fun c => absurd c (by decide)) (fun _ => ?_)
      refine lv_iload hx hb dX0_upper_15 (lv_at hl 0 rfl) ?_
      refine lv_iconst (v := 4) hx hb dX0_upper_17 (by decide) ?_
      refine lv_idiv hx hb dX0_upper_18 (by decide) ?_
      refine gw_topi (y := 0) (by decide) ?_
      refine lv_iconst (v := 3) hx hb dX0_upper_19 (by decide) ?_
      refine lv_icmp_ne (tgt := 27) hx hb dX0_upper_20 (by decide) (fun _ => ?_) (fun c => absurd c (by decide))
      refine lv_iconst (v := 0) hx hb dX0_upper_27 (by decide) ?_
      refine lv_istore (lv' := [(5, .int 0), (4, .int 3), (6, .int 0), (2, .long 0), (0, .ref (q 20)), (1, .int p1)]) hx hb dX0_upper_28 hl (by decide) rfl (fun ls hl => ?_)
      refine lv_iload hx hb dX0_upper_30 (lv_at hl 1 rfl) ?_
      refine lv_iconst (v := 4) hx hb dX0_upper_32 (by decide) ?_
      refine lv_irem hx hb dX0_upper_33 (by decide) ?_
      refine gw_topi (y := 3) (by decide) ?_
      refine lv_iconst (v := 3) hx hb dX0_upper_34 (by decide) ?_
      refine lv_icmp_ne (tgt := 42) hx hb dX0_upper_35 (by decide) (fun c => absurd (by decide) c) (fun _ => ?_)
      refine lv_iconst (v := 1) hx hb dX0_upper_38 (by decide) ?_
      refine lv_goto (tgt := 43) hx hb dX0_upper_39 (by decide) ?_
      refine lv_istore (lv' := [(6, .int 1), (5, .int 0), (4, .int 3), (2, .long 0), (0, .ref (q 20)), (1, .int p1)]) hx hb dX0_upper_43 hl (by decide) rfl (fun ls hl => ?_)
      refine lv_iload_n hx hb dX0_upper_45 rfl (lv_at hl 5 rfl) ?_
      refine lv_if_ne (tgt := 57) hx hb dX0_upper_46 (by decide) (fun _ => ?_) (fun c => absurd c c_1)
      refine lv_iload_n hx hb dX0_upper_57 rfl (lv_at hl 5 rfl) ?_
      refine lv_iconst (v := 1) hx hb dX0_upper_58 (by decide) ?_
      refine lv_icmp_ne (tgt := 70) hx hb dX0_upper_59 (by decide) (fun _ => ?_) (fun c => absurd c c_2)
      refine lv_iload hx hb dX0_upper_70 (lv_at hl 1 rfl) ?_
      refine lv_if_eq (tgt := 90) hx hb dX0_upper_72 (by decide) (fun _ => ?_) (fun c => absurd (by decide) c)
      refine lv_iinc (v := 4) (lv' := [(4, .int 4), (6, .int 1), (5, .int 0), (2, .long 0), (0, .ref (q 20)), (1, .int p1)]) hx hb dX0_upper_90 hl (k := 2) rfl (by decide) (by decide) rfl (fun ls hl => ?_)
      refine lv_goto (tgt := 5) hx hb dX0_upper_93 (by decide) ?_
      refine lv_iload hx hb dX0_upper_5 (lv_at hl 0 rfl) ?_
      refine lv_aload_n hx hb dX0_upper_7 rfl (lv_at hl 4 rfl) ?_
      refine va_get (D := G) (ci := 0) (v := .ref (q 21)) (C := RX0) (T := TX0) (N := 4) hx hb hts iX0 hown hK hP 0 rfl rfl 2 (by decide) (hts _ m_226) (fun _ h9 => h9) rfl dX0_upper_8 ?_
      refine va_alen (D := G) hx hb hK hP 1 1 rfl rfl (v := 16) rfl dX0_upper_11 ?_
      refine lv_icmp_ge (tgt := 96) hx hb dX0_upper_12 (by decide) (fun c => absurd c (by decide)) (fun _ => ?_)
      refine lv_iload hx hb dX0_upper_15 (lv_at hl 0 rfl) ?_
      refine lv_iconst (v := 4) hx hb dX0_upper_17 (by decide) ?_
      refine lv_idiv hx hb dX0_upper_18 (by decide) ?_
      refine gw_topi (y := 1) (by decide) ?_
      refine lv_iconst (v := 3) hx hb dX0_upper_19 (by decide) ?_
      refine lv_icmp_ne (tgt := 27) hx hb dX0_upper_20 (by decide) (fun _ => ?_) (fun c => absurd c (by decide))
      refine lv_iconst (v := 0) hx hb dX0_upper_27 (by decide) ?_
      refine lv_istore (lv' := [(5, .int 0), (4, .int 4), (6, .int 1), (2, .long 0), (0, .ref (q 20)), (1, .int p1)]) hx hb dX0_upper_28 hl (by decide) rfl (fun ls hl => ?_)
      refine lv_iload hx hb dX0_upper_30 (lv_at hl 1 rfl) ?_
      refine lv_iconst (v := 4) hx hb dX0_upper_32 (by decide) ?_
      refine lv_irem hx hb dX0_upper_33 (by decide) ?_
      refine gw_topi (y := 0) (by decide) ?_
      refine lv_iconst (v := 3) hx hb dX0_upper_34 (by decide) ?_
      refine lv_icmp_ne (tgt := 42) hx hb dX0_upper_35 (by decide) (fun _ => ?_) (fun c => absurd c (by decide))
      refine lv_iconst (v := 0) hx hb dX0_upper_42 (by decide) ?_
      refine lv_istore (lv' := [(6, .int 0), (5, .int 0), (4, .int 4), (2, .long 0), (0, .ref (q 20)), (1, .int p1)]) hx hb dX0_upper_43 hl (by decide) rfl (fun ls hl => ?_)
      refine lv_iload_n hx hb dX0_upper_45 rfl (lv_at hl 5 rfl) ?_
      refine lv_if_ne (tgt := 57) hx hb dX0_upper_46 (by decide) (fun _ => ?_) (fun c => absurd c c_1)
      refine lv_iload_n hx hb dX0_upper_57 rfl (lv_at hl 5 rfl) ?_
      refine lv_iconst (v := 1) hx hb dX0_upper_58 (by decide) ?_
      refine lv_icmp_ne (tgt := 70) hx hb dX0_upper_59 (by decide) (fun _ => ?_) (fun c => absurd c c_2)
      refine lv_iload hx hb dX0_upper_70 (lv_at hl 1 rfl) ?_
      refine lv_if_eq (tgt := 90) hx hb dX0_upper_72 (by decide) (fun _ => ?_) (fun c => absurd (by decide) c)
      refine lv_iinc (v := 5) (lv' := [(4, .int 5), (6, .int 0), (5, .int 0), (2, .long 0), (0, .ref (q 20)), (1, .int p1)]) hx hb dX0_upper_90 hl (k := 2) rfl (by decide) (by decide) rfl (fun ls hl => ?_)
      refine lv_goto (tgt := 5) hx hb dX0_upper_93 (by decide) ?_
      refine lv_iload hx hb dX0_upper_5 (lv_at hl 0 rfl) ?_
      refine lv_aload_n hx hb dX0_upper_7 rfl (lv_at hl 4 rfl) ?_
      refine va_get (D := G) (ci := 0) (v := .ref (q 21)) (C := RX0) (T := TX0) (N := 4) hx hb hts iX0 hown hK hP 0 rfl rfl 2 (by decide) (hts _ m_226) (fun _ h9 => h9) rfl dX0_upper_8 ?_
      refine va_alen (D := G) hx hb hK hP 1 1 rfl rfl (v := 16) rfl dX0_upper_11 ?_
      refine lv_icmp_ge (tgt := 96) hx hb dX0_upper_12 (by decide) (fun c => absurd c (by decide)) (fun _ => ?_)
      refine lv_iload hx hb dX0_upper_15 (lv_at hl 0 rfl) ?_
      refine lv_iconst (v := 4) hx hb dX0_upper_17 (by decide) ?_
      refine lv_idiv hx hb dX0_upper_18 (by decide) ?_
      refine gw_topi (y := 1) (by decide) ?_
      refine lv_iconst (v := 3) hx hb dX0_upper_19 (by decide) ?_
      refine lv_icmp_ne (tgt := 27) hx hb dX0_upper_20 (by decide) (fun _ => ?_) (fun c => absurd c (by decide))
      refine lv_iconst (v := 0) hx hb dX0_upper_27 (by decide) ?_
      refine lv_istore (lv' := [(5, .int 0), (4, .int 5), (6, .int 0), (2, .long 0), (0, .ref (q 20)), (1, .int p1)]) hx hb dX0_upper_28 hl (by decide) rfl (fun ls hl => ?_)
      refine lv_iload hx hb dX0_upper_30 (lv_at hl 1 rfl) ?_
      refine lv_iconst (v := 4) hx hb dX0_upper_32 (by decide) ?_
      refine lv_irem hx hb dX0_upper_33 (by decide) ?_
      refine gw_topi (y := 1) (by decide) ?_
      refine lv_iconst (v := 3) hx hb dX0_upper_34 (by decide) ?_
      refine lv_icmp_ne (tgt := 42) hx hb dX0_upper_35 (by decide) (fun _ => ?_) (fun c => absurd c (by decide))
      refine lv_iconst (v := 0) hx hb dX0_upper_42 (by decide) ?_
      refine lv_istore (lv' := [(6, .int 0), (5, .int 0), (4, .int 5), (2, .long 0), (0, .ref (q 20)), (1, .int p1)]) hx hb dX0_upper_43 hl (by decide) rfl (fun ls hl => ?_)
      refine lv_iload_n hx hb dX0_upper_45 rfl (lv_at hl 5 rfl) ?_
      refine lv_if_ne (tgt := 57) hx hb dX0_upper_46 (by decide) (fun _ => ?_) (fun c => absurd c c_1)
      refine lv_iload_n hx hb dX0_upper_57 rfl (lv_at hl 5 rfl) ?_
      refine lv_iconst (v := 1) hx hb dX0_upper_58 (by decide) ?_
      refine lv_icmp_ne (tgt := 70) hx hb dX0_upper_59 (by decide) (fun _ => ?_) (fun c => absurd c c_2)
      refine lv_iload hx hb dX0_upper_70 (lv_at hl 1 rfl) ?_
      refine lv_if_eq (tgt := 90) hx hb dX0_upper_72 (by decide) (fun _ => ?_) (fun c => absurd (by decide) c)
      refine lv_iinc (v := 6) (lv' := [(4, .int 6), (6, .int 0), (5, .int 0), (2, .long 0), (0, .ref (q 20)), (1, .int p1)]) hx hb dX0_upper_90 hl (k := 2) rfl (by decide) (by decide) rfl (fun ls hl => ?_)
      refine lv_goto (tgt := 5) hx hb dX0_upper_93 (by decide) ?_
      refine lv_iload hx hb dX0_upper_5 (lv_at hl 0 rfl) ?_
      refine lv_aload_n hx hb dX0_upper_7 rfl (lv_at hl 4 rfl) ?_
      refine va_get (D := G) (ci := 0) (v := .ref (q 21)) (C := RX0) (T := TX0) (N := 4) hx hb hts iX0 hown hK hP 0 rfl rfl 2 (by decide) (hts _ m_226) (fun _ h9 => h9) rfl dX0_upper_8 ?_
      refine va_alen (D := G) hx hb hK hP 1 1 rfl rfl (v := 16) rfl dX0_upper_11 ?_
      refine lv_icmp_ge (tgt := 96) hx hb dX0_upper_12 (by decide) (fun c => absurd c (by decide)) (fun _ => ?_)
      refine lv_iload hx hb dX0_upper_15 (lv_at hl 0 rfl) ?_
      refine lv_iconst (v := 4) hx hb dX0_upper_17 (by decide) ?_
      refine lv_idiv hx hb dX0_upper_18 (by decide) ?_
      refine gw_topi (y := 1) (by decide) ?_
      refine lv_iconst (v := 3) hx hb dX0_upper_19 (by decide) ?_
      refine lv_icmp_ne (tgt := 27) hx hb dX0_upper_20 (by decide) (fun _ => ?_) (fun c => absurd c (by decide))
      refine lv_iconst (v := 0) hx hb dX0_upper_27 (by decide) ?_
      refine lv_istore (lv' := [(5, .int 0), (4, .int 6), (6, .int 0), (2, .long 0), (0, .ref (q 20)), (1, .int p1)]) hx hb dX0_upper_28 hl (by decide) rfl (fun ls hl => ?_)
      refine lv_iload hx hb dX0_upper_30 (lv_at hl 1 rfl) ?_
      refine lv_iconst (v := 4) hx hb dX0_upper_32 (by decide) ?_
      refine lv_irem hx hb dX0_upper_33 (by decide) ?_
      refine gw_topi (y := 2) (by decide) ?_
      refine lv_iconst (v := 3) hx hb dX0_upper_34 (by decide) ?_
      refine lv_icmp_ne (tgt := 42) hx hb dX0_upper_35 (by decide) (fun _ => ?_) (fun c => absurd c (by decide))
      refine lv_iconst (v := 0) hx hb dX0_upper_42 (by decide) ?_
      refine lv_istore (lv' := [(6, .int 0), (5, .int 0), (4, .int 6), (2, .long 0), (0, .ref (q 20)), (1, .int p1)]) hx hb dX0_upper_43 hl (by decide) rfl (fun ls hl => ?_)
      refine lv_iload_n hx hb dX0_upper_45 rfl (lv_at hl 5 rfl) ?_
      refine lv_if_ne (tgt := 57) hx hb dX0_upper_46 (by decide) (fun _ => ?_) (fun c => absurd c c_1)
      refine lv_iload_n hx hb dX0_upper_57 rfl (lv_at hl 5 rfl) ?_
      refine lv_iconst (v := 1) hx hb dX0_upper_58 (by decide) ?_
      refine lv_icmp_ne (tgt := 70) hx hb dX0_upper_59 (by decide) (fun _ => ?_) (fun c => absurd c c_2)
      refine lv_iload hx hb dX0_upper_70 (lv_at hl 1 rfl) ?_
      refine lv_if_eq (tgt := 90) hx hb dX0_upper_72 (by decide) (fun _ => ?_) (fun c => absurd (by decide) c)
      refine lv_iinc (v := 7) (lv' := [(4, .int 7), (6, .int 0), (5, .int 0), (2, .long 0), (0, .ref (q 20)), (1, .int p1)]) hx hb dX0_upper_90 hl (k := 2) rfl (by decide) (by decide) rfl (fun ls hl => ?_)
      refine lv_goto (tgt := 5) hx hb dX0_upper_93 (by decide) ?_
      refine lv_iload hx hb dX0_upper_5 (lv_at hl 0 rfl) ?_
      refine lv_aload_n hx hb dX0_upper_7 rfl (lv_at hl 4 rfl) ?_
      refine va_get (D := G) (ci := 0) (v := .ref (q 21)) (C := RX0) (T := TX0) (N := 4) hx hb hts iX0 hown hK hP 0 rfl rfl 2 (by decide) (hts _ m_226) (fun _ h9 => h9) rfl dX0_upper_8 ?_
      refine va_alen (D := G) hx hb hK hP 1 1 rfl rfl (v := 16) rfl dX0_upper_11 ?_
      refine lv_icmp_ge (tgt := 96) hx hb dX0_upper_12 (by decide) (fun c => absurd c (by decide)) (fun _ => ?_)
      refine lv_iload hx hb dX0_upper_15 (lv_at hl 0 rfl) ?_
      refine lv_iconst (v := 4) hx hb dX0_upper_17 (by decide) ?_
      refine lv_idiv hx hb dX0_upper_18 (by decide) ?_
      refine gw_topi (y := 1) (by decide) ?_
      refine lv_iconst (v := 3) hx hb dX0_upper_19 (by decide) ?_
      refine lv_icmp_ne (tgt := 27) hx hb dX0_upper_20 (by decide) (fun _ => ?_) (fun c => absurd c (by decide))
      refine lv_iconst (v := 0) hx hb dX0_upper_27 (by decide) ?_
      refine lv_istore (lv' := [(5, .int 0), (4, .int 7), (6, .int 0), (2, .long 0), (0, .ref (q 20)), (1, .int p1)]) hx hb dX0_upper_28 hl (by decide) rfl (fun ls hl => ?_)
      refine lv_iload hx hb dX0_upper_30 (lv_at hl 1 rfl) ?_
      refine lv_iconst (v := 4) hx hb dX0_upper_32 (by decide) ?_
      refine lv_irem hx hb dX0_upper_33 (by decide) ?_
      refine gw_topi (y := 3) (by decide) ?_
      refine lv_iconst (v := 3) hx hb dX0_upper_34 (by decide) ?_
      refine lv_icmp_ne (tgt := 42) hx hb dX0_upper_35 (by decide) (fun c => absurd (by decide) c) (fun _ => ?_)
      refine lv_iconst (v := 1) hx hb dX0_upper_38 (by decide) ?_
      refine lv_goto (tgt := 43) hx hb dX0_upper_39 (by decide) ?_
      refine lv_istore (lv' := [(6, .int 1), (5, .int 0), (4, .int 7), (2, .long 0), (0, .ref (q 20)), (1, .int p1)]) hx hb dX0_upper_43 hl (by decide) rfl (fun ls hl => ?_)
      refine lv_iload_n hx hb dX0_upper_45 rfl (lv_at hl 5 rfl) ?_
      refine lv_if_ne (tgt := 57) hx hb dX0_upper_46 (by decide) (fun _ => ?_) (fun c => absurd c c_1)
      refine lv_iload_n hx hb dX0_upper_57 rfl (lv_at hl 5 rfl) ?_
      refine lv_iconst (v := 1) hx hb dX0_upper_58 (by decide) ?_
      refine lv_icmp_ne (tgt := 70) hx hb dX0_upper_59 (by decide) (fun _ => ?_) (fun c => absurd c c_2)
      refine lv_iload hx hb dX0_upper_70 (lv_at hl 1 rfl) ?_
      refine lv_if_eq (tgt := 90) hx hb dX0_upper_72 (by decide) (fun _ => ?_) (fun c => absurd (by decide) c)
      refine lv_iinc (v := 8) (lv' := [(4, .int 8), (6, .int 1), (5, .int 0), (2, .long 0), (0, .ref (q 20)), (1, .int p1)]) hx hb dX0_upper_90 hl (k := 2) rfl (by decide) (by decide) rfl (fun ls hl => ?_)
      refine lv_goto (tgt := 5) hx hb dX0_upper_93 (by decide) ?_
      refine lv_iload hx hb dX0_upper_5 (lv_at hl 0 rfl) ?_
      refine lv_aload_n hx hb dX0_upper_7 rfl (lv_at hl 4 rfl) ?_
      refine va_get (D := G) (ci := 0) (v := .ref (q 21)) (C := RX0) (T := TX0) (N := 4) hx hb hts iX0 hown hK hP 0 rfl rfl 2 (by decide) (hts _ m_226) (fun _ h9 => h9) rfl dX0_upper_8 ?_
      refine va_alen (D := G) hx hb hK hP 1 1 rfl rfl (v := 16) rfl dX0_upper_11 ?_
      refine lv_icmp_ge (tgt := 96) hx hb dX0_upper_12 (by decide) (fun c => absurd c (by decide)) (fun _ => ?_)
      refine lv_iload hx hb dX0_upper_15 (lv_at hl 0 rfl) ?_
      refine lv_iconst (v := 4) hx hb dX0_upper_17 (by decide) ?_
      refine lv_idiv hx hb dX0_upper_18 (by decide) ?_
      refine gw_topi (y := 2) (by decide) ?_
      refine lv_iconst (v := 3) hx hb dX0_upper_19 (by decide) ?_
      refine lv_icmp_ne (tgt := 27) hx hb dX0_upper_20 (by decide) (fun _ => ?_) (fun c => absurd c (by decide))
      refine lv_iconst (v := 0) hx hb dX0_upper_27 (by decide) ?_
      refine lv_istore (lv' := [(5, .int 0), (4, .int 8), (6, .int 1), (2, .long 0), (0, .ref (q 20)), (1, .int p1)]) hx hb dX0_upper_28 hl (by decide) rfl (fun ls hl => ?_)
      refine lv_iload hx hb dX0_upper_30 (lv_at hl 1 rfl) ?_
      refine lv_iconst (v := 4) hx hb dX0_upper_32 (by decide) ?_
      refine lv_irem hx hb dX0_upper_33 (by decide) ?_
      refine gw_topi (y := 0) (by decide) ?_
      refine lv_iconst (v := 3) hx hb dX0_upper_34 (by decide) ?_
      refine lv_icmp_ne (tgt := 42) hx hb dX0_upper_35 (by decide) (fun _ => ?_) (fun c => absurd c (by decide))
      refine lv_iconst (v := 0) hx hb dX0_upper_42 (by decide) ?_
      refine lv_istore (lv' := [(6, .int 0), (5, .int 0), (4, .int 8), (2, .long 0), (0, .ref (q 20)), (1, .int p1)]) hx hb dX0_upper_43 hl (by decide) rfl (fun ls hl => ?_)
      refine lv_iload_n hx hb dX0_upper_45 rfl (lv_at hl 5 rfl) ?_
      refine lv_if_ne (tgt := 57) hx hb dX0_upper_46 (by decide) (fun _ => ?_) (fun c => absurd c c_1)
      refine lv_iload_n hx hb dX0_upper_57 rfl (lv_at hl 5 rfl) ?_
      refine lv_iconst (v := 1) hx hb dX0_upper_58 (by decide) ?_
      refine lv_icmp_ne (tgt := 70) hx hb dX0_upper_59 (by decide) (fun _ => ?_) (fun c => absurd c c_2)
      refine lv_iload hx hb dX0_upper_70 (lv_at hl 1 rfl) ?_
      refine lv_if_eq (tgt := 90) hx hb dX0_upper_72 (by decide) (fun _ => ?_) (fun c => absurd (by decide) c)
      refine lv_iinc (v := 9) (lv' := [(4, .int 9), (6, .int 0), (5, .int 0), (2, .long 0), (0, .ref (q 20)), (1, .int p1)]) hx hb dX0_upper_90 hl (k := 2) rfl (by decide) (by decide) rfl (fun ls hl => ?_)
      refine lv_goto (tgt := 5) hx hb dX0_upper_93 (by decide) ?_
      refine lv_iload hx hb dX0_upper_5 (lv_at hl 0 rfl) ?_
      refine lv_aload_n hx hb dX0_upper_7 rfl (lv_at hl 4 rfl) ?_
      refine va_get (D := G) (ci := 0) (v := .ref (q 21)) (C := RX0) (T := TX0) (N := 4) hx hb hts iX0 hown hK hP 0 rfl rfl 2 (by decide) (hts _ m_226) (fun _ h9 => h9) rfl dX0_upper_8 ?_
      refine va_alen (D := G) hx hb hK hP 1 1 rfl rfl (v := 16) rfl dX0_upper_11 ?_
      refine lv_icmp_ge (tgt := 96) hx hb dX0_upper_12 (by decide) (fun c => absurd c (by decide)) (fun _ => ?_)
      refine lv_iload hx hb dX0_upper_15 (lv_at hl 0 rfl) ?_
      refine lv_iconst (v := 4) hx hb dX0_upper_17 (by decide) ?_
      refine lv_idiv hx hb dX0_upper_18 (by decide) ?_
      refine gw_topi (y := 2) (by decide) ?_
      refine lv_iconst (v := 3) hx hb dX0_upper_19 (by decide) ?_
      refine lv_icmp_ne (tgt := 27) hx hb dX0_upper_20 (by decide) (fun _ => ?_) (fun c => absurd c (by decide))
      refine lv_iconst (v := 0) hx hb dX0_upper_27 (by decide) ?_
      refine lv_istore (lv' := [(5, .int 0), (4, .int 9), (6, .int 0), (2, .long 0), (0, .ref (q 20)), (1, .int p1)]) hx hb dX0_upper_28 hl (by decide) rfl (fun ls hl => ?_)
      refine lv_iload hx hb dX0_upper_30 (lv_at hl 1 rfl) ?_
      refine lv_iconst (v := 4) hx hb dX0_upper_32 (by decide) ?_
      refine lv_irem hx hb dX0_upper_33 (by decide) ?_
      refine gw_topi (y := 1) (by decide) ?_
      refine lv_iconst (v := 3) hx hb dX0_upper_34 (by decide) ?_
      refine lv_icmp_ne (tgt := 42) hx hb dX0_upper_35 (by decide) (fun _ => ?_) (fun c => absurd c (by decide))
      refine lv_iconst (v := 0) hx hb dX0_upper_42 (by decide) ?_
      refine lv_istore (lv' := [(6, .int 0), (5, .int 0), (4, .int 9), (2, .long 0), (0, .ref (q 20)), (1, .int p1)]) hx hb dX0_upper_43 hl (by decide) rfl (fun ls hl => ?_)
      refine lv_iload_n hx hb dX0_upper_45 rfl (lv_at hl 5 rfl) ?_
      refine lv_if_ne (tgt := 57) hx hb dX0_upper_46 (by decide) (fun _ => ?_) (fun c => absurd c c_1)
      refine lv_iload_n hx hb dX0_upper_57 rfl (lv_at hl 5 rfl) ?_
      refine lv_iconst (v := 1) hx hb dX0_upper_58 (by decide) ?_
      refine lv_icmp_ne (tgt := 70) hx hb dX0_upper_59 (by decide) (fun _ => ?_) (fun c => absurd c c_2)
      refine lv_iload hx hb dX0_upper_70 (lv_at hl 1 rfl) ?_
      refine lv_if_eq (tgt := 90) hx hb dX0_upper_72 (by decide) (fun _ => ?_) (fun c => absurd (by decide) c)
      refine lv_iinc (v := 10) (lv' := [(4, .int 10), (6, .int 0), (5, .int 0), (2, .long 0), (0, .ref (q 20)), (1, .int p1)]) hx hb dX0_upper_90 hl (k := 2) rfl (by decide) (by decide) rfl (fun ls hl => ?_)
      refine lv_goto (tgt := 5) hx hb dX0_upper_93 (by decide) ?_
      refine lv_iload hx hb dX0_upper_5 (lv_at hl 0 rfl) ?_
      refine lv_aload_n hx hb dX0_upper_7 rfl (lv_at hl 4 rfl) ?_
      refine va_get (D := G) (ci := 0) (v := .ref (q 21)) (C := RX0) (T := TX0) (N := 4) hx hb hts iX0 hown hK hP 0 rfl rfl 2 (by decide) (hts _ m_226) (fun _ h9 => h9) rfl dX0_upper_8 ?_
      refine va_alen (D := G) hx hb hK hP 1 1 rfl rfl (v := 16) rfl dX0_upper_11 ?_
      refine lv_icmp_ge (tgt := 96) hx hb dX0_upper_12 (by decide) (fun c => absurd c (by decide)) (fun _ => ?_)
      refine lv_iload hx hb dX0_upper_15 (lv_at hl 0 rfl) ?_
      refine lv_iconst (v := 4) hx hb dX0_upper_17 (by decide) ?_
      refine lv_idiv hx hb dX0_upper_18 (by decide) ?_
      refine gw_topi (y := 2) (by decide) ?_
      refine lv_iconst (v := 3) hx hb dX0_upper_19 (by decide) ?_
      refine lv_icmp_ne (tgt := 27) hx hb dX0_upper_20 (by decide) (fun _ => ?_) (fun c => absurd c (by decide))
      refine lv_iconst (v := 0) hx hb dX0_upper_27 (by decide) ?_
      refine lv_istore (lv' := [(5, .int 0), (4, .int 10), (6, .int 0), (2, .long 0), (0, .ref (q 20)), (1, .int p1)]) hx hb dX0_upper_28 hl (by decide) rfl (fun ls hl => ?_)
      refine lv_iload hx hb dX0_upper_30 (lv_at hl 1 rfl) ?_
      refine lv_iconst (v := 4) hx hb dX0_upper_32 (by decide) ?_
      refine lv_irem hx hb dX0_upper_33 (by decide) ?_
      refine gw_topi (y := 2) (by decide) ?_
      refine lv_iconst (v := 3) hx hb dX0_upper_34 (by decide) ?_
      refine lv_icmp_ne (tgt := 42) hx hb dX0_upper_35 (by decide) (fun _ => ?_) (fun c => absurd c (by decide))
      refine lv_iconst (v := 0) hx hb dX0_upper_42 (by decide) ?_
      refine lv_istore (lv' := [(6, .int 0), (5, .int 0), (4, .int 10), (2, .long 0), (0, .ref (q 20)), (1, .int p1)]) hx hb dX0_upper_43 hl (by decide) rfl (fun ls hl => ?_)
      refine lv_iload_n hx hb dX0_upper_45 rfl (lv_at hl 5 rfl) ?_
      refine lv_if_ne (tgt := 57) hx hb dX0_upper_46 (by decide) (fun _ => ?_) (fun c => absurd c c_1)
      refine lv_iload_n hx hb dX0_upper_57 rfl (lv_at hl 5 rfl) ?_
      refine lv_iconst (v := 1) hx hb dX0_upper_58 (by decide) ?_
      refine lv_icmp_ne (tgt := 70) hx hb dX0_upper_59 (by decide) (fun _ => ?_) (fun c => absurd c c_2)
      refine lv_iload hx hb dX0_upper_70 (lv_at hl 1 rfl) ?_
      refine lv_if_eq (tgt := 90) hx hb dX0_upper_72 (by decide) (fun _ => ?_) (fun c => absurd (by decide) c)
      refine lv_iinc (v := 11) (lv' := [(4, .int 11), (6, .int 0), (5, .int 0), (2, .long 0), (0, .ref (q 20)), (1, .int p1)]) hx hb dX0_upper_90 hl (k := 2) rfl (by decide) (by decide) rfl (fun ls hl => ?_)
      refine lv_goto (tgt := 5) hx hb dX0_upper_93 (by decide) ?_
      refine lv_iload hx hb dX0_upper_5 (lv_at hl 0 rfl) ?_
      refine lv_aload_n hx hb dX0_upper_7 rfl (lv_at hl 4 rfl) ?_
      refine va_get (D := G) (ci := 0) (v := .ref (q 21)) (C := RX0) (T := TX0) (N := 4) hx hb hts iX0 hown hK hP 0 rfl rfl 2 (by decide) (hts _ m_226) (fun _ h9 => h9) rfl dX0_upper_8 ?_
      refine va_alen (D := G) hx hb hK hP 1 1 rfl rfl (v := 16) rfl dX0_upper_11 ?_
      refine lv_icmp_ge (tgt := 96) hx hb dX0_upper_12 (by decide) (fun c => absurd c (by decide)) (fun _ => ?_)
      refine lv_iload hx hb dX0_upper_15 (lv_at hl 0 rfl) ?_
      refine lv_iconst (v := 4) hx hb dX0_upper_17 (by decide) ?_
      refine lv_idiv hx hb dX0_upper_18 (by decide) ?_
      refine gw_topi (y := 2) (by decide) ?_
      refine lv_iconst (v := 3) hx hb dX0_upper_19 (by decide) ?_
      refine lv_icmp_ne (tgt := 27) hx hb dX0_upper_20 (by decide) (fun _ => ?_) (fun c => absurd c (by decide))
      refine lv_iconst (v := 0) hx hb dX0_upper_27 (by decide) ?_
      refine lv_istore (lv' := [(5, .int 0), (4, .int 11), (6, .int 0), (2, .long 0), (0, .ref (q 20)), (1, .int p1)]) hx hb dX0_upper_28 hl (by decide) rfl (fun ls hl => ?_)
      refine lv_iload hx hb dX0_upper_30 (lv_at hl 1 rfl) ?_
      refine lv_iconst (v := 4) hx hb dX0_upper_32 (by decide) ?_
      refine lv_irem hx hb dX0_upper_33 (by decide) ?_
      refine gw_topi (y := 3) (by decide) ?_
      refine lv_iconst (v := 3) hx hb dX0_upper_34 (by decide) ?_
      refine lv_icmp_ne (tgt := 42) hx hb dX0_upper_35 (by decide) (fun c => absurd (by decide) c) (fun _ => ?_)
      refine lv_iconst (v := 1) hx hb dX0_upper_38 (by decide) ?_
      refine lv_goto (tgt := 43) hx hb dX0_upper_39 (by decide) ?_
      refine lv_istore (lv' := [(6, .int 1), (5, .int 0), (4, .int 11), (2, .long 0), (0, .ref (q 20)), (1, .int p1)]) hx hb dX0_upper_43 hl (by decide) rfl (fun ls hl => ?_)
      refine lv_iload_n hx hb dX0_upper_45 rfl (lv_at hl 5 rfl) ?_
      refine lv_if_ne (tgt := 57) hx hb dX0_upper_46 (by decide) (fun _ => ?_) (fun c => absurd c c_1)
      refine lv_iload_n hx hb dX0_upper_57 rfl (lv_at hl 5 rfl) ?_
      refine lv_iconst (v := 1) hx hb dX0_upper_58 (by decide) ?_
      refine lv_icmp_ne (tgt := 70) hx hb dX0_upper_59 (by decide) (fun _ => ?_) (fun c => absurd c c_2)
      refine lv_iload hx hb dX0_upper_70 (lv_at hl 1 rfl) ?_
      refine lv_if_eq (tgt := 90) hx hb dX0_upper_72 (by decide) (fun _ => ?_) (fun c => absurd (by decide) c)
      refine lv_iinc (v := 12) (lv' := [(4, .int 12), (6, .int 1), (5, .int 0), (2, .long 0), (0, .ref (q 20)), (1, .int p1)]) hx hb dX0_upper_90 hl (k := 2) rfl (by decide) (by decide) rfl (fun ls hl => ?_)
      refine lv_goto (tgt := 5) hx hb dX0_upper_93 (by decide) ?_
      refine lv_iload hx hb dX0_upper_5 (lv_at hl 0 rfl) ?_
      refine lv_aload_n hx hb dX0_upper_7 rfl (lv_at hl 4 rfl) ?_
      refine va_get (D := G) (ci := 0) (v := .ref (q 21)) (C := RX0) (T := TX0) (N := 4) hx hb hts iX0 hown hK hP 0 rfl rfl 2 (by decide) (hts _ m_226) (fun _ h9 => h9) rfl dX0_upper_8 ?_
      refine va_alen (D := G) hx hb hK hP 1 1 rfl rfl (v := 16) rfl dX0_upper_11 ?_
      refine lv_icmp_ge (tgt := 96) hx hb dX0_upper_12 (by decide) (fun c => absurd c (by decide)) (fun _ => ?_)
      refine lv_iload hx hb dX0_upper_15 (lv_at hl 0 rfl) ?_
      refine lv_iconst (v := 4) hx hb dX0_upper_17 (by decide) ?_
      refine lv_idiv hx hb dX0_upper_18 (by decide) ?_
      refine gw_topi (y := 3) (by decide) ?_
      refine lv_iconst (v := 3) hx hb dX0_upper_19 (by decide) ?_
      refine lv_icmp_ne (tgt := 27) hx hb dX0_upper_20 (by decide) (fun c => absurd (by decide) c) (fun _ => ?_)
      refine lv_iconst (v := 1) hx hb dX0_upper_23 (by decide) ?_
      refine lv_goto (tgt := 28) hx hb dX0_upper_24 (by decide) ?_
      refine lv_istore (lv' := [(5, .int 1), (4, .int 12), (6, .int 1), (2, .long 0), (0, .ref (q 20)), (1, .int p1)]) hx hb dX0_upper_28 hl (by decide) rfl (fun ls hl => ?_)
      refine lv_iload hx hb dX0_upper_30 (lv_at hl 1 rfl) ?_
      refine lv_iconst (v := 4) hx hb dX0_upper_32 (by decide) ?_
      refine lv_irem hx hb dX0_upper_33 (by decide) ?_
      refine gw_topi (y := 0) (by decide) ?_
      refine lv_iconst (v := 3) hx hb dX0_upper_34 (by decide) ?_
      refine lv_icmp_ne (tgt := 42) hx hb dX0_upper_35 (by decide) (fun _ => ?_) (fun c => absurd c (by decide))
      refine lv_iconst (v := 0) hx hb dX0_upper_42 (by decide) ?_
      refine lv_istore (lv' := [(6, .int 0), (5, .int 1), (4, .int 12), (2, .long 0), (0, .ref (q 20)), (1, .int p1)]) hx hb dX0_upper_43 hl (by decide) rfl (fun ls hl => ?_)
      refine lv_iload_n hx hb dX0_upper_45 rfl (lv_at hl 5 rfl) ?_
      refine lv_if_ne (tgt := 57) hx hb dX0_upper_46 (by decide) (fun _ => ?_) (fun c => absurd c c_1)
      refine lv_iload_n hx hb dX0_upper_57 rfl (lv_at hl 5 rfl) ?_
      refine lv_iconst (v := 1) hx hb dX0_upper_58 (by decide) ?_
      refine lv_icmp_ne (tgt := 70) hx hb dX0_upper_59 (by decide) (fun _ => ?_) (fun c => absurd c c_2)
      refine lv_iload hx hb dX0_upper_70 (lv_at hl 1 rfl) ?_
      refine lv_if_eq (tgt := 90) hx hb dX0_upper_72 (by decide) (fun c => absurd c (by decide)) (fun _ => ?_)
      refine lv_iload hx hb dX0_upper_75 (lv_at hl 0 rfl) ?_
      refine lv_if_ne (tgt := 90) hx hb dX0_upper_77 (by decide) (fun c => absurd (by decide) c) (fun _ => ?_)
      refine lv_lload_n hx hb dX0_upper_80 rfl (lv_at hl 3 rfl) ?_
      refine lv_aload_n hx hb dX0_upper_81 rfl (lv_at hl 4 rfl) ?_
      refine va_get (D := G) (ci := 0) (v := .ref (q 21)) (C := RX0) (T := TX0) (N := 4) hx hb hts iX0 hown hK hP 0 rfl rfl 2 (by decide) (hts _ m_226) (fun _ h9 => h9) rfl dX0_upper_82 ?_
      refine lv_iload hx hb dX0_upper_85 (lv_at hl 2 rfl) ?_
      refine gw_lald (x := 0) hx hb hK hP 1 1 12 rfl rfl rfl (by decide) (by decide) rfl dX0_upper_87 ?_
      refine lv_ladd hx hb dX0_upper_88 ?_
      refine gw_topl (y := 0) (by decide) ?_
      refine lv_lstore_n (lv' := [(2, .long 0), (6, .int 0), (5, .int 1), (4, .int 12), (0, .ref (q 20)), (1, .int p1)]) hx hb dX0_upper_89 rfl hl (by decide) rfl (fun ls hl => ?_)
      refine lv_iinc (v := 13) (lv' := [(4, .int 13), (2, .long 0), (6, .int 0), (5, .int 1), (0, .ref (q 20)), (1, .int p1)]) hx hb dX0_upper_90 hl (k := 3) rfl (by decide) (by decide) rfl (fun ls hl => ?_)
      refine lv_goto (tgt := 5) hx hb dX0_upper_93 (by decide) ?_
      refine lv_iload hx hb dX0_upper_5 (lv_at hl 0 rfl) ?_
      refine lv_aload_n hx hb dX0_upper_7 rfl (lv_at hl 4 rfl) ?_
      refine va_get (D := G) (ci := 0) (v := .ref (q 21)) (C := RX0) (T := TX0) (N := 4) hx hb hts iX0 hown hK hP 0 rfl rfl 2 (by decide) (hts _ m_226) (fun _ h9 => h9) rfl dX0_upper_8 ?_
      refine va_alen (D := G) hx hb hK hP 1 1 rfl rfl (v := 16) rfl dX0_upper_11 ?_
      refine lv_icmp_ge (tgt := 96) hx hb dX0_upper_12 (by decide) (fun c => absurd c (by decide)) (fun _ => ?_)
      refine lv_iload hx hb dX0_upper_15 (lv_at hl 0 rfl) ?_
      refine lv_iconst (v := 4) hx hb dX0_upper_17 (by decide) ?_
      refine lv_idiv hx hb dX0_upper_18 (by decide) ?_
      refine gw_topi (y := 3) (by decide) ?_
      refine lv_iconst (v := 3) hx hb dX0_upper_19 (by decide) ?_
      refine lv_icmp_ne (tgt := 27) hx hb dX0_upper_20 (by decide) (fun c => absurd (by decide) c) (fun _ => ?_)
      refine lv_iconst (v := 1) hx hb dX0_upper_23 (by decide) ?_
      refine lv_goto (tgt := 28) hx hb dX0_upper_24 (by decide) ?_
      refine lv_istore (lv' := [(5, .int 1), (4, .int 13), (2, .long 0), (6, .int 0), (0, .ref (q 20)), (1, .int p1)]) hx hb dX0_upper_28 hl (by decide) rfl (fun ls hl => ?_)
      refine lv_iload hx hb dX0_upper_30 (lv_at hl 1 rfl) ?_
      refine lv_iconst (v := 4) hx hb dX0_upper_32 (by decide) ?_
      refine lv_irem hx hb dX0_upper_33 (by decide) ?_
      refine gw_topi (y := 1) (by decide) ?_
      refine lv_iconst (v := 3) hx hb dX0_upper_34 (by decide) ?_
      refine lv_icmp_ne (tgt := 42) hx hb dX0_upper_35 (by decide) (fun _ => ?_) (fun c => absurd c (by decide))
      refine lv_iconst (v := 0) hx hb dX0_upper_42 (by decide) ?_
      refine lv_istore (lv' := [(6, .int 0), (5, .int 1), (4, .int 13), (2, .long 0), (0, .ref (q 20)), (1, .int p1)]) hx hb dX0_upper_43 hl (by decide) rfl (fun ls hl => ?_)
      refine lv_iload_n hx hb dX0_upper_45 rfl (lv_at hl 5 rfl) ?_
      refine lv_if_ne (tgt := 57) hx hb dX0_upper_46 (by decide) (fun _ => ?_) (fun c => absurd c c_1)
      refine lv_iload_n hx hb dX0_upper_57 rfl (lv_at hl 5 rfl) ?_
      refine lv_iconst (v := 1) hx hb dX0_upper_58 (by decide) ?_
      refine lv_icmp_ne (tgt := 70) hx hb dX0_upper_59 (by decide) (fun _ => ?_) (fun c => absurd c c_2)
      refine lv_iload hx hb dX0_upper_70 (lv_at hl 1 rfl) ?_
      refine lv_if_eq (tgt := 90) hx hb dX0_upper_72 (by decide) (fun c => absurd c (by decide)) (fun _ => ?_)
      refine lv_iload hx hb dX0_upper_75 (lv_at hl 0 rfl) ?_
      refine lv_if_ne (tgt := 90) hx hb dX0_upper_77 (by decide) (fun c => absurd (by decide) c) (fun _ => ?_)
      refine lv_lload_n hx hb dX0_upper_80 rfl (lv_at hl 3 rfl) ?_
      refine lv_aload_n hx hb dX0_upper_81 rfl (lv_at hl 4 rfl) ?_
      refine va_get (D := G) (ci := 0) (v := .ref (q 21)) (C := RX0) (T := TX0) (N := 4) hx hb hts iX0 hown hK hP 0 rfl rfl 2 (by decide) (hts _ m_226) (fun _ h9 => h9) rfl dX0_upper_82 ?_
      refine lv_iload hx hb dX0_upper_85 (lv_at hl 2 rfl) ?_
      refine gw_lald (x := 0) hx hb hK hP 1 1 13 rfl rfl rfl (by decide) (by decide) rfl dX0_upper_87 ?_
      refine lv_ladd hx hb dX0_upper_88 ?_
      refine gw_topl (y := 0) (by decide) ?_
      refine lv_lstore_n (lv' := [(2, .long 0), (6, .int 0), (5, .int 1), (4, .int 13), (0, .ref (q 20)), (1, .int p1)]) hx hb dX0_upper_89 rfl hl (by decide) rfl (fun ls hl => ?_)
      refine lv_iinc (v := 14) (lv' := [(4, .int 14), (2, .long 0), (6, .int 0), (5, .int 1), (0, .ref (q 20)), (1, .int p1)]) hx hb dX0_upper_90 hl (k := 3) rfl (by decide) (by decide) rfl (fun ls hl => ?_)
      refine lv_goto (tgt := 5) hx hb dX0_upper_93 (by decide) ?_
      refine lv_iload hx hb dX0_upper_5 (lv_at hl 0 rfl) ?_
      refine lv_aload_n hx hb dX0_upper_7 rfl (lv_at hl 4 rfl) ?_
      refine va_get (D := G) (ci := 0) (v := .ref (q 21)) (C := RX0) (T := TX0) (N := 4) hx hb hts iX0 hown hK hP 0 rfl rfl 2 (by decide) (hts _ m_226) (fun _ h9 => h9) rfl dX0_upper_8 ?_
      refine va_alen (D := G) hx hb hK hP 1 1 rfl rfl (v := 16) rfl dX0_upper_11 ?_
      refine lv_icmp_ge (tgt := 96) hx hb dX0_upper_12 (by decide) (fun c => absurd c (by decide)) (fun _ => ?_)
      refine lv_iload hx hb dX0_upper_15 (lv_at hl 0 rfl) ?_
      refine lv_iconst (v := 4) hx hb dX0_upper_17 (by decide) ?_
      refine lv_idiv hx hb dX0_upper_18 (by decide) ?_
      refine gw_topi (y := 3) (by decide) ?_
      refine lv_iconst (v := 3) hx hb dX0_upper_19 (by decide) ?_
      refine lv_icmp_ne (tgt := 27) hx hb dX0_upper_20 (by decide) (fun c => absurd (by decide) c) (fun _ => ?_)
      refine lv_iconst (v := 1) hx hb dX0_upper_23 (by decide) ?_
      refine lv_goto (tgt := 28) hx hb dX0_upper_24 (by decide) ?_
      refine lv_istore (lv' := [(5, .int 1), (4, .int 14), (2, .long 0), (6, .int 0), (0, .ref (q 20)), (1, .int p1)]) hx hb dX0_upper_28 hl (by decide) rfl (fun ls hl => ?_)
      refine lv_iload hx hb dX0_upper_30 (lv_at hl 1 rfl) ?_
      refine lv_iconst (v := 4) hx hb dX0_upper_32 (by decide) ?_
      refine lv_irem hx hb dX0_upper_33 (by decide) ?_
      refine gw_topi (y := 2) (by decide) ?_
      refine lv_iconst (v := 3) hx hb dX0_upper_34 (by decide) ?_
      refine lv_icmp_ne (tgt := 42) hx hb dX0_upper_35 (by decide) (fun _ => ?_) (fun c => absurd c (by decide))
      refine lv_iconst (v := 0) hx hb dX0_upper_42 (by decide) ?_
      refine lv_istore (lv' := [(6, .int 0), (5, .int 1), (4, .int 14), (2, .long 0), (0, .ref (q 20)), (1, .int p1)]) hx hb dX0_upper_43 hl (by decide) rfl (fun ls hl => ?_)
      refine lv_iload_n hx hb dX0_upper_45 rfl (lv_at hl 5 rfl) ?_
      refine lv_if_ne (tgt := 57) hx hb dX0_upper_46 (by decide) (fun _ => ?_) (fun c => absurd c c_1)
      refine lv_iload_n hx hb dX0_upper_57 rfl (lv_at hl 5 rfl) ?_
      refine lv_iconst (v := 1) hx hb dX0_upper_58 (by decide) ?_
      refine lv_icmp_ne (tgt := 70) hx hb dX0_upper_59 (by decide) (fun _ => ?_) (fun c => absurd c c_2)
      refine lv_iload hx hb dX0_upper_70 (lv_at hl 1 rfl) ?_
      refine lv_if_eq (tgt := 90) hx hb dX0_upper_72 (by decide) (fun c => absurd c (by decide)) (fun _ => ?_)
      refine lv_iload hx hb dX0_upper_75 (lv_at hl 0 rfl) ?_
      refine lv_if_ne (tgt := 90) hx hb dX0_upper_77 (by decide) (fun c => absurd (by decide) c) (fun _ => ?_)
      refine lv_lload_n hx hb dX0_upper_80 rfl (lv_at hl 3 rfl) ?_
      refine lv_aload_n hx hb dX0_upper_81 rfl (lv_at hl 4 rfl) ?_
      refine va_get (D := G) (ci := 0) (v := .ref (q 21)) (C := RX0) (T := TX0) (N := 4) hx hb hts iX0 hown hK hP 0 rfl rfl 2 (by decide) (hts _ m_226) (fun _ h9 => h9) rfl dX0_upper_82 ?_
      refine lv_iload hx hb dX0_upper_85 (lv_at hl 2 rfl) ?_
      refine gw_lald (x := 0) hx hb hK hP 1 1 14 rfl rfl rfl (by decide) (by decide) rfl dX0_upper_87 ?_
      refine lv_ladd hx hb dX0_upper_88 ?_
      refine gw_topl (y := 0) (by decide) ?_
      refine lv_lstore_n (lv' := [(2, .long 0), (6, .int 0), (5, .int 1), (4, .int 14), (0, .ref (q 20)), (1, .int p1)]) hx hb dX0_upper_89 rfl hl (by decide) rfl (fun ls hl => ?_)
      refine lv_iinc (v := 15) (lv' := [(4, .int 15), (2, .long 0), (6, .int 0), (5, .int 1), (0, .ref (q 20)), (1, .int p1)]) hx hb dX0_upper_90 hl (k := 3) rfl (by decide) (by decide) rfl (fun ls hl => ?_)
      refine lv_goto (tgt := 5) hx hb dX0_upper_93 (by decide) ?_
      refine lv_iload hx hb dX0_upper_5 (lv_at hl 0 rfl) ?_
      refine lv_aload_n hx hb dX0_upper_7 rfl (lv_at hl 4 rfl) ?_
      refine va_get (D := G) (ci := 0) (v := .ref (q 21)) (C := RX0) (T := TX0) (N := 4) hx hb hts iX0 hown hK hP 0 rfl rfl 2 (by decide) (hts _ m_226) (fun _ h9 => h9) rfl dX0_upper_8 ?_
      refine va_alen (D := G) hx hb hK hP 1 1 rfl rfl (v := 16) rfl dX0_upper_11 ?_
      refine lv_icmp_ge (tgt := 96) hx hb dX0_upper_12 (by decide) (fun c => absurd c (by decide)) (fun _ => ?_)
      refine lv_iload hx hb dX0_upper_15 (lv_at hl 0 rfl) ?_
      refine lv_iconst (v := 4) hx hb dX0_upper_17 (by decide) ?_
      refine lv_idiv hx hb dX0_upper_18 (by decide) ?_
      refine gw_topi (y := 3) (by decide) ?_
      refine lv_iconst (v := 3) hx hb dX0_upper_19 (by decide) ?_
      refine lv_icmp_ne (tgt := 27) hx hb dX0_upper_20 (by decide) (fun c => absurd (by decide) c) (fun _ => ?_)
      refine lv_iconst (v := 1) hx hb dX0_upper_23 (by decide) ?_
      refine lv_goto (tgt := 28) hx hb dX0_upper_24 (by decide) ?_
      refine lv_istore (lv' := [(5, .int 1), (4, .int 15), (2, .long 0), (6, .int 0), (0, .ref (q 20)), (1, .int p1)]) hx hb dX0_upper_28 hl (by decide) rfl (fun ls hl => ?_)
      refine lv_iload hx hb dX0_upper_30 (lv_at hl 1 rfl) ?_
      refine lv_iconst (v := 4) hx hb dX0_upper_32 (by decide) ?_
      refine lv_irem hx hb dX0_upper_33 (by decide) ?_
      refine gw_topi (y := 3) (by decide) ?_
      refine lv_iconst (v := 3) hx hb dX0_upper_34 (by decide) ?_
      refine lv_icmp_ne (tgt := 42) hx hb dX0_upper_35 (by decide) (fun c => absurd (by decide) c) (fun _ => ?_)
      refine lv_iconst (v := 1) hx hb dX0_upper_38 (by decide) ?_
      refine lv_goto (tgt := 43) hx hb dX0_upper_39 (by decide) ?_
      refine lv_istore (lv' := [(6, .int 1), (5, .int 1), (4, .int 15), (2, .long 0), (0, .ref (q 20)), (1, .int p1)]) hx hb dX0_upper_43 hl (by decide) rfl (fun ls hl => ?_)
      refine lv_iload_n hx hb dX0_upper_45 rfl (lv_at hl 5 rfl) ?_
      refine lv_if_ne (tgt := 57) hx hb dX0_upper_46 (by decide) (fun _ => ?_) (fun c => absurd c c_1)
      refine lv_iload_n hx hb dX0_upper_57 rfl (lv_at hl 5 rfl) ?_
      refine lv_iconst (v := 1) hx hb dX0_upper_58 (by decide) ?_
      refine lv_icmp_ne (tgt := 70) hx hb dX0_upper_59 (by decide) (fun _ => ?_) (fun c => absurd c c_2)
      refine lv_iload hx hb dX0_upper_70 (lv_at hl 1 rfl) ?_
      refine lv_if_eq (tgt := 90) hx hb dX0_upper_72 (by decide) (fun c => absurd c (by decide)) (fun _ => ?_)
      refine lv_iload hx hb dX0_upper_75 (lv_at hl 0 rfl) ?_
      refine lv_if_ne (tgt := 90) hx hb dX0_upper_77 (by decide) (fun _ => ?_) (fun c => absurd c (by decide))
      refine lv_iinc (v := 16) (lv' := [(4, .int 16), (6, .int 1), (5, .int 1), (2, .long 0), (0, .ref (q 20)), (1, .int p1)]) hx hb dX0_upper_90 hl (k := 2) rfl (by decide) (by decide) rfl (fun ls hl => ?_)
      refine lv_goto (tgt := 5) hx hb dX0_upper_93 (by decide) ?_
      refine lv_iload hx hb dX0_upper_5 (lv_at hl 0 rfl) ?_
      refine lv_aload_n hx hb dX0_upper_7 rfl (lv_at hl 4 rfl) ?_
      refine va_get (D := G) (ci := 0) (v := .ref (q 21)) (C := RX0) (T := TX0) (N := 4) hx hb hts iX0 hown hK hP 0 rfl rfl 2 (by decide) (hts _ m_226) (fun _ h9 => h9) rfl dX0_upper_8 ?_
      refine va_alen (D := G) hx hb hK hP 1 1 rfl rfl (v := 16) rfl dX0_upper_11 ?_
      refine lv_icmp_ge (tgt := 96) hx hb dX0_upper_12 (by decide) (fun _ => ?_) (fun c => absurd (by decide) c)
      refine lv_lload_n hx hb dX0_upper_96 rfl (lv_at hl 3 rfl) ?_
      exact gw_lret () hx hb hr hlocks hP hD hS rfl dX0_upper_97
    · refine lv_iload hx hb dX0_upper_62 (lv_at hl 0 rfl) ?_
      refine lv_if_eq (tgt := 90) hx hb dX0_upper_64 (by decide) (fun _ => ?_) (fun c => absurd (by decide) c)
      refine lv_iinc (v := 1) (lv' := [(4, .int 1), (6, .int 0), (5, .int 0), (2, .long 0), (0, .ref (q 20)), (1, .int p1)]) hx hb dX0_upper_90 hl (k := 2) rfl (by decide) (by decide) rfl (fun ls hl => ?_)
      refine lv_goto (tgt := 5) hx hb dX0_upper_93 (by decide) ?_
      refine lv_iload hx hb dX0_upper_5 (lv_at hl 0 rfl) ?_
      refine lv_aload_n hx hb dX0_upper_7 rfl (lv_at hl 4 rfl) ?_
      refine va_get (D := G) (ci := 0) (v := .ref (q 21)) (C := RX0) (T := TX0) (N := 4) hx hb hts iX0 hown hK hP 0 rfl rfl 2 (by decide) (hts _ m_226) (fun _ h9 => h9) rfl dX0_upper_8 ?_
      refine va_alen (D := G) hx hb hK hP 1 1 rfl rfl (v := 16) rfl dX0_upper_11 ?_
      refine lv_icmp_ge (tgt := 96) hx hb dX0_upper_12 (by decide) (fun c => absurd c (by decide)) (fun _ => ?_)
      refine lv_iload hx hb dX0_upper_15 (lv_at hl 0 rfl) ?_
      refine lv_iconst (v := 4) hx hb dX0_upper_17 (by decide) ?_
      refine lv_idiv hx hb dX0_upper_18 (by decide) ?_
      refine gw_topi (y := 0) (by decide) ?_
      refine lv_iconst (v := 3) hx hb dX0_upper_19 (by decide) ?_
      refine lv_icmp_ne (tgt := 27) hx hb dX0_upper_20 (by decide) (fun _ => ?_) (fun c => absurd c (by decide))
      refine lv_iconst (v := 0) hx hb dX0_upper_27 (by decide) ?_
      refine lv_istore (lv' := [(5, .int 0), (4, .int 1), (6, .int 0), (2, .long 0), (0, .ref (q 20)), (1, .int p1)]) hx hb dX0_upper_28 hl (by decide) rfl (fun ls hl => ?_)
      refine lv_iload hx hb dX0_upper_30 (lv_at hl 1 rfl) ?_
      refine lv_iconst (v := 4) hx hb dX0_upper_32 (by decide) ?_
      refine lv_irem hx hb dX0_upper_33 (by decide) ?_
      refine gw_topi (y := 1) (by decide) ?_
      refine lv_iconst (v := 3) hx hb dX0_upper_34 (by decide) ?_
      refine lv_icmp_ne (tgt := 42) hx hb dX0_upper_35 (by decide) (fun _ => ?_) (fun c => absurd c (by decide))
      refine lv_iconst (v := 0) hx hb dX0_upper_42 (by decide) ?_
      refine lv_istore (lv' := [(6, .int 0), (5, .int 0), (4, .int 1), (2, .long 0), (0, .ref (q 20)), (1, .int p1)]) hx hb dX0_upper_43 hl (by decide) rfl (fun ls hl => ?_)
      refine lv_iload_n hx hb dX0_upper_45 rfl (lv_at hl 5 rfl) ?_
      refine lv_if_ne (tgt := 57) hx hb dX0_upper_46 (by decide) (fun _ => ?_) (fun c => absurd c c_1)
      refine lv_iload_n hx hb dX0_upper_57 rfl (lv_at hl 5 rfl) ?_
      refine lv_iconst (v := 1) hx hb dX0_upper_58 (by decide) ?_
      refine lv_icmp_ne (tgt := 70) hx hb dX0_upper_59 (by decide) (fun c => absurd c_2 c) (fun _ => ?_)
      refine lv_iload hx hb dX0_upper_62 (lv_at hl 0 rfl) ?_
      refine lv_if_eq (tgt := 90) hx hb dX0_upper_64 (by decide) (fun _ => ?_) (fun c => absurd (by decide) c)
      refine lv_iinc (v := 2) (lv' := [(4, .int 2), (6, .int 0), (5, .int 0), (2, .long 0), (0, .ref (q 20)), (1, .int p1)]) hx hb dX0_upper_90 hl (k := 2) rfl (by decide) (by decide) rfl (fun ls hl => ?_)
      refine lv_goto (tgt := 5) hx hb dX0_upper_93 (by decide) ?_
      refine lv_iload hx hb dX0_upper_5 (lv_at hl 0 rfl) ?_
      refine lv_aload_n hx hb dX0_upper_7 rfl (lv_at hl 4 rfl) ?_
      refine va_get (D := G) (ci := 0) (v := .ref (q 21)) (C := RX0) (T := TX0) (N := 4) hx hb hts iX0 hown hK hP 0 rfl rfl 2 (by decide) (hts _ m_226) (fun _ h9 => h9) rfl dX0_upper_8 ?_
      refine va_alen (D := G) hx hb hK hP 1 1 rfl rfl (v := 16) rfl dX0_upper_11 ?_
      refine lv_icmp_ge (tgt := 96) hx hb dX0_upper_12 (by decide) (fun c => absurd c (by decide)) (fun _ => ?_)
      refine lv_iload hx hb dX0_upper_15 (lv_at hl 0 rfl) ?_
      refine lv_iconst (v := 4) hx hb dX0_upper_17 (by decide) ?_
      refine lv_idiv hx hb dX0_upper_18 (by decide) ?_
      refine gw_topi (y := 0) (by decide) ?_
      refine lv_iconst (v := 3) hx hb dX0_upper_19 (by decide) ?_
      refine lv_icmp_ne (tgt := 27) hx hb dX0_upper_20 (by decide) (fun _ => ?_) (fun c => absurd c (by decide))
      refine lv_iconst (v := 0) hx hb dX0_upper_27 (by decide) ?_
      refine lv_istore (lv' := [(5, .int 0), (4, .int 2), (6, .int 0), (2, .long 0), (0, .ref (q 20)), (1, .int p1)]) hx hb dX0_upper_28 hl (by decide) rfl (fun ls hl => ?_)
      refine lv_iload hx hb dX0_upper_30 (lv_at hl 1 rfl) ?_
      refine lv_iconst (v := 4) hx hb dX0_upper_32 (by decide) ?_
      refine lv_irem hx hb dX0_upper_33 (by decide) ?_
      refine gw_topi (y := 2) (by decide) ?_
      refine lv_iconst (v := 3) hx hb dX0_upper_34 (by decide) ?_
      refine lv_icmp_ne (tgt := 42) hx hb dX0_upper_35 (by decide) (fun _ => ?_) (fun c => absurd c (by decide))
      refine lv_iconst (v := 0) hx hb dX0_upper_42 (by decide) ?_
      refine lv_istore (lv' := [(6, .int 0), (5, .int 0), (4, .int 2), (2, .long 0), (0, .ref (q 20)), (1, .int p1)]) hx hb dX0_upper_43 hl (by decide) rfl (fun ls hl => ?_)
      refine lv_iload_n hx hb dX0_upper_45 rfl (lv_at hl 5 rfl) ?_
      refine lv_if_ne (tgt := 57) hx hb dX0_upper_46 (by decide) (fun _ => ?_) (fun c => absurd c c_1)
      refine lv_iload_n hx hb dX0_upper_57 rfl (lv_at hl 5 rfl) ?_
      refine lv_iconst (v := 1) hx hb dX0_upper_58 (by decide) ?_
      refine lv_icmp_ne (tgt := 70) hx hb dX0_upper_59 (by decide) (fun c => absurd c_2 c) (fun _ => ?_)
      refine lv_iload hx hb dX0_upper_62 (lv_at hl 0 rfl) ?_
      refine lv_if_eq (tgt := 90) hx hb dX0_upper_64 (by decide) (fun _ => ?_) (fun c => absurd (by decide) c)
      refine lv_iinc (v := 3) (lv' := [(4, .int 3), (6, .int 0), (5, .int 0), (2, .long 0), (0, .ref (q 20)), (1, .int p1)]) hx hb dX0_upper_90 hl (k := 2) rfl (by decide) (by decide) rfl (fun ls hl => ?_)
      refine lv_goto (tgt := 5) hx hb dX0_upper_93 (by decide) ?_
      refine lv_iload hx hb dX0_upper_5 (lv_at hl 0 rfl) ?_
      refine lv_aload_n hx hb dX0_upper_7 rfl (lv_at hl 4 rfl) ?_
      refine va_get (D := G) (ci := 0) (v := .ref (q 21)) (C := RX0) (T := TX0) (N := 4) hx hb hts iX0 hown hK hP 0 rfl rfl 2 (by decide) (hts _ m_226) (fun _ h9 => h9) rfl dX0_upper_8 ?_
      refine va_alen (D := G) hx hb hK hP 1 1 rfl rfl (v := 16) rfl dX0_upper_11 ?_
      refine lv_icmp_ge (tgt := 96) hx hb dX0_upper_12 (by decide) (fun c => absurd c (by decide)) (fun _ => ?_)
      refine lv_iload hx hb dX0_upper_15 (lv_at hl 0 rfl) ?_
      refine lv_iconst (v := 4) hx hb dX0_upper_17 (by decide) ?_
      refine lv_idiv hx hb dX0_upper_18 (by decide) ?_
      refine gw_topi (y := 0) (by decide) ?_
      refine lv_iconst (v := 3) hx hb dX0_upper_19 (by decide) ?_
      refine lv_icmp_ne (tgt := 27) hx hb dX0_upper_20 (by decide) (fun _ => ?_) (fun c => absurd c (by decide))
      refine lv_iconst (v := 0) hx hb dX0_upper_27 (by decide) ?_
      refine lv_istore (lv' := [(5, .int 0), (4, .int 3), (6, .int 0), (2, .long 0), (0, .ref (q 20)), (1, .int p1)]) hx hb dX0_upper_28 hl (by decide) rfl (fun ls hl => ?_)
      refine lv_iload hx hb dX0_upper_30 (lv_at hl 1 rfl) ?_
      refine lv_iconst (v := 4) hx hb dX0_upper_32 (by decide) ?_
      refine lv_irem hx hb dX0_upper_33 (by decide) ?_
      refine gw_topi (y := 3) (by decide) ?_
      refine lv_iconst (v := 3) hx hb dX0_upper_34 (by decide) ?_
      refine lv_icmp_ne (tgt := 42) hx hb dX0_upper_35 (by decide) (fun c => absurd (by decide) c) (fun _ => ?_)
      refine lv_iconst (v := 1) hx hb dX0_upper_38 (by decide) ?_
      refine lv_goto (tgt := 43) hx hb dX0_upper_39 (by decide) ?_
      refine lv_istore (lv' := [(6, .int 1), (5, .int 0), (4, .int 3), (2, .long 0), (0, .ref (q 20)), (1, .int p1)]) hx hb dX0_upper_43 hl (by decide) rfl (fun ls hl => ?_)
      refine lv_iload_n hx hb dX0_upper_45 rfl (lv_at hl 5 rfl) ?_
      refine lv_if_ne (tgt := 57) hx hb dX0_upper_46 (by decide) (fun _ => ?_) (fun c => absurd c c_1)
      refine lv_iload_n hx hb dX0_upper_57 rfl (lv_at hl 5 rfl) ?_
      refine lv_iconst (v := 1) hx hb dX0_upper_58 (by decide) ?_
      refine lv_icmp_ne (tgt := 70) hx hb dX0_upper_59 (by decide) (fun c => absurd c_2 c) (fun _ => ?_)
      refine lv_iload hx hb dX0_upper_62 (lv_at hl 0 rfl) ?_
      refine lv_if_eq (tgt := 90) hx hb dX0_upper_64 (by decide) (fun c => absurd c (by decide)) (fun _ => ?_)
      refine lv_goto (tgt := 80) hx hb dX0_upper_67 (by decide) ?_
      refine lv_lload_n hx hb dX0_upper_80 rfl (lv_at hl 3 rfl) ?_
      refine lv_aload_n hx hb dX0_upper_81 rfl (lv_at hl 4 rfl) ?_
      refine va_get (D := G) (ci := 0) (v := .ref (q 21)) (C := RX0) (T := TX0) (N := 4) hx hb hts iX0 hown hK hP 0 rfl rfl 2 (by decide) (hts _ m_226) (fun _ h9 => h9) rfl dX0_upper_82 ?_
      refine lv_iload hx hb dX0_upper_85 (lv_at hl 2 rfl) ?_
      refine gw_lald (x := 0) hx hb hK hP 1 1 3 rfl rfl rfl (by decide) (by decide) rfl dX0_upper_87 ?_
      refine lv_ladd hx hb dX0_upper_88 ?_
      refine gw_topl (y := 0) (by decide) ?_
      refine lv_lstore_n (lv' := [(2, .long 0), (6, .int 1), (5, .int 0), (4, .int 3), (0, .ref (q 20)), (1, .int p1)]) hx hb dX0_upper_89 rfl hl (by decide) rfl (fun ls hl => ?_)
      refine lv_iinc (v := 4) (lv' := [(4, .int 4), (2, .long 0), (6, .int 1), (5, .int 0), (0, .ref (q 20)), (1, .int p1)]) hx hb dX0_upper_90 hl (k := 3) rfl (by decide) (by decide) rfl (fun ls hl => ?_)
      refine lv_goto (tgt := 5) hx hb dX0_upper_93 (by decide) ?_
      refine lv_iload hx hb dX0_upper_5 (lv_at hl 0 rfl) ?_
      refine lv_aload_n hx hb dX0_upper_7 rfl (lv_at hl 4 rfl) ?_
      refine va_get (D := G) (ci := 0) (v := .ref (q 21)) (C := RX0) (T := TX0) (N := 4) hx hb hts iX0 hown hK hP 0 rfl rfl 2 (by decide) (hts _ m_226) (fun _ h9 => h9) rfl dX0_upper_8 ?_
      refine va_alen (D := G) hx hb hK hP 1 1 rfl rfl (v := 16) rfl dX0_upper_11 ?_
      refine lv_icmp_ge (tgt := 96) hx hb dX0_upper_12 (by decide) (fun c => absurd c (by decide)) (fun _ => ?_)
      refine lv_iload hx hb dX0_upper_15 (lv_at hl 0 rfl) ?_
      refine lv_iconst (v := 4) hx hb dX0_upper_17 (by decide) ?_
      refine lv_idiv hx hb dX0_upper_18 (by decide) ?_
      refine gw_topi (y := 1) (by decide) ?_
      refine lv_iconst (v := 3) hx hb dX0_upper_19 (by decide) ?_
      refine lv_icmp_ne (tgt := 27) hx hb dX0_upper_20 (by decide) (fun _ => ?_) (fun c => absurd c (by decide))
      refine lv_iconst (v := 0) hx hb dX0_upper_27 (by decide) ?_
      refine lv_istore (lv' := [(5, .int 0), (4, .int 4), (2, .long 0), (6, .int 1), (0, .ref (q 20)), (1, .int p1)]) hx hb dX0_upper_28 hl (by decide) rfl (fun ls hl => ?_)
      refine lv_iload hx hb dX0_upper_30 (lv_at hl 1 rfl) ?_
      refine lv_iconst (v := 4) hx hb dX0_upper_32 (by decide) ?_
      refine lv_irem hx hb dX0_upper_33 (by decide) ?_
      refine gw_topi (y := 0) (by decide) ?_
      refine lv_iconst (v := 3) hx hb dX0_upper_34 (by decide) ?_
      refine lv_icmp_ne (tgt := 42) hx hb dX0_upper_35 (by decide) (fun _ => ?_) (fun c => absurd c (by decide))
      refine lv_iconst (v := 0) hx hb dX0_upper_42 (by decide) ?_
      refine lv_istore (lv' := [(6, .int 0), (5, .int 0), (4, .int 4), (2, .long 0), (0, .ref (q 20)), (1, .int p1)]) hx hb dX0_upper_43 hl (by decide) rfl (fun ls hl => ?_)
      refine lv_iload_n hx hb dX0_upper_45 rfl (lv_at hl 5 rfl) ?_
      refine lv_if_ne (tgt := 57) hx hb dX0_upper_46 (by decide) (fun _ => ?_) (fun c => absurd c c_1)
      refine lv_iload_n hx hb dX0_upper_57 rfl (lv_at hl 5 rfl) ?_
      refine lv_iconst (v := 1) hx hb dX0_upper_58 (by decide) ?_
      refine lv_icmp_ne (tgt := 70) hx hb dX0_upper_59 (by decide) (fun c => absurd c_2 c) (fun _ => ?_)
      refine lv_iload hx hb dX0_upper_62 (lv_at hl 0 rfl) ?_
      refine lv_if_eq (tgt := 90) hx hb dX0_upper_64 (by decide) (fun _ => ?_) (fun c => absurd (by decide) c)
      refine lv_iinc (v := 5) (lv' := [(4, .int 5), (6, .int 0), (5, .int 0), (2, .long 0), (0, .ref (q 20)), (1, .int p1)]) hx hb dX0_upper_90 hl (k := 2) rfl (by decide) (by decide) rfl (fun ls hl => ?_)
      refine lv_goto (tgt := 5) hx hb dX0_upper_93 (by decide) ?_
      refine lv_iload hx hb dX0_upper_5 (lv_at hl 0 rfl) ?_
      refine lv_aload_n hx hb dX0_upper_7 rfl (lv_at hl 4 rfl) ?_
      refine va_get (D := G) (ci := 0) (v := .ref (q 21)) (C := RX0) (T := TX0) (N := 4) hx hb hts iX0 hown hK hP 0 rfl rfl 2 (by decide) (hts _ m_226) (fun _ h9 => h9) rfl dX0_upper_8 ?_
      refine va_alen (D := G) hx hb hK hP 1 1 rfl rfl (v := 16) rfl dX0_upper_11 ?_
      refine lv_icmp_ge (tgt := 96) hx hb dX0_upper_12 (by decide) (fun c => absurd c (by decide)) (fun _ => ?_)
      refine lv_iload hx hb dX0_upper_15 (lv_at hl 0 rfl) ?_
      refine lv_iconst (v := 4) hx hb dX0_upper_17 (by decide) ?_
      refine lv_idiv hx hb dX0_upper_18 (by decide) ?_
      refine gw_topi (y := 1) (by decide) ?_
      refine lv_iconst (v := 3) hx hb dX0_upper_19 (by decide) ?_
      refine lv_icmp_ne (tgt := 27) hx hb dX0_upper_20 (by decide) (fun _ => ?_) (fun c => absurd c (by decide))
      refine lv_iconst (v := 0) hx hb dX0_upper_27 (by decide) ?_
      refine lv_istore (lv' := [(5, .int 0), (4, .int 5), (6, .int 0), (2, .long 0), (0, .ref (q 20)), (1, .int p1)]) hx hb dX0_upper_28 hl (by decide) rfl (fun ls hl => ?_)
      refine lv_iload hx hb dX0_upper_30 (lv_at hl 1 rfl) ?_
      refine lv_iconst (v := 4) hx hb dX0_upper_32 (by decide) ?_
      refine lv_irem hx hb dX0_upper_33 (by decide) ?_
      refine gw_topi (y := 1) (by decide) ?_
      refine lv_iconst (v := 3) hx hb dX0_upper_34 (by decide) ?_
      refine lv_icmp_ne (tgt := 42) hx hb dX0_upper_35 (by decide) (fun _ => ?_) (fun c => absurd c (by decide))
      refine lv_iconst (v := 0) hx hb dX0_upper_42 (by decide) ?_
      refine lv_istore (lv' := [(6, .int 0), (5, .int 0), (4, .int 5), (2, .long 0), (0, .ref (q 20)), (1, .int p1)]) hx hb dX0_upper_43 hl (by decide) rfl (fun ls hl => ?_)
      refine lv_iload_n hx hb dX0_upper_45 rfl (lv_at hl 5 rfl) ?_
      refine lv_if_ne (tgt := 57) hx hb dX0_upper_46 (by decide) (fun _ => ?_) (fun c => absurd c c_1)
      refine lv_iload_n hx hb dX0_upper_57 rfl (lv_at hl 5 rfl) ?_
      refine lv_iconst (v := 1) hx hb dX0_upper_58 (by decide) ?_
      refine lv_icmp_ne (tgt := 70) hx hb dX0_upper_59 (by decide) (fun c => absurd c_2 c) (fun _ => ?_)
      refine lv_iload hx hb dX0_upper_62 (lv_at hl 0 rfl) ?_
      refine lv_if_eq (tgt := 90) hx hb dX0_upper_64 (by decide) (fun _ => ?_) (fun c => absurd (by decide) c)
      refine lv_iinc (v := 6) (lv' := [(4, .int 6), (6, .int 0), (5, .int 0), (2, .long 0), (0, .ref (q 20)), (1, .int p1)]) hx hb dX0_upper_90 hl (k := 2) rfl (by decide) (by decide) rfl (fun ls hl => ?_)
      refine lv_goto (tgt := 5) hx hb dX0_upper_93 (by decide) ?_
      refine lv_iload hx hb dX0_upper_5 (lv_at hl 0 rfl) ?_
      refine lv_aload_n hx hb dX0_upper_7 rfl (lv_at hl 4 rfl) ?_
      refine va_get (D := G) (ci := 0) (v := .ref (q 21)) (C := RX0) (T := TX0) (N := 4) hx hb hts iX0 hown hK hP 0 rfl rfl 2 (by decide) (hts _ m_226) (fun _ h9 => h9) rfl dX0_upper_8 ?_
      refine va_alen (D := G) hx hb hK hP 1 1 rfl rfl (v := 16) rfl dX0_upper_11 ?_
      refine lv_icmp_ge (tgt := 96) hx hb dX0_upper_12 (by decide) (fun c => absurd c (by decide)) (fun _ => ?_)
      refine lv_iload hx hb dX0_upper_15 (lv_at hl 0 rfl) ?_
      refine lv_iconst (v := 4) hx hb dX0_upper_17 (by decide) ?_
      refine lv_idiv hx hb dX0_upper_18 (by decide) ?_
      refine gw_topi (y := 1) (by decide) ?_
      refine lv_iconst (v := 3) hx hb dX0_upper_19 (by decide) ?_
      refine lv_icmp_ne (tgt := 27) hx hb dX0_upper_20 (by decide) (fun _ => ?_) (fun c => absurd c (by decide))
      refine lv_iconst (v := 0) hx hb dX0_upper_27 (by decide) ?_
      refine lv_istore (lv' := [(5, .int 0), (4, .int 6), (6, .int 0), (2, .long 0), (0, .ref (q 20)), (1, .int p1)]) hx hb dX0_upper_28 hl (by decide) rfl (fun ls hl => ?_)
      refine lv_iload hx hb dX0_upper_30 (lv_at hl 1 rfl) ?_
      refine lv_iconst (v := 4) hx hb dX0_upper_32 (by decide) ?_
      refine lv_irem hx hb dX0_upper_33 (by decide) ?_
      refine gw_topi (y := 2) (by decide) ?_
      refine lv_iconst (v := 3) hx hb dX0_upper_34 (by decide) ?_
      refine lv_icmp_ne (tgt := 42) hx hb dX0_upper_35 (by decide) (fun _ => ?_) (fun c => absurd c (by decide))
      refine lv_iconst (v := 0) hx hb dX0_upper_42 (by decide) ?_
      refine lv_istore (lv' := [(6, .int 0), (5, .int 0), (4, .int 6), (2, .long 0), (0, .ref (q 20)), (1, .int p1)]) hx hb dX0_upper_43 hl (by decide) rfl (fun ls hl => ?_)
      refine lv_iload_n hx hb dX0_upper_45 rfl (lv_at hl 5 rfl) ?_
      refine lv_if_ne (tgt := 57) hx hb dX0_upper_46 (by decide) (fun _ => ?_) (fun c => absurd c c_1)
      refine lv_iload_n hx hb dX0_upper_57 rfl (lv_at hl 5 rfl) ?_
      refine lv_iconst (v := 1) hx hb dX0_upper_58 (by decide) ?_
      refine lv_icmp_ne (tgt := 70) hx hb dX0_upper_59 (by decide) (fun c => absurd c_2 c) (fun _ => ?_)
      refine lv_iload hx hb dX0_upper_62 (lv_at hl 0 rfl) ?_
      refine lv_if_eq (tgt := 90) hx hb dX0_upper_64 (by decide) (fun _ => ?_) (fun c => absurd (by decide) c)
      refine lv_iinc (v := 7) (lv' := [(4, .int 7), (6, .int 0), (5, .int 0), (2, .long 0), (0, .ref (q 20)), (1, .int p1)]) hx hb dX0_upper_90 hl (k := 2) rfl (by decide) (by decide) rfl (fun ls hl => ?_)
      refine lv_goto (tgt := 5) hx hb dX0_upper_93 (by decide) ?_
      refine lv_iload hx hb dX0_upper_5 (lv_at hl 0 rfl) ?_
      refine lv_aload_n hx hb dX0_upper_7 rfl (lv_at hl 4 rfl) ?_
      refine va_get (D := G) (ci := 0) (v := .ref (q 21)) (C := RX0) (T := TX0) (N := 4) hx hb hts iX0 hown hK hP 0 rfl rfl 2 (by decide) (hts _ m_226) (fun _ h9 => h9) rfl dX0_upper_8 ?_
      refine va_alen (D := G) hx hb hK hP 1 1 rfl rfl (v := 16) rfl dX0_upper_11 ?_
      refine lv_icmp_ge (tgt := 96) hx hb dX0_upper_12 (by decide) (fun c => absurd c (by decide)) (fun _ => ?_)
      refine lv_iload hx hb dX0_upper_15 (lv_at hl 0 rfl) ?_
      refine lv_iconst (v := 4) hx hb dX0_upper_17 (by decide) ?_
      refine lv_idiv hx hb dX0_upper_18 (by decide) ?_
      refine gw_topi (y := 1) (by decide) ?_
      refine lv_iconst (v := 3) hx hb dX0_upper_19 (by decide) ?_
      refine lv_icmp_ne (tgt := 27) hx hb dX0_upper_20 (by decide) (fun _ => ?_) (fun c => absurd c (by decide))
      refine lv_iconst (v := 0) hx hb dX0_upper_27 (by decide) ?_
      refine lv_istore (lv' := [(5, .int 0), (4, .int 7), (6, .int 0), (2, .long 0), (0, .ref (q 20)), (1, .int p1)]) hx hb dX0_upper_28 hl (by decide) rfl (fun ls hl => ?_)
      refine lv_iload hx hb dX0_upper_30 (lv_at hl 1 rfl) ?_
      refine lv_iconst (v := 4) hx hb dX0_upper_32 (by decide) ?_
      refine lv_irem hx hb dX0_upper_33 (by decide) ?_
      refine gw_topi (y := 3) (by decide) ?_
      refine lv_iconst (v := 3) hx hb dX0_upper_34 (by decide) ?_
      refine lv_icmp_ne (tgt := 42) hx hb dX0_upper_35 (by decide) (fun c => absurd (by decide) c) (fun _ => ?_)
      refine lv_iconst (v := 1) hx hb dX0_upper_38 (by decide) ?_
      refine lv_goto (tgt := 43) hx hb dX0_upper_39 (by decide) ?_
      refine lv_istore (lv' := [(6, .int 1), (5, .int 0), (4, .int 7), (2, .long 0), (0, .ref (q 20)), (1, .int p1)]) hx hb dX0_upper_43 hl (by decide) rfl (fun ls hl => ?_)
      refine lv_iload_n hx hb dX0_upper_45 rfl (lv_at hl 5 rfl) ?_
      refine lv_if_ne (tgt := 57) hx hb dX0_upper_46 (by decide) (fun _ => ?_) (fun c => absurd c c_1)
      refine lv_iload_n hx hb dX0_upper_57 rfl (lv_at hl 5 rfl) ?_
      refine lv_iconst (v := 1) hx hb dX0_upper_58 (by decide) ?_
      refine lv_icmp_ne (tgt := 70) hx hb dX0_upper_59 (by decide) (fun c => absurd c_2 c) (fun _ => ?_)
      refine lv_iload hx hb dX0_upper_62 (lv_at hl 0 rfl) ?_
      refine lv_if_eq (tgt := 90) hx hb dX0_upper_64 (by decide) (fun c => absurd c (by decide)) (fun _ => ?_)
      refine lv_goto (tgt := 80) hx hb dX0_upper_67 (by decide) ?_
      refine lv_lload_n hx hb dX0_upper_80 rfl (lv_at hl 3 rfl) ?_
      refine lv_aload_n hx hb dX0_upper_81 rfl (lv_at hl 4 rfl) ?_
      refine va_get (D := G) (ci := 0) (v := .ref (q 21)) (C := RX0) (T := TX0) (N := 4) hx hb hts iX0 hown hK hP 0 rfl rfl 2 (by decide) (hts _ m_226) (fun _ h9 => h9) rfl dX0_upper_82 ?_
      refine lv_iload hx hb dX0_upper_85 (lv_at hl 2 rfl) ?_
      refine gw_lald (x := 0) hx hb hK hP 1 1 7 rfl rfl rfl (by decide) (by decide) rfl dX0_upper_87 ?_
      refine lv_ladd hx hb dX0_upper_88 ?_
      refine gw_topl (y := 0) (by decide) ?_
      refine lv_lstore_n (lv' := [(2, .long 0), (6, .int 1), (5, .int 0), (4, .int 7), (0, .ref (q 20)), (1, .int p1)]) hx hb dX0_upper_89 rfl hl (by decide) rfl (fun ls hl => ?_)
      refine lv_iinc (v := 8) (lv' := [(4, .int 8), (2, .long 0), (6, .int 1), (5, .int 0), (0, .ref (q 20)), (1, .int p1)]) hx hb dX0_upper_90 hl (k := 3) rfl (by decide) (by decide) rfl (fun ls hl => ?_)
      refine lv_goto (tgt := 5) hx hb dX0_upper_93 (by decide) ?_
      refine lv_iload hx hb dX0_upper_5 (lv_at hl 0 rfl) ?_
      refine lv_aload_n hx hb dX0_upper_7 rfl (lv_at hl 4 rfl) ?_
      refine va_get (D := G) (ci := 0) (v := .ref (q 21)) (C := RX0) (T := TX0) (N := 4) hx hb hts iX0 hown hK hP 0 rfl rfl 2 (by decide) (hts _ m_226) (fun _ h9 => h9) rfl dX0_upper_8 ?_
      refine va_alen (D := G) hx hb hK hP 1 1 rfl rfl (v := 16) rfl dX0_upper_11 ?_
      refine lv_icmp_ge (tgt := 96) hx hb dX0_upper_12 (by decide) (fun c => absurd c (by decide)) (fun _ => ?_)
      refine lv_iload hx hb dX0_upper_15 (lv_at hl 0 rfl) ?_
      refine lv_iconst (v := 4) hx hb dX0_upper_17 (by decide) ?_
      refine lv_idiv hx hb dX0_upper_18 (by decide) ?_
      refine gw_topi (y := 2) (by decide) ?_
      refine lv_iconst (v := 3) hx hb dX0_upper_19 (by decide) ?_
      refine lv_icmp_ne (tgt := 27) hx hb dX0_upper_20 (by decide) (fun _ => ?_) (fun c => absurd c (by decide))
      refine lv_iconst (v := 0) hx hb dX0_upper_27 (by decide) ?_
      refine lv_istore (lv' := [(5, .int 0), (4, .int 8), (2, .long 0), (6, .int 1), (0, .ref (q 20)), (1, .int p1)]) hx hb dX0_upper_28 hl (by decide) rfl (fun ls hl => ?_)
      refine lv_iload hx hb dX0_upper_30 (lv_at hl 1 rfl) ?_
      refine lv_iconst (v := 4) hx hb dX0_upper_32 (by decide) ?_
      refine lv_irem hx hb dX0_upper_33 (by decide) ?_
      refine gw_topi (y := 0) (by decide) ?_
      refine lv_iconst (v := 3) hx hb dX0_upper_34 (by decide) ?_
      refine lv_icmp_ne (tgt := 42) hx hb dX0_upper_35 (by decide) (fun _ => ?_) (fun c => absurd c (by decide))
      refine lv_iconst (v := 0) hx hb dX0_upper_42 (by decide) ?_
      refine lv_istore (lv' := [(6, .int 0), (5, .int 0), (4, .int 8), (2, .long 0), (0, .ref (q 20)), (1, .int p1)]) hx hb dX0_upper_43 hl (by decide) rfl (fun ls hl => ?_)
      refine lv_iload_n hx hb dX0_upper_45 rfl (lv_at hl 5 rfl) ?_
      refine lv_if_ne (tgt := 57) hx hb dX0_upper_46 (by decide) (fun _ => ?_) (fun c => absurd c c_1)
      refine lv_iload_n hx hb dX0_upper_57 rfl (lv_at hl 5 rfl) ?_
      refine lv_iconst (v := 1) hx hb dX0_upper_58 (by decide) ?_
      refine lv_icmp_ne (tgt := 70) hx hb dX0_upper_59 (by decide) (fun c => absurd c_2 c) (fun _ => ?_)
      refine lv_iload hx hb dX0_upper_62 (lv_at hl 0 rfl) ?_
      refine lv_if_eq (tgt := 90) hx hb dX0_upper_64 (by decide) (fun _ => ?_) (fun c => absurd (by decide) c)
      refine lv_iinc (v := 9) (lv' := [(4, .int 9), (6, .int 0), (5, .int 0), (2, .long 0), (0, .ref (q 20)), (1, .int p1)]) hx hb dX0_upper_90 hl (k := 2) rfl (by decide) (by decide) rfl (fun ls hl => ?_)
      refine lv_goto (tgt := 5) hx hb dX0_upper_93 (by decide) ?_
      refine lv_iload hx hb dX0_upper_5 (lv_at hl 0 rfl) ?_
      refine lv_aload_n hx hb dX0_upper_7 rfl (lv_at hl 4 rfl) ?_
      refine va_get (D := G) (ci := 0) (v := .ref (q 21)) (C := RX0) (T := TX0) (N := 4) hx hb hts iX0 hown hK hP 0 rfl rfl 2 (by decide) (hts _ m_226) (fun _ h9 => h9) rfl dX0_upper_8 ?_
      refine va_alen (D := G) hx hb hK hP 1 1 rfl rfl (v := 16) rfl dX0_upper_11 ?_
      refine lv_icmp_ge (tgt := 96) hx hb dX0_upper_12 (by decide) (fun c => absurd c (by decide)) (fun _ => ?_)
      refine lv_iload hx hb dX0_upper_15 (lv_at hl 0 rfl) ?_
      refine lv_iconst (v := 4) hx hb dX0_upper_17 (by decide) ?_
      refine lv_idiv hx hb dX0_upper_18 (by decide) ?_
      refine gw_topi (y := 2) (by decide) ?_
      refine lv_iconst (v := 3) hx hb dX0_upper_19 (by decide) ?_
      refine lv_icmp_ne (tgt := 27) hx hb dX0_upper_20 (by decide) (fun _ => ?_) (fun c => absurd c (by decide))
      refine lv_iconst (v := 0) hx hb dX0_upper_27 (by decide) ?_
      refine lv_istore (lv' := [(5, .int 0), (4, .int 9), (6, .int 0), (2, .long 0), (0, .ref (q 20)), (1, .int p1)]) hx hb dX0_upper_28 hl (by decide) rfl (fun ls hl => ?_)
      refine lv_iload hx hb dX0_upper_30 (lv_at hl 1 rfl) ?_
      refine lv_iconst (v := 4) hx hb dX0_upper_32 (by decide) ?_
      refine lv_irem hx hb dX0_upper_33 (by decide) ?_
      refine gw_topi (y := 1) (by decide) ?_
      refine lv_iconst (v := 3) hx hb dX0_upper_34 (by decide) ?_
      refine lv_icmp_ne (tgt := 42) hx hb dX0_upper_35 (by decide) (fun _ => ?_) (fun c => absurd c (by decide))
      refine lv_iconst (v := 0) hx hb dX0_upper_42 (by decide) ?_
      refine lv_istore (lv' := [(6, .int 0), (5, .int 0), (4, .int 9), (2, .long 0), (0, .ref (q 20)), (1, .int p1)]) hx hb dX0_upper_43 hl (by decide) rfl (fun ls hl => ?_)
      refine lv_iload_n hx hb dX0_upper_45 rfl (lv_at hl 5 rfl) ?_
      refine lv_if_ne (tgt := 57) hx hb dX0_upper_46 (by decide) (fun _ => ?_) (fun c => absurd c c_1)
      refine lv_iload_n hx hb dX0_upper_57 rfl (lv_at hl 5 rfl) ?_
      refine lv_iconst (v := 1) hx hb dX0_upper_58 (by decide) ?_
      refine lv_icmp_ne (tgt := 70) hx hb dX0_upper_59 (by decide) (fun c => absurd c_2 c) (fun _ => ?_)
      refine lv_iload hx hb dX0_upper_62 (lv_at hl 0 rfl) ?_
      refine lv_if_eq (tgt := 90) hx hb dX0_upper_64 (by decide) (fun _ => ?_) (fun c => absurd (by decide) c)
      refine lv_iinc (v := 10) (lv' := [(4, .int 10), (6, .int 0), (5, .int 0), (2, .long 0), (0, .ref (q 20)), (1, .int p1)]) hx hb dX0_upper_90 hl (k := 2) rfl (by decide) (by decide) rfl (fun ls hl => ?_)
      refine lv_goto (tgt := 5) hx hb dX0_upper_93 (by decide) ?_
      refine lv_iload hx hb dX0_upper_5 (lv_at hl 0 rfl) ?_
      refine lv_aload_n hx hb dX0_upper_7 rfl (lv_at hl 4 rfl) ?_
      refine va_get (D := G) (ci := 0) (v := .ref (q 21)) (C := RX0) (T := TX0) (N := 4) hx hb hts iX0 hown hK hP 0 rfl rfl 2 (by decide) (hts _ m_226) (fun _ h9 => h9) rfl dX0_upper_8 ?_
      refine va_alen (D := G) hx hb hK hP 1 1 rfl rfl (v := 16) rfl dX0_upper_11 ?_
      refine lv_icmp_ge (tgt := 96) hx hb dX0_upper_12 (by decide) (fun c => absurd c (by decide)) (fun _ => ?_)
      refine lv_iload hx hb dX0_upper_15 (lv_at hl 0 rfl) ?_
      refine lv_iconst (v := 4) hx hb dX0_upper_17 (by decide) ?_
      refine lv_idiv hx hb dX0_upper_18 (by decide) ?_
      refine gw_topi (y := 2) (by decide) ?_
      refine lv_iconst (v := 3) hx hb dX0_upper_19 (by decide) ?_
      refine lv_icmp_ne (tgt := 27) hx hb dX0_upper_20 (by decide) (fun _ => ?_) (fun c => absurd c (by decide))
      refine lv_iconst (v := 0) hx hb dX0_upper_27 (by decide) ?_
      refine lv_istore (lv' := [(5, .int 0), (4, .int 10), (6, .int 0), (2, .long 0), (0, .ref (q 20)), (1, .int p1)]) hx hb dX0_upper_28 hl (by decide) rfl (fun ls hl => ?_)
      refine lv_iload hx hb dX0_upper_30 (lv_at hl 1 rfl) ?_
      refine lv_iconst (v := 4) hx hb dX0_upper_32 (by decide) ?_
      refine lv_irem hx hb dX0_upper_33 (by decide) ?_
      refine gw_topi (y := 2) (by decide) ?_
      refine lv_iconst (v := 3) hx hb dX0_upper_34 (by decide) ?_
      refine lv_icmp_ne (tgt := 42) hx hb dX0_upper_35 (by decide) (fun _ => ?_) (fun c => absurd c (by decide))
      refine lv_iconst (v := 0) hx hb dX0_upper_42 (by decide) ?_
      refine lv_istore (lv' := [(6, .int 0), (5, .int 0), (4, .int 10), (2, .long 0), (0, .ref (q 20)), (1, .int p1)]) hx hb dX0_upper_43 hl (by decide) rfl (fun ls hl => ?_)
      refine lv_iload_n hx hb dX0_upper_45 rfl (lv_at hl 5 rfl) ?_
      refine lv_if_ne (tgt := 57) hx hb dX0_upper_46 (by decide) (fun _ => ?_) (fun c => absurd c c_1)
      refine lv_iload_n hx hb dX0_upper_57 rfl (lv_at hl 5 rfl) ?_
      refine lv_iconst (v := 1) hx hb dX0_upper_58 (by decide) ?_
      refine lv_icmp_ne (tgt := 70) hx hb dX0_upper_59 (by decide) (fun c => absurd c_2 c) (fun _ => ?_)
      refine lv_iload hx hb dX0_upper_62 (lv_at hl 0 rfl) ?_
      refine lv_if_eq (tgt := 90) hx hb dX0_upper_64 (by decide) (fun _ => ?_) (fun c => absurd (by decide) c)
      refine lv_iinc (v := 11) (lv' := [(4, .int 11), (6, .int 0), (5, .int 0), (2, .long 0), (0, .ref (q 20)), (1, .int p1)]) hx hb dX0_upper_90 hl (k := 2) rfl (by decide) (by decide) rfl (fun ls hl => ?_)
      refine lv_goto (tgt := 5) hx hb dX0_upper_93 (by decide) ?_
      refine lv_iload hx hb dX0_upper_5 (lv_at hl 0 rfl) ?_
      refine lv_aload_n hx hb dX0_upper_7 rfl (lv_at hl 4 rfl) ?_
      refine va_get (D := G) (ci := 0) (v := .ref (q 21)) (C := RX0) (T := TX0) (N := 4) hx hb hts iX0 hown hK hP 0 rfl rfl 2 (by decide) (hts _ m_226) (fun _ h9 => h9) rfl dX0_upper_8 ?_
      refine va_alen (D := G) hx hb hK hP 1 1 rfl rfl (v := 16) rfl dX0_upper_11 ?_
      refine lv_icmp_ge (tgt := 96) hx hb dX0_upper_12 (by decide) (fun c => absurd c (by decide)) (fun _ => ?_)
      refine lv_iload hx hb dX0_upper_15 (lv_at hl 0 rfl) ?_
      refine lv_iconst (v := 4) hx hb dX0_upper_17 (by decide) ?_
      refine lv_idiv hx hb dX0_upper_18 (by decide) ?_
      refine gw_topi (y := 2) (by decide) ?_
      refine lv_iconst (v := 3) hx hb dX0_upper_19 (by decide) ?_
      refine lv_icmp_ne (tgt := 27) hx hb dX0_upper_20 (by decide) (fun _ => ?_) (fun c => absurd c (by decide))
      refine lv_iconst (v := 0) hx hb dX0_upper_27 (by decide) ?_
      refine lv_istore (lv' := [(5, .int 0), (4, .int 11), (6, .int 0), (2, .long 0), (0, .ref (q 20)), (1, .int p1)]) hx hb dX0_upper_28 hl (by decide) rfl (fun ls hl => ?_)
      refine lv_iload hx hb dX0_upper_30 (lv_at hl 1 rfl) ?_
      refine lv_iconst (v := 4) hx hb dX0_upper_32 (by decide) ?_
      refine lv_irem hx hb dX0_upper_33 (by decide) ?_
      refine gw_topi (y := 3) (by decide) ?_
      refine lv_iconst (v := 3) hx hb dX0_upper_34 (by decide) ?_
      refine lv_icmp_ne (tgt := 42) hx hb dX0_upper_35 (by decide) (fun c => absurd (by decide) c) (fun _ => ?_)
      refine lv_iconst (v := 1) hx hb dX0_upper_38 (by decide) ?_
      refine lv_goto (tgt := 43) hx hb dX0_upper_39 (by decide) ?_
      refine lv_istore (lv' := [(6, .int 1), (5, .int 0), (4, .int 11), (2, .long 0), (0, .ref (q 20)), (1, .int p1)]) hx hb dX0_upper_43 hl (by decide) rfl (fun ls hl => ?_)
      refine lv_iload_n hx hb dX0_upper_45 rfl (lv_at hl 5 rfl) ?_
      refine lv_if_ne (tgt := 57) hx hb dX0_upper_46 (by decide) (fun _ => ?_) (fun c => absurd c c_1)
      refine lv_iload_n hx hb dX0_upper_57 rfl (lv_at hl 5 rfl) ?_
      refine lv_iconst (v := 1) hx hb dX0_upper_58 (by decide) ?_
      refine lv_icmp_ne (tgt := 70) hx hb dX0_upper_59 (by decide) (fun c => absurd c_2 c) (fun _ => ?_)
      refine lv_iload hx hb dX0_upper_62 (lv_at hl 0 rfl) ?_
      refine lv_if_eq (tgt := 90) hx hb dX0_upper_64 (by decide) (fun c => absurd c (by decide)) (fun _ => ?_)
      refine lv_goto (tgt := 80) hx hb dX0_upper_67 (by decide) ?_
      refine lv_lload_n hx hb dX0_upper_80 rfl (lv_at hl 3 rfl) ?_
      refine lv_aload_n hx hb dX0_upper_81 rfl (lv_at hl 4 rfl) ?_
      refine va_get (D := G) (ci := 0) (v := .ref (q 21)) (C := RX0) (T := TX0) (N := 4) hx hb hts iX0 hown hK hP 0 rfl rfl 2 (by decide) (hts _ m_226) (fun _ h9 => h9) rfl dX0_upper_82 ?_
      refine lv_iload hx hb dX0_upper_85 (lv_at hl 2 rfl) ?_
      refine gw_lald (x := 0) hx hb hK hP 1 1 11 rfl rfl rfl (by decide) (by decide) rfl dX0_upper_87 ?_
      refine lv_ladd hx hb dX0_upper_88 ?_
      refine gw_topl (y := 0) (by decide) ?_
      refine lv_lstore_n (lv' := [(2, .long 0), (6, .int 1), (5, .int 0), (4, .int 11), (0, .ref (q 20)), (1, .int p1)]) hx hb dX0_upper_89 rfl hl (by decide) rfl (fun ls hl => ?_)
      refine lv_iinc (v := 12) (lv' := [(4, .int 12), (2, .long 0), (6, .int 1), (5, .int 0), (0, .ref (q 20)), (1, .int p1)]) hx hb dX0_upper_90 hl (k := 3) rfl (by decide) (by decide) rfl (fun ls hl => ?_)
      refine lv_goto (tgt := 5) hx hb dX0_upper_93 (by decide) ?_
      refine lv_iload hx hb dX0_upper_5 (lv_at hl 0 rfl) ?_
      refine lv_aload_n hx hb dX0_upper_7 rfl (lv_at hl 4 rfl) ?_
      refine va_get (D := G) (ci := 0) (v := .ref (q 21)) (C := RX0) (T := TX0) (N := 4) hx hb hts iX0 hown hK hP 0 rfl rfl 2 (by decide) (hts _ m_226) (fun _ h9 => h9) rfl dX0_upper_8 ?_
      refine va_alen (D := G) hx hb hK hP 1 1 rfl rfl (v := 16) rfl dX0_upper_11 ?_
      refine lv_icmp_ge (tgt := 96) hx hb dX0_upper_12 (by decide) (fun c => absurd c (by decide)) (fun _ => ?_)
      refine lv_iload hx hb dX0_upper_15 (lv_at hl 0 rfl) ?_
      refine lv_iconst (v := 4) hx hb dX0_upper_17 (by decide) ?_
      refine lv_idiv hx hb dX0_upper_18 (by decide) ?_
      refine gw_topi (y := 3) (by decide) ?_
      refine lv_iconst (v := 3) hx hb dX0_upper_19 (by decide) ?_
      refine lv_icmp_ne (tgt := 27) hx hb dX0_upper_20 (by decide) (fun c => absurd (by decide) c) (fun _ => ?_)
      refine lv_iconst (v := 1) hx hb dX0_upper_23 (by decide) ?_
      refine lv_goto (tgt := 28) hx hb dX0_upper_24 (by decide) ?_
      refine lv_istore (lv' := [(5, .int 1), (4, .int 12), (2, .long 0), (6, .int 1), (0, .ref (q 20)), (1, .int p1)]) hx hb dX0_upper_28 hl (by decide) rfl (fun ls hl => ?_)
      refine lv_iload hx hb dX0_upper_30 (lv_at hl 1 rfl) ?_
      refine lv_iconst (v := 4) hx hb dX0_upper_32 (by decide) ?_
      refine lv_irem hx hb dX0_upper_33 (by decide) ?_
      refine gw_topi (y := 0) (by decide) ?_
      refine lv_iconst (v := 3) hx hb dX0_upper_34 (by decide) ?_
      refine lv_icmp_ne (tgt := 42) hx hb dX0_upper_35 (by decide) (fun _ => ?_) (fun c => absurd c (by decide))
      refine lv_iconst (v := 0) hx hb dX0_upper_42 (by decide) ?_
      refine lv_istore (lv' := [(6, .int 0), (5, .int 1), (4, .int 12), (2, .long 0), (0, .ref (q 20)), (1, .int p1)]) hx hb dX0_upper_43 hl (by decide) rfl (fun ls hl => ?_)
      refine lv_iload_n hx hb dX0_upper_45 rfl (lv_at hl 5 rfl) ?_
      refine lv_if_ne (tgt := 57) hx hb dX0_upper_46 (by decide) (fun _ => ?_) (fun c => absurd c c_1)
      refine lv_iload_n hx hb dX0_upper_57 rfl (lv_at hl 5 rfl) ?_
      refine lv_iconst (v := 1) hx hb dX0_upper_58 (by decide) ?_
      refine lv_icmp_ne (tgt := 70) hx hb dX0_upper_59 (by decide) (fun c => absurd c_2 c) (fun _ => ?_)
      refine lv_iload hx hb dX0_upper_62 (lv_at hl 0 rfl) ?_
      refine lv_if_eq (tgt := 90) hx hb dX0_upper_64 (by decide) (fun _ => ?_) (fun c => absurd (by decide) c)
      refine lv_iinc (v := 13) (lv' := [(4, .int 13), (6, .int 0), (5, .int 1), (2, .long 0), (0, .ref (q 20)), (1, .int p1)]) hx hb dX0_upper_90 hl (k := 2) rfl (by decide) (by decide) rfl (fun ls hl => ?_)
      refine lv_goto (tgt := 5) hx hb dX0_upper_93 (by decide) ?_
      refine lv_iload hx hb dX0_upper_5 (lv_at hl 0 rfl) ?_
      refine lv_aload_n hx hb dX0_upper_7 rfl (lv_at hl 4 rfl) ?_
      refine va_get (D := G) (ci := 0) (v := .ref (q 21)) (C := RX0) (T := TX0) (N := 4) hx hb hts iX0 hown hK hP 0 rfl rfl 2 (by decide) (hts _ m_226) (fun _ h9 => h9) rfl dX0_upper_8 ?_
      refine va_alen (D := G) hx hb hK hP 1 1 rfl rfl (v := 16) rfl dX0_upper_11 ?_
      refine lv_icmp_ge (tgt := 96) hx hb dX0_upper_12 (by decide) (fun c => absurd c (by decide)) (fun _ => ?_)
      refine lv_iload hx hb dX0_upper_15 (lv_at hl 0 rfl) ?_
      refine lv_iconst (v := 4) hx hb dX0_upper_17 (by decide) ?_
      refine lv_idiv hx hb dX0_upper_18 (by decide) ?_
      refine gw_topi (y := 3) (by decide) ?_
      refine lv_iconst (v := 3) hx hb dX0_upper_19 (by decide) ?_
      refine lv_icmp_ne (tgt := 27) hx hb dX0_upper_20 (by decide) (fun c => absurd (by decide) c) (fun _ => ?_)
      refine lv_iconst (v := 1) hx hb dX0_upper_23 (by decide) ?_
      refine lv_goto (tgt := 28) hx hb dX0_upper_24 (by decide) ?_
      refine lv_istore (lv' := [(5, .int 1), (4, .int 13), (6, .int 0), (2, .long 0), (0, .ref (q 20)), (1, .int p1)]) hx hb dX0_upper_28 hl (by decide) rfl (fun ls hl => ?_)
      refine lv_iload hx hb dX0_upper_30 (lv_at hl 1 rfl) ?_
      refine lv_iconst (v := 4) hx hb dX0_upper_32 (by decide) ?_
      refine lv_irem hx hb dX0_upper_33 (by decide) ?_
      refine gw_topi (y := 1) (by decide) ?_
      refine lv_iconst (v := 3) hx hb dX0_upper_34 (by decide) ?_
      refine lv_icmp_ne (tgt := 42) hx hb dX0_upper_35 (by decide) (fun _ => ?_) (fun c => absurd c (by decide))
      refine lv_iconst (v := 0) hx hb dX0_upper_42 (by decide) ?_
      refine lv_istore (lv' := [(6, .int 0), (5, .int 1), (4, .int 13), (2, .long 0), (0, .ref (q 20)), (1, .int p1)]) hx hb dX0_upper_43 hl (by decide) rfl (fun ls hl => ?_)
      refine lv_iload_n hx hb dX0_upper_45 rfl (lv_at hl 5 rfl) ?_
      refine lv_if_ne (tgt := 57) hx hb dX0_upper_46 (by decide) (fun _ => ?_) (fun c => absurd c c_1)
      refine lv_iload_n hx hb dX0_upper_57 rfl (lv_at hl 5 rfl) ?_
      refine lv_iconst (v := 1) hx hb dX0_upper_58 (by decide) ?_
      refine lv_icmp_ne (tgt := 70) hx hb dX0_upper_59 (by decide) (fun c => absurd c_2 c) (fun _ => ?_)
      refine lv_iload hx hb dX0_upper_62 (lv_at hl 0 rfl) ?_
      refine lv_if_eq (tgt := 90) hx hb dX0_upper_64 (by decide) (fun _ => ?_) (fun c => absurd (by decide) c)
      refine lv_iinc (v := 14) (lv' := [(4, .int 14), (6, .int 0), (5, .int 1), (2, .long 0), (0, .ref (q 20)), (1, .int p1)]) hx hb dX0_upper_90 hl (k := 2) rfl (by decide) (by decide) rfl (fun ls hl => ?_)
      refine lv_goto (tgt := 5) hx hb dX0_upper_93 (by decide) ?_
      refine lv_iload hx hb dX0_upper_5 (lv_at hl 0 rfl) ?_
      refine lv_aload_n hx hb dX0_upper_7 rfl (lv_at hl 4 rfl) ?_
      refine va_get (D := G) (ci := 0) (v := .ref (q 21)) (C := RX0) (T := TX0) (N := 4) hx hb hts iX0 hown hK hP 0 rfl rfl 2 (by decide) (hts _ m_226) (fun _ h9 => h9) rfl dX0_upper_8 ?_
      refine va_alen (D := G) hx hb hK hP 1 1 rfl rfl (v := 16) rfl dX0_upper_11 ?_
      refine lv_icmp_ge (tgt := 96) hx hb dX0_upper_12 (by decide) (fun c => absurd c (by decide)) (fun _ => ?_)
      refine lv_iload hx hb dX0_upper_15 (lv_at hl 0 rfl) ?_
      refine lv_iconst (v := 4) hx hb dX0_upper_17 (by decide) ?_
      refine lv_idiv hx hb dX0_upper_18 (by decide) ?_
      refine gw_topi (y := 3) (by decide) ?_
      refine lv_iconst (v := 3) hx hb dX0_upper_19 (by decide) ?_
      refine lv_icmp_ne (tgt := 27) hx hb dX0_upper_20 (by decide) (fun c => absurd (by decide) c) (fun _ => ?_)
      refine lv_iconst (v := 1) hx hb dX0_upper_23 (by decide) ?_
      refine lv_goto (tgt := 28) hx hb dX0_upper_24 (by decide) ?_
      refine lv_istore (lv' := [(5, .int 1), (4, .int 14), (6, .int 0), (2, .long 0), (0, .ref (q 20)), (1, .int p1)]) hx hb dX0_upper_28 hl (by decide) rfl (fun ls hl => ?_)
      refine lv_iload hx hb dX0_upper_30 (lv_at hl 1 rfl) ?_
      refine lv_iconst (v := 4) hx hb dX0_upper_32 (by decide) ?_
      refine lv_irem hx hb dX0_upper_33 (by decide) ?_
      refine gw_topi (y := 2) (by decide) ?_
      refine lv_iconst (v := 3) hx hb dX0_upper_34 (by decide) ?_
      refine lv_icmp_ne (tgt := 42) hx hb dX0_upper_35 (by decide) (fun _ => ?_) (fun c => absurd c (by decide))
      refine lv_iconst (v := 0) hx hb dX0_upper_42 (by decide) ?_
      refine lv_istore (lv' := [(6, .int 0), (5, .int 1), (4, .int 14), (2, .long 0), (0, .ref (q 20)), (1, .int p1)]) hx hb dX0_upper_43 hl (by decide) rfl (fun ls hl => ?_)
      refine lv_iload_n hx hb dX0_upper_45 rfl (lv_at hl 5 rfl) ?_
      refine lv_if_ne (tgt := 57) hx hb dX0_upper_46 (by decide) (fun _ => ?_) (fun c => absurd c c_1)
      refine lv_iload_n hx hb dX0_upper_57 rfl (lv_at hl 5 rfl) ?_
      refine lv_iconst (v := 1) hx hb dX0_upper_58 (by decide) ?_
      refine lv_icmp_ne (tgt := 70) hx hb dX0_upper_59 (by decide) (fun c => absurd c_2 c) (fun _ => ?_)
      refine lv_iload hx hb dX0_upper_62 (lv_at hl 0 rfl) ?_
      refine lv_if_eq (tgt := 90) hx hb dX0_upper_64 (by decide) (fun _ => ?_) (fun c => absurd (by decide) c)
      refine lv_iinc (v := 15) (lv' := [(4, .int 15), (6, .int 0), (5, .int 1), (2, .long 0), (0, .ref (q 20)), (1, .int p1)]) hx hb dX0_upper_90 hl (k := 2) rfl (by decide) (by decide) rfl (fun ls hl => ?_)
      refine lv_goto (tgt := 5) hx hb dX0_upper_93 (by decide) ?_
      refine lv_iload hx hb dX0_upper_5 (lv_at hl 0 rfl) ?_
      refine lv_aload_n hx hb dX0_upper_7 rfl (lv_at hl 4 rfl) ?_
      refine va_get (D := G) (ci := 0) (v := .ref (q 21)) (C := RX0) (T := TX0) (N := 4) hx hb hts iX0 hown hK hP 0 rfl rfl 2 (by decide) (hts _ m_226) (fun _ h9 => h9) rfl dX0_upper_8 ?_
      refine va_alen (D := G) hx hb hK hP 1 1 rfl rfl (v := 16) rfl dX0_upper_11 ?_
      refine lv_icmp_ge (tgt := 96) hx hb dX0_upper_12 (by decide) (fun c => absurd c (by decide)) (fun _ => ?_)
      refine lv_iload hx hb dX0_upper_15 (lv_at hl 0 rfl) ?_
      refine lv_iconst (v := 4) hx hb dX0_upper_17 (by decide) ?_
      refine lv_idiv hx hb dX0_upper_18 (by decide) ?_
      refine gw_topi (y := 3) (by decide) ?_
      refine lv_iconst (v := 3) hx hb dX0_upper_19 (by decide) ?_
      refine lv_icmp_ne (tgt := 27) hx hb dX0_upper_20 (by decide) (fun c => absurd (by decide) c) (fun _ => ?_)
      refine lv_iconst (v := 1) hx hb dX0_upper_23 (by decide) ?_
      refine lv_goto (tgt := 28) hx hb dX0_upper_24 (by decide) ?_
      refine lv_istore (lv' := [(5, .int 1), (4, .int 15), (6, .int 0), (2, .long 0), (0, .ref (q 20)), (1, .int p1)]) hx hb dX0_upper_28 hl (by decide) rfl (fun ls hl => ?_)
      refine lv_iload hx hb dX0_upper_30 (lv_at hl 1 rfl) ?_
      refine lv_iconst (v := 4) hx hb dX0_upper_32 (by decide) ?_
      refine lv_irem hx hb dX0_upper_33 (by decide) ?_
      refine gw_topi (y := 3) (by decide) ?_
      refine lv_iconst (v := 3) hx hb dX0_upper_34 (by decide) ?_
      refine lv_icmp_ne (tgt := 42) hx hb dX0_upper_35 (by decide) (fun c => absurd (by decide) c) (fun _ => ?_)
      refine lv_iconst (v := 1) hx hb dX0_upper_38 (by decide) ?_
      refine lv_goto (tgt := 43) hx hb dX0_upper_39 (by decide) ?_
      refine lv_istore (lv' := [(6, .int 1), (5, .int 1), (4, .int 15), (2, .long 0), (0, .ref (q 20)), (1, .int p1)]) hx hb dX0_upper_43 hl (by decide) rfl (fun ls hl => ?_)
      refine lv_iload_n hx hb dX0_upper_45 rfl (lv_at hl 5 rfl) ?_
      refine lv_if_ne (tgt := 57) hx hb dX0_upper_46 (by decide) (fun _ => ?_) (fun c => absurd c c_1)
      refine lv_iload_n hx hb dX0_upper_57 rfl (lv_at hl 5 rfl) ?_
      refine lv_iconst (v := 1) hx hb dX0_upper_58 (by decide) ?_
      refine lv_icmp_ne (tgt := 70) hx hb dX0_upper_59 (by decide) (fun c => absurd c_2 c) (fun _ => ?_)
      refine lv_iload hx hb dX0_upper_62 (lv_at hl 0 rfl) ?_
      refine lv_if_eq (tgt := 90) hx hb dX0_upper_64 (by decide) (fun c => absurd c (by decide)) (fun _ => ?_)
      refine lv_goto (tgt := 80) hx hb dX0_upper_67 (by decide) ?_
      refine lv_lload_n hx hb dX0_upper_80 rfl (lv_at hl 3 rfl) ?_
      refine lv_aload_n hx hb dX0_upper_81 rfl (lv_at hl 4 rfl) ?_
      refine va_get (D := G) (ci := 0) (v := .ref (q 21)) (C := RX0) (T := TX0) (N := 4) hx hb hts iX0 hown hK hP 0 rfl rfl 2 (by decide) (hts _ m_226) (fun _ h9 => h9) rfl dX0_upper_82 ?_
      refine lv_iload hx hb dX0_upper_85 (lv_at hl 2 rfl) ?_
      refine gw_lald (x := 0) hx hb hK hP 1 1 15 rfl rfl rfl (by decide) (by decide) rfl dX0_upper_87 ?_
      refine lv_ladd hx hb dX0_upper_88 ?_
      refine gw_topl (y := 0) (by decide) ?_
      refine lv_lstore_n (lv' := [(2, .long 0), (6, .int 1), (5, .int 1), (4, .int 15), (0, .ref (q 20)), (1, .int p1)]) hx hb dX0_upper_89 rfl hl (by decide) rfl (fun ls hl => ?_)
      refine lv_iinc (v := 16) (lv' := [(4, .int 16), (2, .long 0), (6, .int 1), (5, .int 1), (0, .ref (q 20)), (1, .int p1)]) hx hb dX0_upper_90 hl (k := 3) rfl (by decide) (by decide) rfl (fun ls hl => ?_)
      refine lv_goto (tgt := 5) hx hb dX0_upper_93 (by decide) ?_
      refine lv_iload hx hb dX0_upper_5 (lv_at hl 0 rfl) ?_
      refine lv_aload_n hx hb dX0_upper_7 rfl (lv_at hl 4 rfl) ?_
      refine va_get (D := G) (ci := 0) (v := .ref (q 21)) (C := RX0) (T := TX0) (N := 4) hx hb hts iX0 hown hK hP 0 rfl rfl 2 (by decide) (hts _ m_226) (fun _ h9 => h9) rfl dX0_upper_8 ?_
      refine va_alen (D := G) hx hb hK hP 1 1 rfl rfl (v := 16) rfl dX0_upper_11 ?_
      refine lv_icmp_ge (tgt := 96) hx hb dX0_upper_12 (by decide) (fun _ => ?_) (fun c => absurd (by decide) c)
      refine lv_lload_n hx hb dX0_upper_96 rfl (lv_at hl 1 rfl) ?_
      exact gw_lret () hx hb hr hlocks hP hD hS rfl dX0_upper_97
  · refine lv_iload hx hb dX0_upper_49 (lv_at hl 1 rfl) ?_
    refine lv_if_eq (tgt := 90) hx hb dX0_upper_51 (by decide) (fun _ => ?_) (fun c => absurd (by decide) c)
    refine lv_iinc (v := 1) (lv' := [(4, .int 1), (6, .int 0), (5, .int 0), (2, .long 0), (0, .ref (q 20)), (1, .int p1)]) hx hb dX0_upper_90 hl (k := 2) rfl (by decide) (by decide) rfl (fun ls hl => ?_)
    refine lv_goto (tgt := 5) hx hb dX0_upper_93 (by decide) ?_
    refine lv_iload hx hb dX0_upper_5 (lv_at hl 0 rfl) ?_
    refine lv_aload_n hx hb dX0_upper_7 rfl (lv_at hl 4 rfl) ?_
    refine va_get (D := G) (ci := 0) (v := .ref (q 21)) (C := RX0) (T := TX0) (N := 4) hx hb hts iX0 hown hK hP 0 rfl rfl 2 (by decide) (hts _ m_226) (fun _ h9 => h9) rfl dX0_upper_8 ?_
    refine va_alen (D := G) hx hb hK hP 1 1 rfl rfl (v := 16) rfl dX0_upper_11 ?_
    refine lv_icmp_ge (tgt := 96) hx hb dX0_upper_12 (by decide) (fun c => absurd c (by decide)) (fun _ => ?_)
    refine lv_iload hx hb dX0_upper_15 (lv_at hl 0 rfl) ?_
    refine lv_iconst (v := 4) hx hb dX0_upper_17 (by decide) ?_
    refine lv_idiv hx hb dX0_upper_18 (by decide) ?_
    refine gw_topi (y := 0) (by decide) ?_
    refine lv_iconst (v := 3) hx hb dX0_upper_19 (by decide) ?_
    refine lv_icmp_ne (tgt := 27) hx hb dX0_upper_20 (by decide) (fun _ => ?_) (fun c => absurd c (by decide))
    refine lv_iconst (v := 0) hx hb dX0_upper_27 (by decide) ?_
    refine lv_istore (lv' := [(5, .int 0), (4, .int 1), (6, .int 0), (2, .long 0), (0, .ref (q 20)), (1, .int p1)]) hx hb dX0_upper_28 hl (by decide) rfl (fun ls hl => ?_)
    refine lv_iload hx hb dX0_upper_30 (lv_at hl 1 rfl) ?_
    refine lv_iconst (v := 4) hx hb dX0_upper_32 (by decide) ?_
    refine lv_irem hx hb dX0_upper_33 (by decide) ?_
    refine gw_topi (y := 1) (by decide) ?_
    refine lv_iconst (v := 3) hx hb dX0_upper_34 (by decide) ?_
    refine lv_icmp_ne (tgt := 42) hx hb dX0_upper_35 (by decide) (fun _ => ?_) (fun c => absurd c (by decide))
    refine lv_iconst (v := 0) hx hb dX0_upper_42 (by decide) ?_
    refine lv_istore (lv' := [(6, .int 0), (5, .int 0), (4, .int 1), (2, .long 0), (0, .ref (q 20)), (1, .int p1)]) hx hb dX0_upper_43 hl (by decide) rfl (fun ls hl => ?_)
    refine lv_iload_n hx hb dX0_upper_45 rfl (lv_at hl 5 rfl) ?_
    refine lv_if_ne (tgt := 57) hx hb dX0_upper_46 (by decide) (fun c => absurd c_1 c) (fun _ => ?_)
    refine lv_iload hx hb dX0_upper_49 (lv_at hl 1 rfl) ?_
    refine lv_if_eq (tgt := 90) hx hb dX0_upper_51 (by decide) (fun _ => ?_) (fun c => absurd (by decide) c)
    refine lv_iinc (v := 2) (lv' := [(4, .int 2), (6, .int 0), (5, .int 0), (2, .long 0), (0, .ref (q 20)), (1, .int p1)]) hx hb dX0_upper_90 hl (k := 2) rfl (by decide) (by decide) rfl (fun ls hl => ?_)
    refine lv_goto (tgt := 5) hx hb dX0_upper_93 (by decide) ?_
    refine lv_iload hx hb dX0_upper_5 (lv_at hl 0 rfl) ?_
    refine lv_aload_n hx hb dX0_upper_7 rfl (lv_at hl 4 rfl) ?_
    refine va_get (D := G) (ci := 0) (v := .ref (q 21)) (C := RX0) (T := TX0) (N := 4) hx hb hts iX0 hown hK hP 0 rfl rfl 2 (by decide) (hts _ m_226) (fun _ h9 => h9) rfl dX0_upper_8 ?_
    refine va_alen (D := G) hx hb hK hP 1 1 rfl rfl (v := 16) rfl dX0_upper_11 ?_
    refine lv_icmp_ge (tgt := 96) hx hb dX0_upper_12 (by decide) (fun c => absurd c (by decide)) (fun _ => ?_)
    refine lv_iload hx hb dX0_upper_15 (lv_at hl 0 rfl) ?_
    refine lv_iconst (v := 4) hx hb dX0_upper_17 (by decide) ?_
    refine lv_idiv hx hb dX0_upper_18 (by decide) ?_
    refine gw_topi (y := 0) (by decide) ?_
    refine lv_iconst (v := 3) hx hb dX0_upper_19 (by decide) ?_
    refine lv_icmp_ne (tgt := 27) hx hb dX0_upper_20 (by decide) (fun _ => ?_) (fun c => absurd c (by decide))
    refine lv_iconst (v := 0) hx hb dX0_upper_27 (by decide) ?_
    refine lv_istore (lv' := [(5, .int 0), (4, .int 2), (6, .int 0), (2, .long 0), (0, .ref (q 20)), (1, .int p1)]) hx hb dX0_upper_28 hl (by decide) rfl (fun ls hl => ?_)
    refine lv_iload hx hb dX0_upper_30 (lv_at hl 1 rfl) ?_
    refine lv_iconst (v := 4) hx hb dX0_upper_32 (by decide) ?_
    refine lv_irem hx hb dX0_upper_33 (by decide) ?_
    refine gw_topi (y := 2) (by decide) ?_
    refine lv_iconst (v := 3) hx hb dX0_upper_34 (by decide) ?_
    refine lv_icmp_ne (tgt := 42) hx hb dX0_upper_35 (by decide) (fun _ => ?_) (fun c => absurd c (by decide))
    refine lv_iconst (v := 0) hx hb dX0_upper_42 (by decide) ?_
    refine lv_istore (lv' := [(6, .int 0), (5, .int 0), (4, .int 2), (2, .long 0), (0, .ref (q 20)), (1, .int p1)]) hx hb dX0_upper_43 hl (by decide) rfl (fun ls hl => ?_)
    refine lv_iload_n hx hb dX0_upper_45 rfl (lv_at hl 5 rfl) ?_
    refine lv_if_ne (tgt := 57) hx hb dX0_upper_46 (by decide) (fun c => absurd c_1 c) (fun _ => ?_)
    refine lv_iload hx hb dX0_upper_49 (lv_at hl 1 rfl) ?_
    refine lv_if_eq (tgt := 90) hx hb dX0_upper_51 (by decide) (fun _ => ?_) (fun c => absurd (by decide) c)
    refine lv_iinc (v := 3) (lv' := [(4, .int 3), (6, .int 0), (5, .int 0), (2, .long 0), (0, .ref (q 20)), (1, .int p1)]) hx hb dX0_upper_90 hl (k := 2) rfl (by decide) (by decide) rfl (fun ls hl => ?_)
    refine lv_goto (tgt := 5) hx hb dX0_upper_93 (by decide) ?_
    refine lv_iload hx hb dX0_upper_5 (lv_at hl 0 rfl) ?_
    refine lv_aload_n hx hb dX0_upper_7 rfl (lv_at hl 4 rfl) ?_
    refine va_get (D := G) (ci := 0) (v := .ref (q 21)) (C := RX0) (T := TX0) (N := 4) hx hb hts iX0 hown hK hP 0 rfl rfl 2 (by decide) (hts _ m_226) (fun _ h9 => h9) rfl dX0_upper_8 ?_
    refine va_alen (D := G) hx hb hK hP 1 1 rfl rfl (v := 16) rfl dX0_upper_11 ?_
    refine lv_icmp_ge (tgt := 96) hx hb dX0_upper_12 (by decide) (fun c => absurd c (by decide)) (fun _ => ?_)
    refine lv_iload hx hb dX0_upper_15 (lv_at hl 0 rfl) ?_
    refine lv_iconst (v := 4) hx hb dX0_upper_17 (by decide) ?_
    refine lv_idiv hx hb dX0_upper_18 (by decide) ?_
    refine gw_topi (y := 0) (by decide) ?_
    refine lv_iconst (v := 3) hx hb dX0_upper_19 (by decide) ?_
    refine lv_icmp_ne (tgt := 27) hx hb dX0_upper_20 (by decide) (fun _ => ?_) (fun c => absurd c (by decide))
    refine lv_iconst (v := 0) hx hb dX0_upper_27 (by decide) ?_
    refine lv_istore (lv' := [(5, .int 0), (4, .int 3), (6, .int 0), (2, .long 0), (0, .ref (q 20)), (1, .int p1)]) hx hb dX0_upper_28 hl (by decide) rfl (fun ls hl => ?_)
    refine lv_iload hx hb dX0_upper_30 (lv_at hl 1 rfl) ?_
    refine lv_iconst (v := 4) hx hb dX0_upper_32 (by decide) ?_
    refine lv_irem hx hb dX0_upper_33 (by decide) ?_
    refine gw_topi (y := 3) (by decide) ?_
    refine lv_iconst (v := 3) hx hb dX0_upper_34 (by decide) ?_
    refine lv_icmp_ne (tgt := 42) hx hb dX0_upper_35 (by decide) (fun c => absurd (by decide) c) (fun _ => ?_)
    refine lv_iconst (v := 1) hx hb dX0_upper_38 (by decide) ?_
    refine lv_goto (tgt := 43) hx hb dX0_upper_39 (by decide) ?_
    refine lv_istore (lv' := [(6, .int 1), (5, .int 0), (4, .int 3), (2, .long 0), (0, .ref (q 20)), (1, .int p1)]) hx hb dX0_upper_43 hl (by decide) rfl (fun ls hl => ?_)
    refine lv_iload_n hx hb dX0_upper_45 rfl (lv_at hl 5 rfl) ?_
    refine lv_if_ne (tgt := 57) hx hb dX0_upper_46 (by decide) (fun c => absurd c_1 c) (fun _ => ?_)
    refine lv_iload hx hb dX0_upper_49 (lv_at hl 1 rfl) ?_
    refine lv_if_eq (tgt := 90) hx hb dX0_upper_51 (by decide) (fun _ => ?_) (fun c => absurd (by decide) c)
    refine lv_iinc (v := 4) (lv' := [(4, .int 4), (6, .int 1), (5, .int 0), (2, .long 0), (0, .ref (q 20)), (1, .int p1)]) hx hb dX0_upper_90 hl (k := 2) rfl (by decide) (by decide) rfl (fun ls hl => ?_)
    refine lv_goto (tgt := 5) hx hb dX0_upper_93 (by decide) ?_
    refine lv_iload hx hb dX0_upper_5 (lv_at hl 0 rfl) ?_
    refine lv_aload_n hx hb dX0_upper_7 rfl (lv_at hl 4 rfl) ?_
    refine va_get (D := G) (ci := 0) (v := .ref (q 21)) (C := RX0) (T := TX0) (N := 4) hx hb hts iX0 hown hK hP 0 rfl rfl 2 (by decide) (hts _ m_226) (fun _ h9 => h9) rfl dX0_upper_8 ?_
    refine va_alen (D := G) hx hb hK hP 1 1 rfl rfl (v := 16) rfl dX0_upper_11 ?_
    refine lv_icmp_ge (tgt := 96) hx hb dX0_upper_12 (by decide) (fun c => absurd c (by decide)) (fun _ => ?_)
    refine lv_iload hx hb dX0_upper_15 (lv_at hl 0 rfl) ?_
    refine lv_iconst (v := 4) hx hb dX0_upper_17 (by decide) ?_
    refine lv_idiv hx hb dX0_upper_18 (by decide) ?_
    refine gw_topi (y := 1) (by decide) ?_
    refine lv_iconst (v := 3) hx hb dX0_upper_19 (by decide) ?_
    refine lv_icmp_ne (tgt := 27) hx hb dX0_upper_20 (by decide) (fun _ => ?_) (fun c => absurd c (by decide))
    refine lv_iconst (v := 0) hx hb dX0_upper_27 (by decide) ?_
    refine lv_istore (lv' := [(5, .int 0), (4, .int 4), (6, .int 1), (2, .long 0), (0, .ref (q 20)), (1, .int p1)]) hx hb dX0_upper_28 hl (by decide) rfl (fun ls hl => ?_)
    refine lv_iload hx hb dX0_upper_30 (lv_at hl 1 rfl) ?_
    refine lv_iconst (v := 4) hx hb dX0_upper_32 (by decide) ?_
    refine lv_irem hx hb dX0_upper_33 (by decide) ?_
    refine gw_topi (y := 0) (by decide) ?_
    refine lv_iconst (v := 3) hx hb dX0_upper_34 (by decide) ?_
    refine lv_icmp_ne (tgt := 42) hx hb dX0_upper_35 (by decide) (fun _ => ?_) (fun c => absurd c (by decide))
    refine lv_iconst (v := 0) hx hb dX0_upper_42 (by decide) ?_
    refine lv_istore (lv' := [(6, .int 0), (5, .int 0), (4, .int 4), (2, .long 0), (0, .ref (q 20)), (1, .int p1)]) hx hb dX0_upper_43 hl (by decide) rfl (fun ls hl => ?_)
    refine lv_iload_n hx hb dX0_upper_45 rfl (lv_at hl 5 rfl) ?_
    refine lv_if_ne (tgt := 57) hx hb dX0_upper_46 (by decide) (fun c => absurd c_1 c) (fun _ => ?_)
    refine lv_iload hx hb dX0_upper_49 (lv_at hl 1 rfl) ?_
    refine lv_if_eq (tgt := 90) hx hb dX0_upper_51 (by decide) (fun _ => ?_) (fun c => absurd (by decide) c)
    refine lv_iinc (v := 5) (lv' := [(4, .int 5), (6, .int 0), (5, .int 0), (2, .long 0), (0, .ref (q 20)), (1, .int p1)]) hx hb dX0_upper_90 hl (k := 2) rfl (by decide) (by decide) rfl (fun ls hl => ?_)
    refine lv_goto (tgt := 5) hx hb dX0_upper_93 (by decide) ?_
    refine lv_iload hx hb dX0_upper_5 (lv_at hl 0 rfl) ?_
    refine lv_aload_n hx hb dX0_upper_7 rfl (lv_at hl 4 rfl) ?_
    refine va_get (D := G) (ci := 0) (v := .ref (q 21)) (C := RX0) (T := TX0) (N := 4) hx hb hts iX0 hown hK hP 0 rfl rfl 2 (by decide) (hts _ m_226) (fun _ h9 => h9) rfl dX0_upper_8 ?_
    refine va_alen (D := G) hx hb hK hP 1 1 rfl rfl (v := 16) rfl dX0_upper_11 ?_
    refine lv_icmp_ge (tgt := 96) hx hb dX0_upper_12 (by decide) (fun c => absurd c (by decide)) (fun _ => ?_)
    refine lv_iload hx hb dX0_upper_15 (lv_at hl 0 rfl) ?_
    refine lv_iconst (v := 4) hx hb dX0_upper_17 (by decide) ?_
    refine lv_idiv hx hb dX0_upper_18 (by decide) ?_
    refine gw_topi (y := 1) (by decide) ?_
    refine lv_iconst (v := 3) hx hb dX0_upper_19 (by decide) ?_
    refine lv_icmp_ne (tgt := 27) hx hb dX0_upper_20 (by decide) (fun _ => ?_) (fun c => absurd c (by decide))
    refine lv_iconst (v := 0) hx hb dX0_upper_27 (by decide) ?_
    refine lv_istore (lv' := [(5, .int 0), (4, .int 5), (6, .int 0), (2, .long 0), (0, .ref (q 20)), (1, .int p1)]) hx hb dX0_upper_28 hl (by decide) rfl (fun ls hl => ?_)
    refine lv_iload hx hb dX0_upper_30 (lv_at hl 1 rfl) ?_
    refine lv_iconst (v := 4) hx hb dX0_upper_32 (by decide) ?_
    refine lv_irem hx hb dX0_upper_33 (by decide) ?_
    refine gw_topi (y := 1) (by decide) ?_
    refine lv_iconst (v := 3) hx hb dX0_upper_34 (by decide) ?_
    refine lv_icmp_ne (tgt := 42) hx hb dX0_upper_35 (by decide) (fun _ => ?_) (fun c => absurd c (by decide))
    refine lv_iconst (v := 0) hx hb dX0_upper_42 (by decide) ?_
    refine lv_istore (lv' := [(6, .int 0), (5, .int 0), (4, .int 5), (2, .long 0), (0, .ref (q 20)), (1, .int p1)]) hx hb dX0_upper_43 hl (by decide) rfl (fun ls hl => ?_)
    refine lv_iload_n hx hb dX0_upper_45 rfl (lv_at hl 5 rfl) ?_
    refine lv_if_ne (tgt := 57) hx hb dX0_upper_46 (by decide) (fun c => absurd c_1 c) (fun _ => ?_)
    refine lv_iload hx hb dX0_upper_49 (lv_at hl 1 rfl) ?_
    refine lv_if_eq (tgt := 90) hx hb dX0_upper_51 (by decide) (fun _ => ?_) (fun c => absurd (by decide) c)
    refine lv_iinc (v := 6) (lv' := [(4, .int 6), (6, .int 0), (5, .int 0), (2, .long 0), (0, .ref (q 20)), (1, .int p1)]) hx hb dX0_upper_90 hl (k := 2) rfl (by decide) (by decide) rfl (fun ls hl => ?_)
    refine lv_goto (tgt := 5) hx hb dX0_upper_93 (by decide) ?_
    refine lv_iload hx hb dX0_upper_5 (lv_at hl 0 rfl) ?_
    refine lv_aload_n hx hb dX0_upper_7 rfl (lv_at hl 4 rfl) ?_
    refine va_get (D := G) (ci := 0) (v := .ref (q 21)) (C := RX0) (T := TX0) (N := 4) hx hb hts iX0 hown hK hP 0 rfl rfl 2 (by decide) (hts _ m_226) (fun _ h9 => h9) rfl dX0_upper_8 ?_
    refine va_alen (D := G) hx hb hK hP 1 1 rfl rfl (v := 16) rfl dX0_upper_11 ?_
    refine lv_icmp_ge (tgt := 96) hx hb dX0_upper_12 (by decide) (fun c => absurd c (by decide)) (fun _ => ?_)
    refine lv_iload hx hb dX0_upper_15 (lv_at hl 0 rfl) ?_
    refine lv_iconst (v := 4) hx hb dX0_upper_17 (by decide) ?_
    refine lv_idiv hx hb dX0_upper_18 (by decide) ?_
    refine gw_topi (y := 1) (by decide) ?_
    refine lv_iconst (v := 3) hx hb dX0_upper_19 (by decide) ?_
    refine lv_icmp_ne (tgt := 27) hx hb dX0_upper_20 (by decide) (fun _ => ?_) (fun c => absurd c (by decide))
    refine lv_iconst (v := 0) hx hb dX0_upper_27 (by decide) ?_
    refine lv_istore (lv' := [(5, .int 0), (4, .int 6), (6, .int 0), (2, .long 0), (0, .ref (q 20)), (1, .int p1)]) hx hb dX0_upper_28 hl (by decide) rfl (fun ls hl => ?_)
    refine lv_iload hx hb dX0_upper_30 (lv_at hl 1 rfl) ?_
    refine lv_iconst (v := 4) hx hb dX0_upper_32 (by decide) ?_
    refine lv_irem hx hb dX0_upper_33 (by decide) ?_
    refine gw_topi (y := 2) (by decide) ?_
    refine lv_iconst (v := 3) hx hb dX0_upper_34 (by decide) ?_
    refine lv_icmp_ne (tgt := 42) hx hb dX0_upper_35 (by decide) (fun _ => ?_) (fun c => absurd c (by decide))
    refine lv_iconst (v := 0) hx hb dX0_upper_42 (by decide) ?_
    refine lv_istore (lv' := [(6, .int 0), (5, .int 0), (4, .int 6), (2, .long 0), (0, .ref (q 20)), (1, .int p1)]) hx hb dX0_upper_43 hl (by decide) rfl (fun ls hl => ?_)
    refine lv_iload_n hx hb dX0_upper_45 rfl (lv_at hl 5 rfl) ?_
    refine lv_if_ne (tgt := 57) hx hb dX0_upper_46 (by decide) (fun c => absurd c_1 c) (fun _ => ?_)
    refine lv_iload hx hb dX0_upper_49 (lv_at hl 1 rfl) ?_
    refine lv_if_eq (tgt := 90) hx hb dX0_upper_51 (by decide) (fun _ => ?_) (fun c => absurd (by decide) c)
    refine lv_iinc (v := 7) (lv' := [(4, .int 7), (6, .int 0), (5, .int 0), (2, .long 0), (0, .ref (q 20)), (1, .int p1)]) hx hb dX0_upper_90 hl (k := 2) rfl (by decide) (by decide) rfl (fun ls hl => ?_)
    refine lv_goto (tgt := 5) hx hb dX0_upper_93 (by decide) ?_
    refine lv_iload hx hb dX0_upper_5 (lv_at hl 0 rfl) ?_
    refine lv_aload_n hx hb dX0_upper_7 rfl (lv_at hl 4 rfl) ?_
    refine va_get (D := G) (ci := 0) (v := .ref (q 21)) (C := RX0) (T := TX0) (N := 4) hx hb hts iX0 hown hK hP 0 rfl rfl 2 (by decide) (hts _ m_226) (fun _ h9 => h9) rfl dX0_upper_8 ?_
    refine va_alen (D := G) hx hb hK hP 1 1 rfl rfl (v := 16) rfl dX0_upper_11 ?_
    refine lv_icmp_ge (tgt := 96) hx hb dX0_upper_12 (by decide) (fun c => absurd c (by decide)) (fun _ => ?_)
    refine lv_iload hx hb dX0_upper_15 (lv_at hl 0 rfl) ?_
    refine lv_iconst (v := 4) hx hb dX0_upper_17 (by decide) ?_
    refine lv_idiv hx hb dX0_upper_18 (by decide) ?_
    refine gw_topi (y := 1) (by decide) ?_
    refine lv_iconst (v := 3) hx hb dX0_upper_19 (by decide) ?_
    refine lv_icmp_ne (tgt := 27) hx hb dX0_upper_20 (by decide) (fun _ => ?_) (fun c => absurd c (by decide))
    refine lv_iconst (v := 0) hx hb dX0_upper_27 (by decide) ?_
    refine lv_istore (lv' := [(5, .int 0), (4, .int 7), (6, .int 0), (2, .long 0), (0, .ref (q 20)), (1, .int p1)]) hx hb dX0_upper_28 hl (by decide) rfl (fun ls hl => ?_)
    refine lv_iload hx hb dX0_upper_30 (lv_at hl 1 rfl) ?_
    refine lv_iconst (v := 4) hx hb dX0_upper_32 (by decide) ?_
    refine lv_irem hx hb dX0_upper_33 (by decide) ?_
    refine gw_topi (y := 3) (by decide) ?_
    refine lv_iconst (v := 3) hx hb dX0_upper_34 (by decide) ?_
    refine lv_icmp_ne (tgt := 42) hx hb dX0_upper_35 (by decide) (fun c => absurd (by decide) c) (fun _ => ?_)
    refine lv_iconst (v := 1) hx hb dX0_upper_38 (by decide) ?_
    refine lv_goto (tgt := 43) hx hb dX0_upper_39 (by decide) ?_
    refine lv_istore (lv' := [(6, .int 1), (5, .int 0), (4, .int 7), (2, .long 0), (0, .ref (q 20)), (1, .int p1)]) hx hb dX0_upper_43 hl (by decide) rfl (fun ls hl => ?_)
    refine lv_iload_n hx hb dX0_upper_45 rfl (lv_at hl 5 rfl) ?_
    refine lv_if_ne (tgt := 57) hx hb dX0_upper_46 (by decide) (fun c => absurd c_1 c) (fun _ => ?_)
    refine lv_iload hx hb dX0_upper_49 (lv_at hl 1 rfl) ?_
    refine lv_if_eq (tgt := 90) hx hb dX0_upper_51 (by decide) (fun _ => ?_) (fun c => absurd (by decide) c)
    refine lv_iinc (v := 8) (lv' := [(4, .int 8), (6, .int 1), (5, .int 0), (2, .long 0), (0, .ref (q 20)), (1, .int p1)]) hx hb dX0_upper_90 hl (k := 2) rfl (by decide) (by decide) rfl (fun ls hl => ?_)
    refine lv_goto (tgt := 5) hx hb dX0_upper_93 (by decide) ?_
    refine lv_iload hx hb dX0_upper_5 (lv_at hl 0 rfl) ?_
    refine lv_aload_n hx hb dX0_upper_7 rfl (lv_at hl 4 rfl) ?_
    refine va_get (D := G) (ci := 0) (v := .ref (q 21)) (C := RX0) (T := TX0) (N := 4) hx hb hts iX0 hown hK hP 0 rfl rfl 2 (by decide) (hts _ m_226) (fun _ h9 => h9) rfl dX0_upper_8 ?_
    refine va_alen (D := G) hx hb hK hP 1 1 rfl rfl (v := 16) rfl dX0_upper_11 ?_
    refine lv_icmp_ge (tgt := 96) hx hb dX0_upper_12 (by decide) (fun c => absurd c (by decide)) (fun _ => ?_)
    refine lv_iload hx hb dX0_upper_15 (lv_at hl 0 rfl) ?_
    refine lv_iconst (v := 4) hx hb dX0_upper_17 (by decide) ?_
    refine lv_idiv hx hb dX0_upper_18 (by decide) ?_
    refine gw_topi (y := 2) (by decide) ?_
    refine lv_iconst (v := 3) hx hb dX0_upper_19 (by decide) ?_
    refine lv_icmp_ne (tgt := 27) hx hb dX0_upper_20 (by decide) (fun _ => ?_) (fun c => absurd c (by decide))
    refine lv_iconst (v := 0) hx hb dX0_upper_27 (by decide) ?_
    refine lv_istore (lv' := [(5, .int 0), (4, .int 8), (6, .int 1), (2, .long 0), (0, .ref (q 20)), (1, .int p1)]) hx hb dX0_upper_28 hl (by decide) rfl (fun ls hl => ?_)
    refine lv_iload hx hb dX0_upper_30 (lv_at hl 1 rfl) ?_
    refine lv_iconst (v := 4) hx hb dX0_upper_32 (by decide) ?_
    refine lv_irem hx hb dX0_upper_33 (by decide) ?_
    refine gw_topi (y := 0) (by decide) ?_
    refine lv_iconst (v := 3) hx hb dX0_upper_34 (by decide) ?_
    refine lv_icmp_ne (tgt := 42) hx hb dX0_upper_35 (by decide) (fun _ => ?_) (fun c => absurd c (by decide))
    refine lv_iconst (v := 0) hx hb dX0_upper_42 (by decide) ?_
    refine lv_istore (lv' := [(6, .int 0), (5, .int 0), (4, .int 8), (2, .long 0), (0, .ref (q 20)), (1, .int p1)]) hx hb dX0_upper_43 hl (by decide) rfl (fun ls hl => ?_)
    refine lv_iload_n hx hb dX0_upper_45 rfl (lv_at hl 5 rfl) ?_
    refine lv_if_ne (tgt := 57) hx hb dX0_upper_46 (by decide) (fun c => absurd c_1 c) (fun _ => ?_)
    refine lv_iload hx hb dX0_upper_49 (lv_at hl 1 rfl) ?_
    refine lv_if_eq (tgt := 90) hx hb dX0_upper_51 (by decide) (fun _ => ?_) (fun c => absurd (by decide) c)
    refine lv_iinc (v := 9) (lv' := [(4, .int 9), (6, .int 0), (5, .int 0), (2, .long 0), (0, .ref (q 20)), (1, .int p1)]) hx hb dX0_upper_90 hl (k := 2) rfl (by decide) (by decide) rfl (fun ls hl => ?_)
    refine lv_goto (tgt := 5) hx hb dX0_upper_93 (by decide) ?_
    refine lv_iload hx hb dX0_upper_5 (lv_at hl 0 rfl) ?_
    refine lv_aload_n hx hb dX0_upper_7 rfl (lv_at hl 4 rfl) ?_
    refine va_get (D := G) (ci := 0) (v := .ref (q 21)) (C := RX0) (T := TX0) (N := 4) hx hb hts iX0 hown hK hP 0 rfl rfl 2 (by decide) (hts _ m_226) (fun _ h9 => h9) rfl dX0_upper_8 ?_
    refine va_alen (D := G) hx hb hK hP 1 1 rfl rfl (v := 16) rfl dX0_upper_11 ?_
    refine lv_icmp_ge (tgt := 96) hx hb dX0_upper_12 (by decide) (fun c => absurd c (by decide)) (fun _ => ?_)
    refine lv_iload hx hb dX0_upper_15 (lv_at hl 0 rfl) ?_
    refine lv_iconst (v := 4) hx hb dX0_upper_17 (by decide) ?_
    refine lv_idiv hx hb dX0_upper_18 (by decide) ?_
    refine gw_topi (y := 2) (by decide) ?_
    refine lv_iconst (v := 3) hx hb dX0_upper_19 (by decide) ?_
    refine lv_icmp_ne (tgt := 27) hx hb dX0_upper_20 (by decide) (fun _ => ?_) (fun c => absurd c (by decide))
    refine lv_iconst (v := 0) hx hb dX0_upper_27 (by decide) ?_
    refine lv_istore (lv' := [(5, .int 0), (4, .int 9), (6, .int 0), (2, .long 0), (0, .ref (q 20)), (1, .int p1)]) hx hb dX0_upper_28 hl (by decide) rfl (fun ls hl => ?_)
    refine lv_iload hx hb dX0_upper_30 (lv_at hl 1 rfl) ?_
    refine lv_iconst (v := 4) hx hb dX0_upper_32 (by decide) ?_
    refine lv_irem hx hb dX0_upper_33 (by decide) ?_
    refine gw_topi (y := 1) (by decide) ?_
    refine lv_iconst (v := 3) hx hb dX0_upper_34 (by decide) ?_
    refine lv_icmp_ne (tgt := 42) hx hb dX0_upper_35 (by decide) (fun _ => ?_) (fun c => absurd c (by decide))
    refine lv_iconst (v := 0) hx hb dX0_upper_42 (by decide) ?_
    refine lv_istore (lv' := [(6, .int 0), (5, .int 0), (4, .int 9), (2, .long 0), (0, .ref (q 20)), (1, .int p1)]) hx hb dX0_upper_43 hl (by decide) rfl (fun ls hl => ?_)
    refine lv_iload_n hx hb dX0_upper_45 rfl (lv_at hl 5 rfl) ?_
    refine lv_if_ne (tgt := 57) hx hb dX0_upper_46 (by decide) (fun c => absurd c_1 c) (fun _ => ?_)
    refine lv_iload hx hb dX0_upper_49 (lv_at hl 1 rfl) ?_
    refine lv_if_eq (tgt := 90) hx hb dX0_upper_51 (by decide) (fun _ => ?_) (fun c => absurd (by decide) c)
    refine lv_iinc (v := 10) (lv' := [(4, .int 10), (6, .int 0), (5, .int 0), (2, .long 0), (0, .ref (q 20)), (1, .int p1)]) hx hb dX0_upper_90 hl (k := 2) rfl (by decide) (by decide) rfl (fun ls hl => ?_)
    refine lv_goto (tgt := 5) hx hb dX0_upper_93 (by decide) ?_
    refine lv_iload hx hb dX0_upper_5 (lv_at hl 0 rfl) ?_
    refine lv_aload_n hx hb dX0_upper_7 rfl (lv_at hl 4 rfl) ?_
    refine va_get (D := G) (ci := 0) (v := .ref (q 21)) (C := RX0) (T := TX0) (N := 4) hx hb hts iX0 hown hK hP 0 rfl rfl 2 (by decide) (hts _ m_226) (fun _ h9 => h9) rfl dX0_upper_8 ?_
    refine va_alen (D := G) hx hb hK hP 1 1 rfl rfl (v := 16) rfl dX0_upper_11 ?_
    refine lv_icmp_ge (tgt := 96) hx hb dX0_upper_12 (by decide) (fun c => absurd c (by decide)) (fun _ => ?_)
    refine lv_iload hx hb dX0_upper_15 (lv_at hl 0 rfl) ?_
    refine lv_iconst (v := 4) hx hb dX0_upper_17 (by decide) ?_
    refine lv_idiv hx hb dX0_upper_18 (by decide) ?_
    refine gw_topi (y := 2) (by decide) ?_
    refine lv_iconst (v := 3) hx hb dX0_upper_19 (by decide) ?_
    refine lv_icmp_ne (tgt := 27) hx hb dX0_upper_20 (by decide) (fun _ => ?_) (fun c => absurd c (by decide))
    refine lv_iconst (v := 0) hx hb dX0_upper_27 (by decide) ?_
    refine lv_istore (lv' := [(5, .int 0), (4, .int 10), (6, .int 0), (2, .long 0), (0, .ref (q 20)), (1, .int p1)]) hx hb dX0_upper_28 hl (by decide) rfl (fun ls hl => ?_)
    refine lv_iload hx hb dX0_upper_30 (lv_at hl 1 rfl) ?_
    refine lv_iconst (v := 4) hx hb dX0_upper_32 (by decide) ?_
    refine lv_irem hx hb dX0_upper_33 (by decide) ?_
    refine gw_topi (y := 2) (by decide) ?_
    refine lv_iconst (v := 3) hx hb dX0_upper_34 (by decide) ?_
    refine lv_icmp_ne (tgt := 42) hx hb dX0_upper_35 (by decide) (fun _ => ?_) (fun c => absurd c (by decide))
    refine lv_iconst (v := 0) hx hb dX0_upper_42 (by decide) ?_
    refine lv_istore (lv' := [(6, .int 0), (5, .int 0), (4, .int 10), (2, .long 0), (0, .ref (q 20)), (1, .int p1)]) hx hb dX0_upper_43 hl (by decide) rfl (fun ls hl => ?_)
    refine lv_iload_n hx hb dX0_upper_45 rfl (lv_at hl 5 rfl) ?_
    refine lv_if_ne (tgt := 57) hx hb dX0_upper_46 (by decide) (fun c => absurd c_1 c) (fun _ => ?_)
    refine lv_iload hx hb dX0_upper_49 (lv_at hl 1 rfl) ?_
    refine lv_if_eq (tgt := 90) hx hb dX0_upper_51 (by decide) (fun _ => ?_) (fun c => absurd (by decide) c)
    refine lv_iinc (v := 11) (lv' := [(4, .int 11), (6, .int 0), (5, .int 0), (2, .long 0), (0, .ref (q 20)), (1, .int p1)]) hx hb dX0_upper_90 hl (k := 2) rfl (by decide) (by decide) rfl (fun ls hl => ?_)
    refine lv_goto (tgt := 5) hx hb dX0_upper_93 (by decide) ?_
    refine lv_iload hx hb dX0_upper_5 (lv_at hl 0 rfl) ?_
    refine lv_aload_n hx hb dX0_upper_7 rfl (lv_at hl 4 rfl) ?_
    refine va_get (D := G) (ci := 0) (v := .ref (q 21)) (C := RX0) (T := TX0) (N := 4) hx hb hts iX0 hown hK hP 0 rfl rfl 2 (by decide) (hts _ m_226) (fun _ h9 => h9) rfl dX0_upper_8 ?_
    refine va_alen (D := G) hx hb hK hP 1 1 rfl rfl (v := 16) rfl dX0_upper_11 ?_
    refine lv_icmp_ge (tgt := 96) hx hb dX0_upper_12 (by decide) (fun c => absurd c (by decide)) (fun _ => ?_)
    refine lv_iload hx hb dX0_upper_15 (lv_at hl 0 rfl) ?_
    refine lv_iconst (v := 4) hx hb dX0_upper_17 (by decide) ?_
    refine lv_idiv hx hb dX0_upper_18 (by decide) ?_
    refine gw_topi (y := 2) (by decide) ?_
    refine lv_iconst (v := 3) hx hb dX0_upper_19 (by decide) ?_
    refine lv_icmp_ne (tgt := 27) hx hb dX0_upper_20 (by decide) (fun _ => ?_) (fun c => absurd c (by decide))
    refine lv_iconst (v := 0) hx hb dX0_upper_27 (by decide) ?_
    refine lv_istore (lv' := [(5, .int 0), (4, .int 11), (6, .int 0), (2, .long 0), (0, .ref (q 20)), (1, .int p1)]) hx hb dX0_upper_28 hl (by decide) rfl (fun ls hl => ?_)
    refine lv_iload hx hb dX0_upper_30 (lv_at hl 1 rfl) ?_
    refine lv_iconst (v := 4) hx hb dX0_upper_32 (by decide) ?_
    refine lv_irem hx hb dX0_upper_33 (by decide) ?_
    refine gw_topi (y := 3) (by decide) ?_
    refine lv_iconst (v := 3) hx hb dX0_upper_34 (by decide) ?_
    refine lv_icmp_ne (tgt := 42) hx hb dX0_upper_35 (by decide) (fun c => absurd (by decide) c) (fun _ => ?_)
    refine lv_iconst (v := 1) hx hb dX0_upper_38 (by decide) ?_
    refine lv_goto (tgt := 43) hx hb dX0_upper_39 (by decide) ?_
    refine lv_istore (lv' := [(6, .int 1), (5, .int 0), (4, .int 11), (2, .long 0), (0, .ref (q 20)), (1, .int p1)]) hx hb dX0_upper_43 hl (by decide) rfl (fun ls hl => ?_)
    refine lv_iload_n hx hb dX0_upper_45 rfl (lv_at hl 5 rfl) ?_
    refine lv_if_ne (tgt := 57) hx hb dX0_upper_46 (by decide) (fun c => absurd c_1 c) (fun _ => ?_)
    refine lv_iload hx hb dX0_upper_49 (lv_at hl 1 rfl) ?_
    refine lv_if_eq (tgt := 90) hx hb dX0_upper_51 (by decide) (fun _ => ?_) (fun c => absurd (by decide) c)
    refine lv_iinc (v := 12) (lv' := [(4, .int 12), (6, .int 1), (5, .int 0), (2, .long 0), (0, .ref (q 20)), (1, .int p1)]) hx hb dX0_upper_90 hl (k := 2) rfl (by decide) (by decide) rfl (fun ls hl => ?_)
    refine lv_goto (tgt := 5) hx hb dX0_upper_93 (by decide) ?_
    refine lv_iload hx hb dX0_upper_5 (lv_at hl 0 rfl) ?_
    refine lv_aload_n hx hb dX0_upper_7 rfl (lv_at hl 4 rfl) ?_
    refine va_get (D := G) (ci := 0) (v := .ref (q 21)) (C := RX0) (T := TX0) (N := 4) hx hb hts iX0 hown hK hP 0 rfl rfl 2 (by decide) (hts _ m_226) (fun _ h9 => h9) rfl dX0_upper_8 ?_
    refine va_alen (D := G) hx hb hK hP 1 1 rfl rfl (v := 16) rfl dX0_upper_11 ?_
    refine lv_icmp_ge (tgt := 96) hx hb dX0_upper_12 (by decide) (fun c => absurd c (by decide)) (fun _ => ?_)
    refine lv_iload hx hb dX0_upper_15 (lv_at hl 0 rfl) ?_
    refine lv_iconst (v := 4) hx hb dX0_upper_17 (by decide) ?_
    refine lv_idiv hx hb dX0_upper_18 (by decide) ?_
    refine gw_topi (y := 3) (by decide) ?_
    refine lv_iconst (v := 3) hx hb dX0_upper_19 (by decide) ?_
    refine lv_icmp_ne (tgt := 27) hx hb dX0_upper_20 (by decide) (fun c => absurd (by decide) c) (fun _ => ?_)
    refine lv_iconst (v := 1) hx hb dX0_upper_23 (by decide) ?_
    refine lv_goto (tgt := 28) hx hb dX0_upper_24 (by decide) ?_
    refine lv_istore (lv' := [(5, .int 1), (4, .int 12), (6, .int 1), (2, .long 0), (0, .ref (q 20)), (1, .int p1)]) hx hb dX0_upper_28 hl (by decide) rfl (fun ls hl => ?_)
    refine lv_iload hx hb dX0_upper_30 (lv_at hl 1 rfl) ?_
    refine lv_iconst (v := 4) hx hb dX0_upper_32 (by decide) ?_
    refine lv_irem hx hb dX0_upper_33 (by decide) ?_
    refine gw_topi (y := 0) (by decide) ?_
    refine lv_iconst (v := 3) hx hb dX0_upper_34 (by decide) ?_
    refine lv_icmp_ne (tgt := 42) hx hb dX0_upper_35 (by decide) (fun _ => ?_) (fun c => absurd c (by decide))
    refine lv_iconst (v := 0) hx hb dX0_upper_42 (by decide) ?_
    refine lv_istore (lv' := [(6, .int 0), (5, .int 1), (4, .int 12), (2, .long 0), (0, .ref (q 20)), (1, .int p1)]) hx hb dX0_upper_43 hl (by decide) rfl (fun ls hl => ?_)
    refine lv_iload_n hx hb dX0_upper_45 rfl (lv_at hl 5 rfl) ?_
    refine lv_if_ne (tgt := 57) hx hb dX0_upper_46 (by decide) (fun c => absurd c_1 c) (fun _ => ?_)
    refine lv_iload hx hb dX0_upper_49 (lv_at hl 1 rfl) ?_
    refine lv_if_eq (tgt := 90) hx hb dX0_upper_51 (by decide) (fun c => absurd c (by decide)) (fun _ => ?_)
    refine lv_goto (tgt := 80) hx hb dX0_upper_54 (by decide) ?_
    refine lv_lload_n hx hb dX0_upper_80 rfl (lv_at hl 3 rfl) ?_
    refine lv_aload_n hx hb dX0_upper_81 rfl (lv_at hl 4 rfl) ?_
    refine va_get (D := G) (ci := 0) (v := .ref (q 21)) (C := RX0) (T := TX0) (N := 4) hx hb hts iX0 hown hK hP 0 rfl rfl 2 (by decide) (hts _ m_226) (fun _ h9 => h9) rfl dX0_upper_82 ?_
    refine lv_iload hx hb dX0_upper_85 (lv_at hl 2 rfl) ?_
    refine gw_lald (x := 0) hx hb hK hP 1 1 12 rfl rfl rfl (by decide) (by decide) rfl dX0_upper_87 ?_
    refine lv_ladd hx hb dX0_upper_88 ?_
    refine gw_topl (y := 0) (by decide) ?_
    refine lv_lstore_n (lv' := [(2, .long 0), (6, .int 0), (5, .int 1), (4, .int 12), (0, .ref (q 20)), (1, .int p1)]) hx hb dX0_upper_89 rfl hl (by decide) rfl (fun ls hl => ?_)
    refine lv_iinc (v := 13) (lv' := [(4, .int 13), (2, .long 0), (6, .int 0), (5, .int 1), (0, .ref (q 20)), (1, .int p1)]) hx hb dX0_upper_90 hl (k := 3) rfl (by decide) (by decide) rfl (fun ls hl => ?_)
    refine lv_goto (tgt := 5) hx hb dX0_upper_93 (by decide) ?_
    refine lv_iload hx hb dX0_upper_5 (lv_at hl 0 rfl) ?_
    refine lv_aload_n hx hb dX0_upper_7 rfl (lv_at hl 4 rfl) ?_
    refine va_get (D := G) (ci := 0) (v := .ref (q 21)) (C := RX0) (T := TX0) (N := 4) hx hb hts iX0 hown hK hP 0 rfl rfl 2 (by decide) (hts _ m_226) (fun _ h9 => h9) rfl dX0_upper_8 ?_
    refine va_alen (D := G) hx hb hK hP 1 1 rfl rfl (v := 16) rfl dX0_upper_11 ?_
    refine lv_icmp_ge (tgt := 96) hx hb dX0_upper_12 (by decide) (fun c => absurd c (by decide)) (fun _ => ?_)
    refine lv_iload hx hb dX0_upper_15 (lv_at hl 0 rfl) ?_
    refine lv_iconst (v := 4) hx hb dX0_upper_17 (by decide) ?_
    refine lv_idiv hx hb dX0_upper_18 (by decide) ?_
    refine gw_topi (y := 3) (by decide) ?_
    refine lv_iconst (v := 3) hx hb dX0_upper_19 (by decide) ?_
    refine lv_icmp_ne (tgt := 27) hx hb dX0_upper_20 (by decide) (fun c => absurd (by decide) c) (fun _ => ?_)
    refine lv_iconst (v := 1) hx hb dX0_upper_23 (by decide) ?_
    refine lv_goto (tgt := 28) hx hb dX0_upper_24 (by decide) ?_
    refine lv_istore (lv' := [(5, .int 1), (4, .int 13), (2, .long 0), (6, .int 0), (0, .ref (q 20)), (1, .int p1)]) hx hb dX0_upper_28 hl (by decide) rfl (fun ls hl => ?_)
    refine lv_iload hx hb dX0_upper_30 (lv_at hl 1 rfl) ?_
    refine lv_iconst (v := 4) hx hb dX0_upper_32 (by decide) ?_
    refine lv_irem hx hb dX0_upper_33 (by decide) ?_
    refine gw_topi (y := 1) (by decide) ?_
    refine lv_iconst (v := 3) hx hb dX0_upper_34 (by decide) ?_
    refine lv_icmp_ne (tgt := 42) hx hb dX0_upper_35 (by decide) (fun _ => ?_) (fun c => absurd c (by decide))
    refine lv_iconst (v := 0) hx hb dX0_upper_42 (by decide) ?_
    refine lv_istore (lv' := [(6, .int 0), (5, .int 1), (4, .int 13), (2, .long 0), (0, .ref (q 20)), (1, .int p1)]) hx hb dX0_upper_43 hl (by decide) rfl (fun ls hl => ?_)
    refine lv_iload_n hx hb dX0_upper_45 rfl (lv_at hl 5 rfl) ?_
    refine lv_if_ne (tgt := 57) hx hb dX0_upper_46 (by decide) (fun c => absurd c_1 c) (fun _ => ?_)
    refine lv_iload hx hb dX0_upper_49 (lv_at hl 1 rfl) ?_
    refine lv_if_eq (tgt := 90) hx hb dX0_upper_51 (by decide) (fun c => absurd c (by decide)) (fun _ => ?_)
    refine lv_goto (tgt := 80) hx hb dX0_upper_54 (by decide) ?_
    refine lv_lload_n hx hb dX0_upper_80 rfl (lv_at hl 3 rfl) ?_
    refine lv_aload_n hx hb dX0_upper_81 rfl (lv_at hl 4 rfl) ?_
    refine va_get (D := G) (ci := 0) (v := .ref (q 21)) (C := RX0) (T := TX0) (N := 4) hx hb hts iX0 hown hK hP 0 rfl rfl 2 (by decide) (hts _ m_226) (fun _ h9 => h9) rfl dX0_upper_82 ?_
    refine lv_iload hx hb dX0_upper_85 (lv_at hl 2 rfl) ?_
    refine gw_lald (x := 0) hx hb hK hP 1 1 13 rfl rfl rfl (by decide) (by decide) rfl dX0_upper_87 ?_
    refine lv_ladd hx hb dX0_upper_88 ?_
    refine gw_topl (y := 0) (by decide) ?_
    refine lv_lstore_n (lv' := [(2, .long 0), (6, .int 0), (5, .int 1), (4, .int 13), (0, .ref (q 20)), (1, .int p1)]) hx hb dX0_upper_89 rfl hl (by decide) rfl (fun ls hl => ?_)
    refine lv_iinc (v := 14) (lv' := [(4, .int 14), (2, .long 0), (6, .int 0), (5, .int 1), (0, .ref (q 20)), (1, .int p1)]) hx hb dX0_upper_90 hl (k := 3) rfl (by decide) (by decide) rfl (fun ls hl => ?_)
    refine lv_goto (tgt := 5) hx hb dX0_upper_93 (by decide) ?_
    refine lv_iload hx hb dX0_upper_5 (lv_at hl 0 rfl) ?_
    refine lv_aload_n hx hb dX0_upper_7 rfl (lv_at hl 4 rfl) ?_
    refine va_get (D := G) (ci := 0) (v := .ref (q 21)) (C := RX0) (T := TX0) (N := 4) hx hb hts iX0 hown hK hP 0 rfl rfl 2 (by decide) (hts _ m_226) (fun _ h9 => h9) rfl dX0_upper_8 ?_
    refine va_alen (D := G) hx hb hK hP 1 1 rfl rfl (v := 16) rfl dX0_upper_11 ?_
    refine lv_icmp_ge (tgt := 96) hx hb dX0_upper_12 (by decide) (fun c => absurd c (by decide)) (fun _ => ?_)
    refine lv_iload hx hb dX0_upper_15 (lv_at hl 0 rfl) ?_
    refine lv_iconst (v := 4) hx hb dX0_upper_17 (by decide) ?_
    refine lv_idiv hx hb dX0_upper_18 (by decide) ?_
    refine gw_topi (y := 3) (by decide) ?_
    refine lv_iconst (v := 3) hx hb dX0_upper_19 (by decide) ?_
    refine lv_icmp_ne (tgt := 27) hx hb dX0_upper_20 (by decide) (fun c => absurd (by decide) c) (fun _ => ?_)
    refine lv_iconst (v := 1) hx hb dX0_upper_23 (by decide) ?_
    refine lv_goto (tgt := 28) hx hb dX0_upper_24 (by decide) ?_
    refine lv_istore (lv' := [(5, .int 1), (4, .int 14), (2, .long 0), (6, .int 0), (0, .ref (q 20)), (1, .int p1)]) hx hb dX0_upper_28 hl (by decide) rfl (fun ls hl => ?_)
    refine lv_iload hx hb dX0_upper_30 (lv_at hl 1 rfl) ?_
    refine lv_iconst (v := 4) hx hb dX0_upper_32 (by decide) ?_
    refine lv_irem hx hb dX0_upper_33 (by decide) ?_
    refine gw_topi (y := 2) (by decide) ?_
    refine lv_iconst (v := 3) hx hb dX0_upper_34 (by decide) ?_
    refine lv_icmp_ne (tgt := 42) hx hb dX0_upper_35 (by decide) (fun _ => ?_) (fun c => absurd c (by decide))
    refine lv_iconst (v := 0) hx hb dX0_upper_42 (by decide) ?_
    refine lv_istore (lv' := [(6, .int 0), (5, .int 1), (4, .int 14), (2, .long 0), (0, .ref (q 20)), (1, .int p1)]) hx hb dX0_upper_43 hl (by decide) rfl (fun ls hl => ?_)
    refine lv_iload_n hx hb dX0_upper_45 rfl (lv_at hl 5 rfl) ?_
    refine lv_if_ne (tgt := 57) hx hb dX0_upper_46 (by decide) (fun c => absurd c_1 c) (fun _ => ?_)
    refine lv_iload hx hb dX0_upper_49 (lv_at hl 1 rfl) ?_
    refine lv_if_eq (tgt := 90) hx hb dX0_upper_51 (by decide) (fun c => absurd c (by decide)) (fun _ => ?_)
    refine lv_goto (tgt := 80) hx hb dX0_upper_54 (by decide) ?_
    refine lv_lload_n hx hb dX0_upper_80 rfl (lv_at hl 3 rfl) ?_
    refine lv_aload_n hx hb dX0_upper_81 rfl (lv_at hl 4 rfl) ?_
    refine va_get (D := G) (ci := 0) (v := .ref (q 21)) (C := RX0) (T := TX0) (N := 4) hx hb hts iX0 hown hK hP 0 rfl rfl 2 (by decide) (hts _ m_226) (fun _ h9 => h9) rfl dX0_upper_82 ?_
    refine lv_iload hx hb dX0_upper_85 (lv_at hl 2 rfl) ?_
    refine gw_lald (x := 0) hx hb hK hP 1 1 14 rfl rfl rfl (by decide) (by decide) rfl dX0_upper_87 ?_
    refine lv_ladd hx hb dX0_upper_88 ?_
    refine gw_topl (y := 0) (by decide) ?_
    refine lv_lstore_n (lv' := [(2, .long 0), (6, .int 0), (5, .int 1), (4, .int 14), (0, .ref (q 20)), (1, .int p1)]) hx hb dX0_upper_89 rfl hl (by decide) rfl (fun ls hl => ?_)
    refine lv_iinc (v := 15) (lv' := [(4, .int 15), (2, .long 0), (6, .int 0), (5, .int 1), (0, .ref (q 20)), (1, .int p1)]) hx hb dX0_upper_90 hl (k := 3) rfl (by decide) (by decide) rfl (fun ls hl => ?_)
    refine lv_goto (tgt := 5) hx hb dX0_upper_93 (by decide) ?_
    refine lv_iload hx hb dX0_upper_5 (lv_at hl 0 rfl) ?_
    refine lv_aload_n hx hb dX0_upper_7 rfl (lv_at hl 4 rfl) ?_
    refine va_get (D := G) (ci := 0) (v := .ref (q 21)) (C := RX0) (T := TX0) (N := 4) hx hb hts iX0 hown hK hP 0 rfl rfl 2 (by decide) (hts _ m_226) (fun _ h9 => h9) rfl dX0_upper_8 ?_
    refine va_alen (D := G) hx hb hK hP 1 1 rfl rfl (v := 16) rfl dX0_upper_11 ?_
    refine lv_icmp_ge (tgt := 96) hx hb dX0_upper_12 (by decide) (fun c => absurd c (by decide)) (fun _ => ?_)
    refine lv_iload hx hb dX0_upper_15 (lv_at hl 0 rfl) ?_
    refine lv_iconst (v := 4) hx hb dX0_upper_17 (by decide) ?_
    refine lv_idiv hx hb dX0_upper_18 (by decide) ?_
    refine gw_topi (y := 3) (by decide) ?_
    refine lv_iconst (v := 3) hx hb dX0_upper_19 (by decide) ?_
    refine lv_icmp_ne (tgt := 27) hx hb dX0_upper_20 (by decide) (fun c => absurd (by decide) c) (fun _ => ?_)
    refine lv_iconst (v := 1) hx hb dX0_upper_23 (by decide) ?_
    refine lv_goto (tgt := 28) hx hb dX0_upper_24 (by decide) ?_
    refine lv_istore (lv' := [(5, .int 1), (4, .int 15), (2, .long 0), (6, .int 0), (0, .ref (q 20)), (1, .int p1)]) hx hb dX0_upper_28 hl (by decide) rfl (fun ls hl => ?_)
    refine lv_iload hx hb dX0_upper_30 (lv_at hl 1 rfl) ?_
    refine lv_iconst (v := 4) hx hb dX0_upper_32 (by decide) ?_
    refine lv_irem hx hb dX0_upper_33 (by decide) ?_
    refine gw_topi (y := 3) (by decide) ?_
    refine lv_iconst (v := 3) hx hb dX0_upper_34 (by decide) ?_
    refine lv_icmp_ne (tgt := 42) hx hb dX0_upper_35 (by decide) (fun c => absurd (by decide) c) (fun _ => ?_)
    refine lv_iconst (v := 1) hx hb dX0_upper_38 (by decide) ?_
    refine lv_goto (tgt := 43) hx hb dX0_upper_39 (by decide) ?_
    refine lv_istore (lv' := [(6, .int 1), (5, .int 1), (4, .int 15), (2, .long 0), (0, .ref (q 20)), (1, .int p1)]) hx hb dX0_upper_43 hl (by decide) rfl (fun ls hl => ?_)
    refine lv_iload_n hx hb dX0_upper_45 rfl (lv_at hl 5 rfl) ?_
    refine lv_if_ne (tgt := 57) hx hb dX0_upper_46 (by decide) (fun c => absurd c_1 c) (fun _ => ?_)
    refine lv_iload hx hb dX0_upper_49 (lv_at hl 1 rfl) ?_
    refine lv_if_eq (tgt := 90) hx hb dX0_upper_51 (by decide) (fun c => absurd c (by decide)) (fun _ => ?_)
    refine lv_goto (tgt := 80) hx hb dX0_upper_54 (by decide) ?_
    refine lv_lload_n hx hb dX0_upper_80 rfl (lv_at hl 3 rfl) ?_
    refine lv_aload_n hx hb dX0_upper_81 rfl (lv_at hl 4 rfl) ?_
    refine va_get (D := G) (ci := 0) (v := .ref (q 21)) (C := RX0) (T := TX0) (N := 4) hx hb hts iX0 hown hK hP 0 rfl rfl 2 (by decide) (hts _ m_226) (fun _ h9 => h9) rfl dX0_upper_82 ?_
    refine lv_iload hx hb dX0_upper_85 (lv_at hl 2 rfl) ?_
    refine gw_lald (x := 0) hx hb hK hP 1 1 15 rfl rfl rfl (by decide) (by decide) rfl dX0_upper_87 ?_
    refine lv_ladd hx hb dX0_upper_88 ?_
    refine gw_topl (y := 0) (by decide) ?_
    refine lv_lstore_n (lv' := [(2, .long 0), (6, .int 1), (5, .int 1), (4, .int 15), (0, .ref (q 20)), (1, .int p1)]) hx hb dX0_upper_89 rfl hl (by decide) rfl (fun ls hl => ?_)
    refine lv_iinc (v := 16) (lv' := [(4, .int 16), (2, .long 0), (6, .int 1), (5, .int 1), (0, .ref (q 20)), (1, .int p1)]) hx hb dX0_upper_90 hl (k := 3) rfl (by decide) (by decide) rfl (fun ls hl => ?_)
    refine lv_goto (tgt := 5) hx hb dX0_upper_93 (by decide) ?_
    refine lv_iload hx hb dX0_upper_5 (lv_at hl 0 rfl) ?_
    refine lv_aload_n hx hb dX0_upper_7 rfl (lv_at hl 4 rfl) ?_
    refine va_get (D := G) (ci := 0) (v := .ref (q 21)) (C := RX0) (T := TX0) (N := 4) hx hb hts iX0 hown hK hP 0 rfl rfl 2 (by decide) (hts _ m_226) (fun _ h9 => h9) rfl dX0_upper_8 ?_
    refine va_alen (D := G) hx hb hK hP 1 1 rfl rfl (v := 16) rfl dX0_upper_11 ?_
    refine lv_icmp_ge (tgt := 96) hx hb dX0_upper_12 (by decide) (fun _ => ?_) (fun c => absurd (by decide) c)
    refine lv_lload_n hx hb dX0_upper_96 rfl (lv_at hl 1 rfl) ?_
    exact gw_lret () hx hb hr hlocks hP hD hS rfl dX0_upper_97
set_option maxHeartbeats 4000000 in
set_option maxRecDepth 100000 in
theorem c_gcd10 (l : Launch) (G : va_G) (cI cJ cZ cB cT : ClassId)   : gMl l yX8_commonDivisor (gws yX8_commonDivisor cX8_commonDivisor 11 (some .long)) 1 G (gT cI cJ cZ cB cT) [.long 1, .long 0] [] (fun r (_ : Unit) => r = 1) (fun (_ : Unit) => ([] : va_W)) := by
  intro sz
  refine gM_start (y := yX8_commonDivisor) (av := [.long 1, .long 0]) (ws := []) (Qf := fun A => va_Ql (fun r (_ : Unit) => r = 1) (gB G (fun (_ : Unit) => ([] : va_W)) A) A) (cc := cX8_commonDivisor) (maxL := 11) (ret := (some .long)) (by decide) (Nat.le_of_ble_eq_true rfl) ?_
  intro p e s m args below meth c A ls H hx hb hr hts hown hin hlocks hml hP hK hD hA hS hl
  have hl : lv_has ls 11 [(0, .long 1), (2, .long 0)] := hl
  refine lv_lload_n hx hb dX8_commonDivisor_0 rfl (lv_at hl 0 rfl) ?_
  refine lv_lstore (lv' := [(4, .long 1), (0, .long 1), (2, .long 0)]) hx hb dX8_commonDivisor_1 hl (by decide) rfl (fun ls hl => ?_)
  refine lv_lload_n hx hb dX8_commonDivisor_3 rfl (lv_at hl 2 rfl) ?_
  refine lv_lstore (lv' := [(6, .long 0), (4, .long 1), (0, .long 1), (2, .long 0)]) hx hb dX8_commonDivisor_4 hl (by decide) rfl (fun ls hl => ?_)
  refine lv_iconst (v := 0) hx hb dX8_commonDivisor_6 (by decide) ?_
  refine lv_istore (lv' := [(8, .int 0), (6, .long 0), (4, .long 1), (0, .long 1), (2, .long 0)]) hx hb dX8_commonDivisor_7 hl (by decide) rfl (fun ls hl => ?_)
  refine lv_iload hx hb dX8_commonDivisor_9 (lv_at hl 0 rfl) ?_
  refine lv_sipush (v := 200) hx hb dX8_commonDivisor_11 (by decide) ?_
  refine lv_icmp_ge (tgt := 45) hx hb dX8_commonDivisor_14 (by decide) (fun c => absurd c (by decide)) (fun _ => ?_)
  refine lv_lload hx hb dX8_commonDivisor_17 (lv_at hl 1 rfl) ?_
  refine lv_lconst (v := 0) hx hb dX8_commonDivisor_19 (by decide) ?_
  refine W.lcmp hx hb dX8_commonDivisor_20 ?_
  refine gw_topi (y := 0) (by decide) ?_
  refine lv_if_eq (tgt := 45) hx hb dX8_commonDivisor_21 (by decide) (fun _ => ?_) (fun c => absurd (by decide) c)
  refine lv_lload hx hb dX8_commonDivisor_45 (lv_at hl 2 rfl) ?_
  refine lv_lconst (v := 0) hx hb dX8_commonDivisor_47 (by decide) ?_
  refine W.lcmp hx hb dX8_commonDivisor_48 ?_
  refine gw_topi (y := 1) (by decide) ?_
  refine lv_if_le (tgt := 57) hx hb dX8_commonDivisor_49 (by decide) (fun c => absurd c (by decide)) (fun _ => ?_)
  refine lv_lload hx hb dX8_commonDivisor_52 (lv_at hl 2 rfl) ?_
  refine lv_goto (tgt := 58) hx hb dX8_commonDivisor_54 (by decide) ?_
  exact gw_lret () hx hb hr hlocks hP hD hS rfl dX8_commonDivisor_58
def v_X8_odds (p1 : Int32) (p2 : Int32) (p3 : Int32) : Int64 := (if (v_X8_isLetter p1) = 0 then (-1) else (if p2 < 0 then (-1) else (if p2 ≤ 2 then (if p3 = 0 then 0 else 1) else (-1))))
theorem e_X0_begin : yX0_begin.cls = RX0 ∧ yX0_begin.cls ≠ "java/lang/invoke/MethodHandle" ∧ yX0_begin.cls ≠ "java/lang/invoke/VarHandle" ∧ (parseMethodDescriptor yX0_begin.desc).map (fun d => d.parameters.length) = some 2 := by decide +kernel
theorem e_X0_upper : yX0_upper.cls = RX0 ∧ yX0_upper.cls ≠ "java/lang/invoke/MethodHandle" ∧ yX0_upper.cls ≠ "java/lang/invoke/VarHandle" ∧ (parseMethodDescriptor yX0_upper.desc).map (fun d => d.parameters.length) = some 1 := by decide +kernel
theorem e_X8_commonDivisor : yX8_commonDivisor.cls = RX8 ∧ yX8_commonDivisor.cls ≠ "java/lang/invoke/MethodHandle" ∧ yX8_commonDivisor.cls ≠ "java/lang/invoke/VarHandle" ∧ (parseMethodDescriptor yX8_commonDivisor.desc).map (fun d => d.parameters.length) = some 2 := by decide +kernel
set_option maxHeartbeats 4000000 in
set_option maxRecDepth 100000 in
theorem c_X8_odds (l : Launch) (G : va_G) (cI cJ cZ cB cT : ClassId) (q : Nat → Nat) (p1 : Int32) (p2 : Int32) (p3 : Int32)  : gMl l yX8_odds (gws yX8_odds cX8_odds 8 (some .long)) 2 G (gT cI cJ cZ cB cT) [.ref (q 0), .int p1, .int p2, .int p3] [((q 0), .inr (8, [.ref (q 1), .ref (q 5), .ref (q 9), .ref (q 11), .ref (q 15), .ref (q 16), .ref (q 20), .ref (q 23)])), ((q 1), .inr (4, [.ref (q 2), .ref (q 3), .ref (q 4), .int 0, .int 0, .int 0, .int 0, .int 0, .int 9, .int 0, .int (-1), .int 0, .int 0])), ((q 2), .inl (cI, 90, .inl (fun _ => 0))), ((q 3), .inl (cI, 12, .inl (fun _ => 0))), ((q 4), .inl (cI, 1880, .inl (fun _ => 0))), ((q 20), .inr (0, [.int 0, .long 1, .ref (q 21), .ref (q 22)])), ((q 21), .inl (cJ, 16, .inr (.inl (fun _ => 0))))] (fun r (_ : Unit) => r = (v_X8_odds p1 p2 p3)) (fun (_ : Unit) => ([] : va_W)) := by
  intro sz
  refine gM_start (y := yX8_odds) (av := [.ref (q 0), .int p1, .int p2, .int p3]) (ws := [((q 0), .inr (8, [.ref (q 1), .ref (q 5), .ref (q 9), .ref (q 11), .ref (q 15), .ref (q 16), .ref (q 20), .ref (q 23)])), ((q 1), .inr (4, [.ref (q 2), .ref (q 3), .ref (q 4), .int 0, .int 0, .int 0, .int 0, .int 0, .int 9, .int 0, .int (-1), .int 0, .int 0])), ((q 2), .inl (cI, 90, .inl (fun _ => 0))), ((q 3), .inl (cI, 12, .inl (fun _ => 0))), ((q 4), .inl (cI, 1880, .inl (fun _ => 0))), ((q 20), .inr (0, [.int 0, .long 1, .ref (q 21), .ref (q 22)])), ((q 21), .inl (cJ, 16, .inr (.inl (fun _ => 0))))]) (Qf := fun A => va_Ql (fun r (_ : Unit) => r = (v_X8_odds p1 p2 p3)) (gB G (fun (_ : Unit) => ([] : va_W)) A) A) (cc := cX8_odds) (maxL := 8) (ret := (some .long)) (by decide) (Nat.le_of_ble_eq_true rfl) ?_
  intro p e s m args below meth c A ls H hx hb hr hts hown hin hlocks hml hP hK hD hA hS hl
  have hl : lv_has ls 8 [(0, .ref (q 0)), (1, .int p1), (2, .int p2), (3, .int p3)] := hl
  refine lv_iload_n hx hb dX8_odds_0 rfl (lv_at hl 1 rfl) ?_
  refine gw_calli (gw_runS (As := [.int p1]) (rest := []) ⟨hx, hb, hml, hown, hts⟩ (c_X8_isLetter l G cI cJ cZ cB cT p1  H.size) (gG_S m_43 m_44 m_45 m_42) rfl e_X8_isLetter ⟨Nat.le_of_ble_eq_true rfl, Nat.le_of_ble_eq_true rfl⟩ hK hP hD [] rfl (by decide) rfl rfl hl.1 rfl (Nat.le_of_ble_eq_true rfl) dX8_odds_1 ⟨Nat.le_of_ble_eq_true rfl, Nat.le_of_ble_eq_true rfl⟩) hP hD hS hA [] [0, 1, 2, 3, 4, 5, 6] rfl rfl (by decide) (by decide) (fun r_1 u_1 H locs hw_1 hP hD hS => ?_)
  subst hw_1
  have hP : va_P G vwCl [((q 0), .inr (8, [.ref (q 1), .ref (q 5), .ref (q 9), .ref (q 11), .ref (q 15), .ref (q 16), .ref (q 20), .ref (q 23)])), ((q 1), .inr (4, [.ref (q 2), .ref (q 3), .ref (q 4), .int 0, .int 0, .int 0, .int 0, .int 0, .int 9, .int 0, .int (-1), .int 0, .int 0])), ((q 2), .inl (cI, 90, .inl (fun _ => 0))), ((q 3), .inl (cI, 12, .inl (fun _ => 0))), ((q 4), .inl (cI, 1880, .inl (fun _ => 0))), ((q 20), .inr (0, [.int 0, .long 1, .ref (q 21), .ref (q 22)])), ((q 21), .inl (cJ, 16, .inr (.inl (fun _ => 0))))] H := hP
  have hD : va_D A [((q 0), .inr (8, [.ref (q 1), .ref (q 5), .ref (q 9), .ref (q 11), .ref (q 15), .ref (q 16), .ref (q 20), .ref (q 23)])), ((q 1), .inr (4, [.ref (q 2), .ref (q 3), .ref (q 4), .int 0, .int 0, .int 0, .int 0, .int 0, .int 9, .int 0, .int (-1), .int 0, .int 0])), ((q 2), .inl (cI, 90, .inl (fun _ => 0))), ((q 3), .inl (cI, 12, .inl (fun _ => 0))), ((q 4), .inl (cI, 1880, .inl (fun _ => 0))), ((q 20), .inr (0, [.int 0, .long 1, .ref (q 21), .ref (q 22)])), ((q 21), .inl (cJ, 16, .inr (.inl (fun _ => 0))))] := hD
  refine lv_if_eq (tgt := 16) hx hb dX8_odds_4 (by decide) (fun c_2 => ?_) (fun c_2 => ?_)
  · refine lv_ldc2 (v := (-1)) hx hb hown (hts _ m_227) dX8_odds_16 ?_
    exact gw_lret () hx hb hr hlocks (hP.sub [] rfl) (hD.sub [] (by decide) rfl) hS (by rw [v_X8_odds, if_pos c_2]) dX8_odds_19
  · refine lv_iload_n hx hb dX8_odds_7 rfl (lv_at hl 2 rfl) ?_
    refine lv_if_lt (tgt := 16) hx hb dX8_odds_8 (by decide) (fun c_3 => ?_) (fun c_3 => ?_)
    · refine lv_ldc2 (v := (-1)) hx hb hown (hts _ m_227) dX8_odds_16 ?_
      exact gw_lret () hx hb hr hlocks (hP.sub [] rfl) (hD.sub [] (by decide) rfl) hS (by rw [v_X8_odds, if_neg c_2, if_pos c_3]) dX8_odds_19
    · refine lv_iload_n hx hb dX8_odds_11 rfl (lv_at hl 2 rfl) ?_
      refine lv_iconst (v := 2) hx hb dX8_odds_12 (by decide) ?_
      refine lv_icmp_le (tgt := 20) hx hb dX8_odds_13 (by decide) (fun c_4 => ?_) (fun c_4 => ?_)
      · refine lv_aload_n hx hb dX8_odds_20 rfl (lv_at hl 0 rfl) ?_
        refine va_get (D := G) (ci := 8) (v := .ref (q 20)) (C := RX8) (T := TX8) (N := 8) hx hb hts iX8 hown hK hP 0 rfl rfl 6 (by decide) (hts _ m_228) (fun _ h9 => h9) rfl dX8_odds_21 ?_
        refine lv_aload_n hx hb dX8_odds_24 rfl (lv_at hl 0 rfl) ?_
        refine lv_iload_n hx hb dX8_odds_25 rfl (lv_at hl 1 rfl) ?_
        refine lv_iconst (v := 0) hx hb dX8_odds_26 (by decide) ?_
        refine lv_sipush (v := 999) hx hb dX8_odds_27 (by decide) ?_
        refine lv_bipush (v := 10) hx hb dX8_odds_30 (by decide) ?_
        refine gw_calli (gw_runV (As := [.int p1, .int 0, .int 999, .int 10]) (rest := [.ref (q 20)]) ⟨hx, hb, hml, hown, hts⟩ (c_halvesHad0 l G cI cJ cZ cB cT q p1 0 999 10  H.size) (gG_V m_216 m_217 m_218 m_45 m_215) rfl e_X8_halvesHad ⟨Nat.le_of_ble_eq_true rfl, Nat.le_of_ble_eq_true rfl⟩ hK hP hD [0, 1, 2, 3, 4] rfl (by decide) rfl 0 rfl rfl rfl hl.1 rfl (Nat.le_of_ble_eq_true rfl) dX8_odds_32 ⟨Nat.le_of_ble_eq_true rfl, Nat.le_of_ble_eq_true rfl⟩) hP hD hS hA [0, 1, 2, 3, 4] [5, 6] rfl rfl (by decide) (by decide) (fun r_5 u_5 H locs hw_5 hP hD hS => ?_)
        subst hw_5
        have hP : va_P G vwCl [((q 20), .inr (0, [.int 0, .long 1, .ref (q 21), .ref (q 22)])), ((q 21), .inl (cJ, 16, .inr (.inl (fun _ => 0)))), ((q 0), .inr (8, [.ref (q 1), .ref (q 5), .ref (q 9), .ref (q 11), .ref (q 15), .ref (q 16), .ref (q 20), .ref (q 23)])), ((q 1), .inr (4, [.ref (q 2), .ref (q 3), .ref (q 4), .int 0, .int 0, .int 0, .int 0, .int 0, .int 9, .int 0, .int (-1), .int 0, .int 0])), ((q 2), .inl (cI, 90, .inl (fun _ => 0))), ((q 3), .inl (cI, 12, .inl (fun _ => 0))), ((q 4), .inl (cI, 1880, .inl (fun _ => 0)))] H := hP
        have hD : va_D A [((q 20), .inr (0, [.int 0, .long 1, .ref (q 21), .ref (q 22)])), ((q 21), .inl (cJ, 16, .inr (.inl (fun _ => 0)))), ((q 0), .inr (8, [.ref (q 1), .ref (q 5), .ref (q 9), .ref (q 11), .ref (q 15), .ref (q 16), .ref (q 20), .ref (q 23)])), ((q 1), .inr (4, [.ref (q 2), .ref (q 3), .ref (q 4), .int 0, .int 0, .int 0, .int 0, .int 0, .int 9, .int 0, .int (-1), .int 0, .int 0])), ((q 2), .inl (cI, 90, .inl (fun _ => 0))), ((q 3), .inl (cI, 12, .inl (fun _ => 0))), ((q 4), .inl (cI, 1880, .inl (fun _ => 0)))] := hD
        refine lv_aload_n hx hb dX8_odds_35 rfl (lv_at hl 0 rfl) ?_
        refine lv_iload_n hx hb dX8_odds_36 rfl (lv_at hl 1 rfl) ?_
        refine lv_iconst (v := 1) hx hb dX8_odds_37 (by decide) ?_
        refine lv_sipush (v := 999) hx hb dX8_odds_38 (by decide) ?_
        refine lv_bipush (v := 10) hx hb dX8_odds_41 (by decide) ?_
        refine gw_calli (gw_runV (As := [.int p1, .int 1, .int 999, .int 10]) (rest := [.int 0, .ref (q 20)]) ⟨hx, hb, hml, hown, hts⟩ (c_halvesHad0 l G cI cJ cZ cB cT q p1 1 999 10  H.size) (gG_V m_216 m_217 m_218 m_45 m_215) rfl e_X8_halvesHad ⟨Nat.le_of_ble_eq_true rfl, Nat.le_of_ble_eq_true rfl⟩ hK hP hD [2, 3, 4, 5, 6] rfl (by decide) rfl 0 rfl rfl rfl hl.1 rfl (Nat.le_of_ble_eq_true rfl) dX8_odds_43 ⟨Nat.le_of_ble_eq_true rfl, Nat.le_of_ble_eq_true rfl⟩) hP hD hS hA [2, 3, 4, 5, 6] [0, 1] rfl rfl (by decide) (by decide) (fun r_6 u_6 H locs hw_6 hP hD hS => ?_)
        subst hw_6
        have hP : va_P G vwCl [((q 20), .inr (0, [.int 0, .long 1, .ref (q 21), .ref (q 22)])), ((q 21), .inl (cJ, 16, .inr (.inl (fun _ => 0)))), ((q 0), .inr (8, [.ref (q 1), .ref (q 5), .ref (q 9), .ref (q 11), .ref (q 15), .ref (q 16), .ref (q 20), .ref (q 23)])), ((q 1), .inr (4, [.ref (q 2), .ref (q 3), .ref (q 4), .int 0, .int 0, .int 0, .int 0, .int 0, .int 9, .int 0, .int (-1), .int 0, .int 0])), ((q 2), .inl (cI, 90, .inl (fun _ => 0))), ((q 3), .inl (cI, 12, .inl (fun _ => 0))), ((q 4), .inl (cI, 1880, .inl (fun _ => 0)))] H := hP
        have hD : va_D A [((q 20), .inr (0, [.int 0, .long 1, .ref (q 21), .ref (q 22)])), ((q 21), .inl (cJ, 16, .inr (.inl (fun _ => 0)))), ((q 0), .inr (8, [.ref (q 1), .ref (q 5), .ref (q 9), .ref (q 11), .ref (q 15), .ref (q 16), .ref (q 20), .ref (q 23)])), ((q 1), .inr (4, [.ref (q 2), .ref (q 3), .ref (q 4), .int 0, .int 0, .int 0, .int 0, .int 0, .int 9, .int 0, .int (-1), .int 0, .int 0])), ((q 2), .inl (cI, 90, .inl (fun _ => 0))), ((q 3), .inl (cI, 12, .inl (fun _ => 0))), ((q 4), .inl (cI, 1880, .inl (fun _ => 0)))] := hD
        refine gw_callv (gw_runV (As := [.int 0, .int 0]) (rest := []) ⟨hx, hb, hml, hown, hts⟩ (c_begin0 l G cI cJ cZ cB cT q  H.size) (gG_V m_230 m_231 m_232 m_233 m_229) rfl e_X0_begin ⟨Nat.le_of_ble_eq_true rfl, Nat.le_of_ble_eq_true rfl⟩ hK hP hD [0, 1] rfl (by decide) rfl 0 rfl rfl rfl hl.1 rfl (Nat.le_of_ble_eq_true rfl) dX8_odds_46 ⟨Nat.le_of_ble_eq_true rfl, Nat.le_of_ble_eq_true rfl⟩) hP hD hS hA [0, 1] [2, 3, 4, 5, 6] rfl rfl (by decide) (by decide) (fun u_7 H locs hw_7 hP hD hS => ?_)
        have hP : va_P G vwCl [((q 0), .inr (8, [.ref (q 1), .ref (q 5), .ref (q 9), .ref (q 11), .ref (q 15), .ref (q 16), .ref (q 20), .ref (q 23)])), ((q 1), .inr (4, [.ref (q 2), .ref (q 3), .ref (q 4), .int 0, .int 0, .int 0, .int 0, .int 0, .int 9, .int 0, .int (-1), .int 0, .int 0])), ((q 2), .inl (cI, 90, .inl (fun _ => 0))), ((q 3), .inl (cI, 12, .inl (fun _ => 0))), ((q 4), .inl (cI, 1880, .inl (fun _ => 0))), ((q 20), .inr (0, [.int 0, .long 1, .ref (q 21), .ref (q 22)])), ((q 21), .inl (cJ, 16, .inr (.inl (vp_updL (vp_updL (vp_updL (vp_updL (vp_updL (vp_updL (vp_updL (vp_updL (vp_updL (vp_updL (vp_updL (vp_updL (vp_updL (vp_updL (vp_updL (vp_updL (fun _ => 0) 0 1) 1 0) 2 0) 3 0) 4 0) 5 0) 6 0) 7 0) 8 0) 9 0) 10 0) 11 0) 12 0) 13 0) 14 0) 15 0))))] H := hP
        have hD : va_D A [((q 0), .inr (8, [.ref (q 1), .ref (q 5), .ref (q 9), .ref (q 11), .ref (q 15), .ref (q 16), .ref (q 20), .ref (q 23)])), ((q 1), .inr (4, [.ref (q 2), .ref (q 3), .ref (q 4), .int 0, .int 0, .int 0, .int 0, .int 0, .int 9, .int 0, .int (-1), .int 0, .int 0])), ((q 2), .inl (cI, 90, .inl (fun _ => 0))), ((q 3), .inl (cI, 12, .inl (fun _ => 0))), ((q 4), .inl (cI, 1880, .inl (fun _ => 0))), ((q 20), .inr (0, [.int 0, .long 1, .ref (q 21), .ref (q 22)])), ((q 21), .inl (cJ, 16, .inr (.inl (vp_updL (vp_updL (vp_updL (vp_updL (vp_updL (vp_updL (vp_updL (vp_updL (vp_updL (vp_updL (vp_updL (vp_updL (vp_updL (vp_updL (vp_updL (vp_updL (fun _ => 0) 0 1) 1 0) 2 0) 3 0) 4 0) 5 0) 6 0) 7 0) 8 0) 9 0) 10 0) 11 0) 12 0) 13 0) 14 0) 15 0))))] := hD
        refine lv_iconst (v := 0) hx hb dX8_odds_49 (by decide) ?_
        refine lv_istore (lv' := [(4, .int 0), (0, .ref (q 0)), (1, .int p1), (2, .int p2), (3, .int p3)]) hx hb dX8_odds_50 hl (by decide) rfl (fun ls hl => ?_)
        refine lv_iload hx hb dX8_odds_52 (lv_at hl 0 rfl) ?_
        refine lv_aload_n hx hb dX8_odds_54 rfl (lv_at hl 1 rfl) ?_
        refine va_get (D := G) (ci := 8) (v := .ref (q 1)) (C := RX8) (T := TX8) (N := 8) hx hb hts iX8 hown hK hP 0 rfl rfl 0 (by decide) (hts _ m_49) (fun _ h9 => h9) rfl dX8_odds_55 ?_
        refine va_get (D := G) (ci := 4) (v := .int 0) (C := RX4) (T := TX4) (N := 13) hx hb hts iX4 hown hK hP 1 rfl rfl 3 (by decide) (hts _ m_91) (fun _ h9 => h9) rfl dX8_odds_58 ?_
        refine lv_icmp_ge (tgt := 115) hx hb dX8_odds_61 (by decide) (fun _ => ?_) (fun c => absurd (by decide) c)
        refine lv_aload_n hx hb dX8_odds_115 rfl (lv_at hl 1 rfl) ?_
        refine va_get (D := G) (ci := 8) (v := .ref (q 20)) (C := RX8) (T := TX8) (N := 8) hx hb hts iX8 hown hK hP 0 rfl rfl 6 (by decide) (hts _ m_228) (fun _ h9 => h9) rfl dX8_odds_116 ?_
        refine va_get (D := G) (ci := 0) (v := .int 0) (C := RX0) (T := TX0) (N := 4) hx hb hts iX0 hown hK hP 5 rfl rfl 0 (by decide) (hts _ m_234) (fun _ h9 => h9) rfl dX8_odds_119 ?_
        refine lv_bipush (v := 8) hx hb dX8_odds_122 (by decide) ?_
        refine lv_icmp_le (tgt := 131) hx hb dX8_odds_124 (by decide) (fun _ => ?_) (fun c => absurd (by decide) c)
        refine lv_aload_n hx hb dX8_odds_131 rfl (lv_at hl 1 rfl) ?_
        refine va_get (D := G) (ci := 8) (v := .ref (q 20)) (C := RX8) (T := TX8) (N := 8) hx hb hts iX8 hown hK hP 0 rfl rfl 6 (by decide) (hts _ m_228) (fun _ h9 => h9) rfl dX8_odds_132 ?_
        refine lv_iload_n hx hb dX8_odds_135 rfl (lv_at hl 3 rfl) ?_
        refine gw_calll (gw_runV (As := [.int p2]) (rest := []) ⟨hx, hb, hml, hown, hts⟩ (c_upper0 l G cI cJ cZ cB cT q p2  H.size) (gG_V m_236 m_237 m_238 m_233 m_235) rfl e_X0_upper ⟨Nat.le_of_ble_eq_true rfl, Nat.le_of_ble_eq_true rfl⟩ hK hP hD [5, 6] rfl (by decide) rfl 0 rfl rfl rfl hl.1 rfl (Nat.le_of_ble_eq_true rfl) dX8_odds_136 ⟨Nat.le_of_ble_eq_true rfl, Nat.le_of_ble_eq_true rfl⟩) hP hD hS hA [5, 6] [0, 1, 2, 3, 4] rfl rfl (by decide) (by decide) (fun r_8 u_8 H locs hw_8 hP hD hS => ?_)
        subst hw_8
        have hP : va_P G vwCl [((q 0), .inr (8, [.ref (q 1), .ref (q 5), .ref (q 9), .ref (q 11), .ref (q 15), .ref (q 16), .ref (q 20), .ref (q 23)])), ((q 1), .inr (4, [.ref (q 2), .ref (q 3), .ref (q 4), .int 0, .int 0, .int 0, .int 0, .int 0, .int 9, .int 0, .int (-1), .int 0, .int 0])), ((q 2), .inl (cI, 90, .inl (fun _ => 0))), ((q 3), .inl (cI, 12, .inl (fun _ => 0))), ((q 4), .inl (cI, 1880, .inl (fun _ => 0))), ((q 20), .inr (0, [.int 0, .long 1, .ref (q 21), .ref (q 22)])), ((q 21), .inl (cJ, 16, .inr (.inl (vp_updL (vp_updL (vp_updL (vp_updL (vp_updL (vp_updL (vp_updL (vp_updL (vp_updL (vp_updL (vp_updL (vp_updL (vp_updL (vp_updL (vp_updL (vp_updL (fun _ => 0) 0 1) 1 0) 2 0) 3 0) 4 0) 5 0) 6 0) 7 0) 8 0) 9 0) 10 0) 11 0) 12 0) 13 0) 14 0) 15 0))))] H := hP
        have hD : va_D A [((q 0), .inr (8, [.ref (q 1), .ref (q 5), .ref (q 9), .ref (q 11), .ref (q 15), .ref (q 16), .ref (q 20), .ref (q 23)])), ((q 1), .inr (4, [.ref (q 2), .ref (q 3), .ref (q 4), .int 0, .int 0, .int 0, .int 0, .int 0, .int 9, .int 0, .int (-1), .int 0, .int 0])), ((q 2), .inl (cI, 90, .inl (fun _ => 0))), ((q 3), .inl (cI, 12, .inl (fun _ => 0))), ((q 4), .inl (cI, 1880, .inl (fun _ => 0))), ((q 20), .inr (0, [.int 0, .long 1, .ref (q 21), .ref (q 22)])), ((q 21), .inl (cJ, 16, .inr (.inl (vp_updL (vp_updL (vp_updL (vp_updL (vp_updL (vp_updL (vp_updL (vp_updL (vp_updL (vp_updL (vp_updL (vp_updL (vp_updL (vp_updL (vp_updL (vp_updL (fun _ => 0) 0 1) 1 0) 2 0) 3 0) 4 0) 5 0) 6 0) 7 0) 8 0) 9 0) 10 0) 11 0) 12 0) 13 0) 14 0) 15 0))))] := hD
        refine lv_lstore (lv' := [(4, .long 0), (0, .ref (q 0)), (1, .int p1), (2, .int p2), (3, .int p3)]) hx hb dX8_odds_139 hl (by decide) rfl (fun ls hl => ?_)
        refine lv_aload_n hx hb dX8_odds_141 rfl (lv_at hl 1 rfl) ?_
        refine va_get (D := G) (ci := 8) (v := .ref (q 20)) (C := RX8) (T := TX8) (N := 8) hx hb hts iX8 hown hK hP 0 rfl rfl 6 (by decide) (hts _ m_228) (fun _ h9 => h9) rfl dX8_odds_142 ?_
        refine va_get (D := G) (ci := 0) (v := .long 1) (C := RX0) (T := TX0) (N := 4) hx hb hts iX0 hown hK hP 5 rfl rfl 1 (by decide) (hts _ m_239) (fun _ h9 => h9) rfl dX8_odds_145 ?_
        refine lv_lload hx hb dX8_odds_148 (lv_at hl 0 rfl) ?_
        refine gw_calll (gw_runS (As := [.long 1, .long 0]) (rest := []) ⟨hx, hb, hml, hown, hts⟩ (c_gcd10 l G cI cJ cZ cB cT   H.size) (gG_S m_241 m_242 m_45 m_240) rfl e_X8_commonDivisor ⟨Nat.le_of_ble_eq_true rfl, Nat.le_of_ble_eq_true rfl⟩ hK hP hD [] rfl (by decide) rfl rfl hl.1 rfl (Nat.le_of_ble_eq_true rfl) dX8_odds_150 ⟨Nat.le_of_ble_eq_true rfl, Nat.le_of_ble_eq_true rfl⟩) hP hD hS hA [] [0, 1, 2, 3, 4, 5, 6] rfl rfl (by decide) (by decide) (fun r_9 u_9 H locs hw_9 hP hD hS => ?_)
        subst hw_9
        have hP : va_P G vwCl [((q 0), .inr (8, [.ref (q 1), .ref (q 5), .ref (q 9), .ref (q 11), .ref (q 15), .ref (q 16), .ref (q 20), .ref (q 23)])), ((q 1), .inr (4, [.ref (q 2), .ref (q 3), .ref (q 4), .int 0, .int 0, .int 0, .int 0, .int 0, .int 9, .int 0, .int (-1), .int 0, .int 0])), ((q 2), .inl (cI, 90, .inl (fun _ => 0))), ((q 3), .inl (cI, 12, .inl (fun _ => 0))), ((q 4), .inl (cI, 1880, .inl (fun _ => 0))), ((q 20), .inr (0, [.int 0, .long 1, .ref (q 21), .ref (q 22)])), ((q 21), .inl (cJ, 16, .inr (.inl (vp_updL (vp_updL (vp_updL (vp_updL (vp_updL (vp_updL (vp_updL (vp_updL (vp_updL (vp_updL (vp_updL (vp_updL (vp_updL (vp_updL (vp_updL (vp_updL (fun _ => 0) 0 1) 1 0) 2 0) 3 0) 4 0) 5 0) 6 0) 7 0) 8 0) 9 0) 10 0) 11 0) 12 0) 13 0) 14 0) 15 0))))] H := hP
        have hD : va_D A [((q 0), .inr (8, [.ref (q 1), .ref (q 5), .ref (q 9), .ref (q 11), .ref (q 15), .ref (q 16), .ref (q 20), .ref (q 23)])), ((q 1), .inr (4, [.ref (q 2), .ref (q 3), .ref (q 4), .int 0, .int 0, .int 0, .int 0, .int 0, .int 9, .int 0, .int (-1), .int 0, .int 0])), ((q 2), .inl (cI, 90, .inl (fun _ => 0))), ((q 3), .inl (cI, 12, .inl (fun _ => 0))), ((q 4), .inl (cI, 1880, .inl (fun _ => 0))), ((q 20), .inr (0, [.int 0, .long 1, .ref (q 21), .ref (q 22)])), ((q 21), .inl (cJ, 16, .inr (.inl (vp_updL (vp_updL (vp_updL (vp_updL (vp_updL (vp_updL (vp_updL (vp_updL (vp_updL (vp_updL (vp_updL (vp_updL (vp_updL (vp_updL (vp_updL (vp_updL (fun _ => 0) 0 1) 1 0) 2 0) 3 0) 4 0) 5 0) 6 0) 7 0) 8 0) 9 0) 10 0) 11 0) 12 0) 13 0) 14 0) 15 0))))] := hD
        refine lv_lstore (lv' := [(6, .long 1), (4, .long 0), (0, .ref (q 0)), (1, .int p1), (2, .int p2), (3, .int p3)]) hx hb dX8_odds_153 hl (by decide) rfl (fun ls hl => ?_)
        refine lv_iload_n hx hb dX8_odds_155 rfl (lv_at hl 5 rfl) ?_
        refine lv_if_eq (tgt := 169) hx hb dX8_odds_156 (by decide) (fun c_10 => ?_) (fun c_10 => ?_)
        · refine lv_lload hx hb dX8_odds_169 (lv_at hl 1 rfl) ?_
          refine lv_lload hx hb dX8_odds_171 (lv_at hl 0 rfl) ?_
          refine lv_ldiv hx hb dX8_odds_173 (by decide) ?_
          refine gw_topl (y := 0) (by decide) ?_
          exact gw_lret () hx hb hr hlocks (hP.sub [] rfl) (hD.sub [] (by decide) rfl) hS (by rw [v_X8_odds, if_neg c_2, if_neg c_3, if_pos c_4, if_pos c_10]) dX8_odds_174
        · refine lv_aload_n hx hb dX8_odds_159 rfl (lv_at hl 2 rfl) ?_
          refine va_get (D := G) (ci := 8) (v := .ref (q 20)) (C := RX8) (T := TX8) (N := 8) hx hb hts iX8 hown hK hP 0 rfl rfl 6 (by decide) (hts _ m_228) (fun _ h9 => h9) rfl dX8_odds_160 ?_
          refine va_get (D := G) (ci := 0) (v := .long 1) (C := RX0) (T := TX0) (N := 4) hx hb hts iX0 hown hK hP 5 rfl rfl 1 (by decide) (hts _ m_239) (fun _ h9 => h9) rfl dX8_odds_163 ?_
          refine lv_goto (tgt := 171) hx hb dX8_odds_166 (by decide) ?_
          refine lv_lload hx hb dX8_odds_171 (lv_at hl 0 rfl) ?_
          refine lv_ldiv hx hb dX8_odds_173 (by decide) ?_
          refine gw_topl (y := 1) (by decide) ?_
          exact gw_lret () hx hb hr hlocks (hP.sub [] rfl) (hD.sub [] (by decide) rfl) hS (by rw [v_X8_odds, if_neg c_2, if_neg c_3, if_pos c_4, if_neg c_10]) dX8_odds_174
      · refine lv_ldc2 (v := (-1)) hx hb hown (hts _ m_227) dX8_odds_16 ?_
        exact gw_lret () hx hb hr hlocks (hP.sub [] rfl) (hD.sub [] (by decide) rfl) hS (by rw [v_X8_odds, if_neg c_2, if_neg c_3, if_neg c_4]) dX8_odds_19
set_option maxHeartbeats 4000000 in
set_option maxRecDepth 100000 in
theorem c_startsMany0 (l : Launch) (G : va_G) (cI cJ cZ cB cT : ClassId) (m0 : Nat) (r : Nat → Nat)  : gMv l yX9_startsMany (gws yX9_startsMany cX9_startsMany 4 none) 1 G (gT cI cJ cZ cB cT) [.ref m0, .int 0, .int 0] [(m0, .inr (9, [.ref (r 0), .ref (r 1), .ref (r 2), .int 0, .int (-1), .int (-1), .ref (r 6), .ref (r 7), .ref (r 8), .ref (r 9), .ref (r 10), .ref (r 11), .ref (r 12), .ref (r 13), .int 0, .int 0, .int 0, .int 0, .int 0, .int 0, .int 0, .int 0, .int 0, .ref (r 23), .ref (r 24), .int 0, .ref (r 26), .ref (r 27), .int 0, .int 0, .int 0, .ref (r 31), .ref (r 32), .ref (r 33), .ref (r 34), .ref (r 35), .int 0, .ref (r 37), .ref (r 38), .ref (r 39), .ref (r 40), .ref (r 41), .ref (r 42), .ref (r 43), .ref (r 44), .ref (r 45), .ref (r 46), .int 0, .ref (r 48), .ref (r 49), .ref (r 50), .ref (r 51), .long 0])), ((r 41), .inl (cJ, 16, .inr (.inl (fun _ => 0))))] (fun (_ : Unit) => True) (fun (_ : Unit) => ([(m0, .inr (9, [.ref (r 0), .ref (r 1), .ref (r 2), .int 0, .int (-1), .int (-1), .ref (r 6), .ref (r 7), .ref (r 8), .ref (r 9), .ref (r 10), .ref (r 11), .ref (r 12), .ref (r 13), .int 0, .int 0, .int 0, .int 0, .int 0, .int 0, .int 0, .int 0, .int 0, .ref (r 23), .ref (r 24), .int 0, .ref (r 26), .ref (r 27), .int 0, .int 0, .int 0, .ref (r 31), .ref (r 32), .ref (r 33), .ref (r 34), .ref (r 35), .int 0, .ref (r 37), .ref (r 38), .ref (r 39), .ref (r 40), .ref (r 41), .ref (r 42), .ref (r 43), .ref (r 44), .ref (r 45), .ref (r 46), .int 0, .ref (r 48), .ref (r 49), .ref (r 50), .ref (r 51), .long 0])), ((r 41), .inl (cJ, 16, .inr (.inl (vp_updL (vp_updL (vp_updL (vp_updL (vp_updL (vp_updL (vp_updL (vp_updL (vp_updL (vp_updL (vp_updL (vp_updL (vp_updL (vp_updL (vp_updL (vp_updL (fun _ => 0) 0 1) 1 0) 2 0) 3 0) 4 0) 5 0) 6 0) 7 0) 8 0) 9 0) 10 0) 11 0) 12 0) 13 0) 14 0) 15 0))))] : va_W)) := by
  intro sz
  refine gM_start (y := yX9_startsMany) (av := [.ref m0, .int 0, .int 0]) (ws := [(m0, .inr (9, [.ref (r 0), .ref (r 1), .ref (r 2), .int 0, .int (-1), .int (-1), .ref (r 6), .ref (r 7), .ref (r 8), .ref (r 9), .ref (r 10), .ref (r 11), .ref (r 12), .ref (r 13), .int 0, .int 0, .int 0, .int 0, .int 0, .int 0, .int 0, .int 0, .int 0, .ref (r 23), .ref (r 24), .int 0, .ref (r 26), .ref (r 27), .int 0, .int 0, .int 0, .ref (r 31), .ref (r 32), .ref (r 33), .ref (r 34), .ref (r 35), .int 0, .ref (r 37), .ref (r 38), .ref (r 39), .ref (r 40), .ref (r 41), .ref (r 42), .ref (r 43), .ref (r 44), .ref (r 45), .ref (r 46), .int 0, .ref (r 48), .ref (r 49), .ref (r 50), .ref (r 51), .long 0])), ((r 41), .inl (cJ, 16, .inr (.inl (fun _ => 0))))]) (Qf := fun A => va_Qv (fun (_ : Unit) => True) (gB G (fun (_ : Unit) => ([(m0, .inr (9, [.ref (r 0), .ref (r 1), .ref (r 2), .int 0, .int (-1), .int (-1), .ref (r 6), .ref (r 7), .ref (r 8), .ref (r 9), .ref (r 10), .ref (r 11), .ref (r 12), .ref (r 13), .int 0, .int 0, .int 0, .int 0, .int 0, .int 0, .int 0, .int 0, .int 0, .ref (r 23), .ref (r 24), .int 0, .ref (r 26), .ref (r 27), .int 0, .int 0, .int 0, .ref (r 31), .ref (r 32), .ref (r 33), .ref (r 34), .ref (r 35), .int 0, .ref (r 37), .ref (r 38), .ref (r 39), .ref (r 40), .ref (r 41), .ref (r 42), .ref (r 43), .ref (r 44), .ref (r 45), .ref (r 46), .int 0, .ref (r 48), .ref (r 49), .ref (r 50), .ref (r 51), .long 0])), ((r 41), .inl (cJ, 16, .inr (.inl (vp_updL (vp_updL (vp_updL (vp_updL (vp_updL (vp_updL (vp_updL (vp_updL (vp_updL (vp_updL (vp_updL (vp_updL (vp_updL (vp_updL (vp_updL (vp_updL (fun _ => 0) 0 1) 1 0) 2 0) 3 0) 4 0) 5 0) 6 0) 7 0) 8 0) 9 0) 10 0) 11 0) 12 0) 13 0) 14 0) 15 0))))] : va_W)) A) A) (cc := cX9_startsMany) (maxL := 4) (ret := none) (by decide) (Nat.le_of_ble_eq_true rfl) ?_
  intro p e s m args below meth c A ls H hx hb hr hts hown hin hlocks hml hP hK hD hA hS hl
  have hl : lv_has ls 4 [(0, .ref m0), (1, .int 0), (2, .int 0)] := hl
  refine lv_iconst (v := 0) hx hb dX9_startsMany_0 (by decide) ?_
  refine lv_istore_n (lv' := [(3, .int 0), (0, .ref m0), (1, .int 0), (2, .int 0)]) hx hb dX9_startsMany_1 rfl hl (by decide) rfl (fun ls hl => ?_)
  refine lv_iload_n hx hb dX9_startsMany_2 rfl (lv_at hl 0 rfl) ?_
  refine lv_bipush (v := 16) hx hb dX9_startsMany_3 (by decide) ?_
  refine lv_icmp_ge (tgt := 34) hx hb dX9_startsMany_5 (by decide) (fun c => absurd c (by decide)) (fun _ => ?_)
  refine lv_aload_n hx hb dX9_startsMany_8 rfl (lv_at hl 1 rfl) ?_
  refine va_get (D := G) (ci := 9) (v := .ref (r 41)) (C := RX9) (T := TX9) (N := 53) hx hb hts iX9 hown hK hP 0 rfl rfl 41 (by decide) (hts _ m_243) (fun _ h9 => h9) rfl dX9_startsMany_9 ?_
  refine lv_iload_n hx hb dX9_startsMany_12 rfl (lv_at hl 0 rfl) ?_
  refine lv_iload_n hx hb dX9_startsMany_13 rfl (lv_at hl 0 rfl) ?_
  refine lv_iload_n hx hb dX9_startsMany_14 rfl (lv_at hl 2 rfl) ?_
  refine lv_iconst (v := 4) hx hb dX9_startsMany_15 (by decide) ?_
  refine lv_iload_n hx hb dX9_startsMany_16 rfl (lv_at hl 3 rfl) ?_
  refine lv_imul hx hb dX9_startsMany_17 ?_
  refine gw_topi (y := 0) (by decide) ?_
  refine lv_iadd hx hb dX9_startsMany_18 ?_
  refine gw_topi (y := 0) (by decide) ?_
  refine lv_icmp_ne (tgt := 26) hx hb dX9_startsMany_19 (by decide) (fun c => absurd (by decide) c) (fun _ => ?_)
  refine lv_lconst (v := 1) hx hb dX9_startsMany_22 (by decide) ?_
  refine lv_goto (tgt := 27) hx hb dX9_startsMany_23 (by decide) ?_
  refine gw_last hx hb hK hP hD hS 1 1 0 rfl rfl rfl (by decide) (by decide) dX9_startsMany_27 (fun H locs hP hD hS => ?_)
  have hP : va_P G vwCl [(m0, .inr (9, [.ref (r 0), .ref (r 1), .ref (r 2), .int 0, .int (-1), .int (-1), .ref (r 6), .ref (r 7), .ref (r 8), .ref (r 9), .ref (r 10), .ref (r 11), .ref (r 12), .ref (r 13), .int 0, .int 0, .int 0, .int 0, .int 0, .int 0, .int 0, .int 0, .int 0, .ref (r 23), .ref (r 24), .int 0, .ref (r 26), .ref (r 27), .int 0, .int 0, .int 0, .ref (r 31), .ref (r 32), .ref (r 33), .ref (r 34), .ref (r 35), .int 0, .ref (r 37), .ref (r 38), .ref (r 39), .ref (r 40), .ref (r 41), .ref (r 42), .ref (r 43), .ref (r 44), .ref (r 45), .ref (r 46), .int 0, .ref (r 48), .ref (r 49), .ref (r 50), .ref (r 51), .long 0])), ((r 41), .inl (cJ, 16, .inr (.inl (vp_updL (fun _ => 0) 0 1))))] H := hP
  have hD : va_D A [(m0, .inr (9, [.ref (r 0), .ref (r 1), .ref (r 2), .int 0, .int (-1), .int (-1), .ref (r 6), .ref (r 7), .ref (r 8), .ref (r 9), .ref (r 10), .ref (r 11), .ref (r 12), .ref (r 13), .int 0, .int 0, .int 0, .int 0, .int 0, .int 0, .int 0, .int 0, .int 0, .ref (r 23), .ref (r 24), .int 0, .ref (r 26), .ref (r 27), .int 0, .int 0, .int 0, .ref (r 31), .ref (r 32), .ref (r 33), .ref (r 34), .ref (r 35), .int 0, .ref (r 37), .ref (r 38), .ref (r 39), .ref (r 40), .ref (r 41), .ref (r 42), .ref (r 43), .ref (r 44), .ref (r 45), .ref (r 46), .int 0, .ref (r 48), .ref (r 49), .ref (r 50), .ref (r 51), .long 0])), ((r 41), .inl (cJ, 16, .inr (.inl (vp_updL (fun _ => 0) 0 1))))] := hD
  refine lv_iinc (v := 1) (lv' := [(3, .int 1), (0, .ref m0), (1, .int 0), (2, .int 0)]) hx hb dX9_startsMany_28 hl (k := 0) rfl (by decide) (by decide) rfl (fun ls hl => ?_)
  refine lv_goto (tgt := 2) hx hb dX9_startsMany_31 (by decide) ?_
  refine lv_iload_n hx hb dX9_startsMany_2 rfl (lv_at hl 0 rfl) ?_
  refine lv_bipush (v := 16) hx hb dX9_startsMany_3 (by decide) ?_
  refine lv_icmp_ge (tgt := 34) hx hb dX9_startsMany_5 (by decide) (fun c => absurd c (by decide)) (fun _ => ?_)
  refine lv_aload_n hx hb dX9_startsMany_8 rfl (lv_at hl 1 rfl) ?_
  refine va_get (D := G) (ci := 9) (v := .ref (r 41)) (C := RX9) (T := TX9) (N := 53) hx hb hts iX9 hown hK hP 0 rfl rfl 41 (by decide) (hts _ m_243) (fun _ h9 => h9) rfl dX9_startsMany_9 ?_
  refine lv_iload_n hx hb dX9_startsMany_12 rfl (lv_at hl 0 rfl) ?_
  refine lv_iload_n hx hb dX9_startsMany_13 rfl (lv_at hl 0 rfl) ?_
  refine lv_iload_n hx hb dX9_startsMany_14 rfl (lv_at hl 2 rfl) ?_
  refine lv_iconst (v := 4) hx hb dX9_startsMany_15 (by decide) ?_
  refine lv_iload_n hx hb dX9_startsMany_16 rfl (lv_at hl 3 rfl) ?_
  refine lv_imul hx hb dX9_startsMany_17 ?_
  refine gw_topi (y := 0) (by decide) ?_
  refine lv_iadd hx hb dX9_startsMany_18 ?_
  refine gw_topi (y := 0) (by decide) ?_
  refine lv_icmp_ne (tgt := 26) hx hb dX9_startsMany_19 (by decide) (fun _ => ?_) (fun c => absurd c (by decide))
  refine lv_lconst (v := 0) hx hb dX9_startsMany_26 (by decide) ?_
  refine gw_last hx hb hK hP hD hS 1 1 1 rfl rfl rfl (by decide) (by decide) dX9_startsMany_27 (fun H locs hP hD hS => ?_)
  have hP : va_P G vwCl [(m0, .inr (9, [.ref (r 0), .ref (r 1), .ref (r 2), .int 0, .int (-1), .int (-1), .ref (r 6), .ref (r 7), .ref (r 8), .ref (r 9), .ref (r 10), .ref (r 11), .ref (r 12), .ref (r 13), .int 0, .int 0, .int 0, .int 0, .int 0, .int 0, .int 0, .int 0, .int 0, .ref (r 23), .ref (r 24), .int 0, .ref (r 26), .ref (r 27), .int 0, .int 0, .int 0, .ref (r 31), .ref (r 32), .ref (r 33), .ref (r 34), .ref (r 35), .int 0, .ref (r 37), .ref (r 38), .ref (r 39), .ref (r 40), .ref (r 41), .ref (r 42), .ref (r 43), .ref (r 44), .ref (r 45), .ref (r 46), .int 0, .ref (r 48), .ref (r 49), .ref (r 50), .ref (r 51), .long 0])), ((r 41), .inl (cJ, 16, .inr (.inl (vp_updL (vp_updL (fun _ => 0) 0 1) 1 0))))] H := hP
  have hD : va_D A [(m0, .inr (9, [.ref (r 0), .ref (r 1), .ref (r 2), .int 0, .int (-1), .int (-1), .ref (r 6), .ref (r 7), .ref (r 8), .ref (r 9), .ref (r 10), .ref (r 11), .ref (r 12), .ref (r 13), .int 0, .int 0, .int 0, .int 0, .int 0, .int 0, .int 0, .int 0, .int 0, .ref (r 23), .ref (r 24), .int 0, .ref (r 26), .ref (r 27), .int 0, .int 0, .int 0, .ref (r 31), .ref (r 32), .ref (r 33), .ref (r 34), .ref (r 35), .int 0, .ref (r 37), .ref (r 38), .ref (r 39), .ref (r 40), .ref (r 41), .ref (r 42), .ref (r 43), .ref (r 44), .ref (r 45), .ref (r 46), .int 0, .ref (r 48), .ref (r 49), .ref (r 50), .ref (r 51), .long 0])), ((r 41), .inl (cJ, 16, .inr (.inl (vp_updL (vp_updL (fun _ => 0) 0 1) 1 0))))] := hD
  refine lv_iinc (v := 2) (lv' := [(3, .int 2), (0, .ref m0), (1, .int 0), (2, .int 0)]) hx hb dX9_startsMany_28 hl (k := 0) rfl (by decide) (by decide) rfl (fun ls hl => ?_)
  refine lv_goto (tgt := 2) hx hb dX9_startsMany_31 (by decide) ?_
  refine lv_iload_n hx hb dX9_startsMany_2 rfl (lv_at hl 0 rfl) ?_
  refine lv_bipush (v := 16) hx hb dX9_startsMany_3 (by decide) ?_
  refine lv_icmp_ge (tgt := 34) hx hb dX9_startsMany_5 (by decide) (fun c => absurd c (by decide)) (fun _ => ?_)
  refine lv_aload_n hx hb dX9_startsMany_8 rfl (lv_at hl 1 rfl) ?_
  refine va_get (D := G) (ci := 9) (v := .ref (r 41)) (C := RX9) (T := TX9) (N := 53) hx hb hts iX9 hown hK hP 0 rfl rfl 41 (by decide) (hts _ m_243) (fun _ h9 => h9) rfl dX9_startsMany_9 ?_
  refine lv_iload_n hx hb dX9_startsMany_12 rfl (lv_at hl 0 rfl) ?_
  refine lv_iload_n hx hb dX9_startsMany_13 rfl (lv_at hl 0 rfl) ?_
  refine lv_iload_n hx hb dX9_startsMany_14 rfl (lv_at hl 2 rfl) ?_
  refine lv_iconst (v := 4) hx hb dX9_startsMany_15 (by decide) ?_
  refine lv_iload_n hx hb dX9_startsMany_16 rfl (lv_at hl 3 rfl) ?_
  refine lv_imul hx hb dX9_startsMany_17 ?_
  refine gw_topi (y := 0) (by decide) ?_
  refine lv_iadd hx hb dX9_startsMany_18 ?_
  refine gw_topi (y := 0) (by decide) ?_
  refine lv_icmp_ne (tgt := 26) hx hb dX9_startsMany_19 (by decide) (fun _ => ?_) (fun c => absurd c (by decide))
  refine lv_lconst (v := 0) hx hb dX9_startsMany_26 (by decide) ?_
  refine gw_last hx hb hK hP hD hS 1 1 2 rfl rfl rfl (by decide) (by decide) dX9_startsMany_27 (fun H locs hP hD hS => ?_)
  have hP : va_P G vwCl [(m0, .inr (9, [.ref (r 0), .ref (r 1), .ref (r 2), .int 0, .int (-1), .int (-1), .ref (r 6), .ref (r 7), .ref (r 8), .ref (r 9), .ref (r 10), .ref (r 11), .ref (r 12), .ref (r 13), .int 0, .int 0, .int 0, .int 0, .int 0, .int 0, .int 0, .int 0, .int 0, .ref (r 23), .ref (r 24), .int 0, .ref (r 26), .ref (r 27), .int 0, .int 0, .int 0, .ref (r 31), .ref (r 32), .ref (r 33), .ref (r 34), .ref (r 35), .int 0, .ref (r 37), .ref (r 38), .ref (r 39), .ref (r 40), .ref (r 41), .ref (r 42), .ref (r 43), .ref (r 44), .ref (r 45), .ref (r 46), .int 0, .ref (r 48), .ref (r 49), .ref (r 50), .ref (r 51), .long 0])), ((r 41), .inl (cJ, 16, .inr (.inl (vp_updL (vp_updL (vp_updL (fun _ => 0) 0 1) 1 0) 2 0))))] H := hP
  have hD : va_D A [(m0, .inr (9, [.ref (r 0), .ref (r 1), .ref (r 2), .int 0, .int (-1), .int (-1), .ref (r 6), .ref (r 7), .ref (r 8), .ref (r 9), .ref (r 10), .ref (r 11), .ref (r 12), .ref (r 13), .int 0, .int 0, .int 0, .int 0, .int 0, .int 0, .int 0, .int 0, .int 0, .ref (r 23), .ref (r 24), .int 0, .ref (r 26), .ref (r 27), .int 0, .int 0, .int 0, .ref (r 31), .ref (r 32), .ref (r 33), .ref (r 34), .ref (r 35), .int 0, .ref (r 37), .ref (r 38), .ref (r 39), .ref (r 40), .ref (r 41), .ref (r 42), .ref (r 43), .ref (r 44), .ref (r 45), .ref (r 46), .int 0, .ref (r 48), .ref (r 49), .ref (r 50), .ref (r 51), .long 0])), ((r 41), .inl (cJ, 16, .inr (.inl (vp_updL (vp_updL (vp_updL (fun _ => 0) 0 1) 1 0) 2 0))))] := hD
  refine lv_iinc (v := 3) (lv' := [(3, .int 3), (0, .ref m0), (1, .int 0), (2, .int 0)]) hx hb dX9_startsMany_28 hl (k := 0) rfl (by decide) (by decide) rfl (fun ls hl => ?_)
  refine lv_goto (tgt := 2) hx hb dX9_startsMany_31 (by decide) ?_
  refine lv_iload_n hx hb dX9_startsMany_2 rfl (lv_at hl 0 rfl) ?_
  refine lv_bipush (v := 16) hx hb dX9_startsMany_3 (by decide) ?_
  refine lv_icmp_ge (tgt := 34) hx hb dX9_startsMany_5 (by decide) (fun c => absurd c (by decide)) (fun _ => ?_)
  refine lv_aload_n hx hb dX9_startsMany_8 rfl (lv_at hl 1 rfl) ?_
  refine va_get (D := G) (ci := 9) (v := .ref (r 41)) (C := RX9) (T := TX9) (N := 53) hx hb hts iX9 hown hK hP 0 rfl rfl 41 (by decide) (hts _ m_243) (fun _ h9 => h9) rfl dX9_startsMany_9 ?_
  refine lv_iload_n hx hb dX9_startsMany_12 rfl (lv_at hl 0 rfl) ?_
  refine lv_iload_n hx hb dX9_startsMany_13 rfl (lv_at hl 0 rfl) ?_
  refine lv_iload_n hx hb dX9_startsMany_14 rfl (lv_at hl 2 rfl) ?_
  refine lv_iconst (v := 4) hx hb dX9_startsMany_15 (by decide) ?_
  refine lv_iload_n hx hb dX9_startsMany_16 rfl (lv_at hl 3 rfl) ?_
  refine lv_imul hx hb dX9_startsMany_17 ?_
  refine gw_topi (y := 0) (by decide) ?_
  refine lv_iadd hx hb dX9_startsMany_18 ?_
  refine gw_topi (y := 0) (by decide) ?_
  refine lv_icmp_ne (tgt := 26) hx hb dX9_startsMany_19 (by decide) (fun _ => ?_) (fun c => absurd c (by decide))
  refine lv_lconst (v := 0) hx hb dX9_startsMany_26 (by decide) ?_
  refine gw_last hx hb hK hP hD hS 1 1 3 rfl rfl rfl (by decide) (by decide) dX9_startsMany_27 (fun H locs hP hD hS => ?_)
  have hP : va_P G vwCl [(m0, .inr (9, [.ref (r 0), .ref (r 1), .ref (r 2), .int 0, .int (-1), .int (-1), .ref (r 6), .ref (r 7), .ref (r 8), .ref (r 9), .ref (r 10), .ref (r 11), .ref (r 12), .ref (r 13), .int 0, .int 0, .int 0, .int 0, .int 0, .int 0, .int 0, .int 0, .int 0, .ref (r 23), .ref (r 24), .int 0, .ref (r 26), .ref (r 27), .int 0, .int 0, .int 0, .ref (r 31), .ref (r 32), .ref (r 33), .ref (r 34), .ref (r 35), .int 0, .ref (r 37), .ref (r 38), .ref (r 39), .ref (r 40), .ref (r 41), .ref (r 42), .ref (r 43), .ref (r 44), .ref (r 45), .ref (r 46), .int 0, .ref (r 48), .ref (r 49), .ref (r 50), .ref (r 51), .long 0])), ((r 41), .inl (cJ, 16, .inr (.inl (vp_updL (vp_updL (vp_updL (vp_updL (fun _ => 0) 0 1) 1 0) 2 0) 3 0))))] H := hP
  have hD : va_D A [(m0, .inr (9, [.ref (r 0), .ref (r 1), .ref (r 2), .int 0, .int (-1), .int (-1), .ref (r 6), .ref (r 7), .ref (r 8), .ref (r 9), .ref (r 10), .ref (r 11), .ref (r 12), .ref (r 13), .int 0, .int 0, .int 0, .int 0, .int 0, .int 0, .int 0, .int 0, .int 0, .ref (r 23), .ref (r 24), .int 0, .ref (r 26), .ref (r 27), .int 0, .int 0, .int 0, .ref (r 31), .ref (r 32), .ref (r 33), .ref (r 34), .ref (r 35), .int 0, .ref (r 37), .ref (r 38), .ref (r 39), .ref (r 40), .ref (r 41), .ref (r 42), .ref (r 43), .ref (r 44), .ref (r 45), .ref (r 46), .int 0, .ref (r 48), .ref (r 49), .ref (r 50), .ref (r 51), .long 0])), ((r 41), .inl (cJ, 16, .inr (.inl (vp_updL (vp_updL (vp_updL (vp_updL (fun _ => 0) 0 1) 1 0) 2 0) 3 0))))] := hD
  refine lv_iinc (v := 4) (lv' := [(3, .int 4), (0, .ref m0), (1, .int 0), (2, .int 0)]) hx hb dX9_startsMany_28 hl (k := 0) rfl (by decide) (by decide) rfl (fun ls hl => ?_)
  refine lv_goto (tgt := 2) hx hb dX9_startsMany_31 (by decide) ?_
  refine lv_iload_n hx hb dX9_startsMany_2 rfl (lv_at hl 0 rfl) ?_
  refine lv_bipush (v := 16) hx hb dX9_startsMany_3 (by decide) ?_
  refine lv_icmp_ge (tgt := 34) hx hb dX9_startsMany_5 (by decide) (fun c => absurd c (by decide)) (fun _ => ?_)
  refine lv_aload_n hx hb dX9_startsMany_8 rfl (lv_at hl 1 rfl) ?_
  refine va_get (D := G) (ci := 9) (v := .ref (r 41)) (C := RX9) (T := TX9) (N := 53) hx hb hts iX9 hown hK hP 0 rfl rfl 41 (by decide) (hts _ m_243) (fun _ h9 => h9) rfl dX9_startsMany_9 ?_
  refine lv_iload_n hx hb dX9_startsMany_12 rfl (lv_at hl 0 rfl) ?_
  refine lv_iload_n hx hb dX9_startsMany_13 rfl (lv_at hl 0 rfl) ?_
  refine lv_iload_n hx hb dX9_startsMany_14 rfl (lv_at hl 2 rfl) ?_
  refine lv_iconst (v := 4) hx hb dX9_startsMany_15 (by decide) ?_
  refine lv_iload_n hx hb dX9_startsMany_16 rfl (lv_at hl 3 rfl) ?_
  refine lv_imul hx hb dX9_startsMany_17 ?_
  refine gw_topi (y := 0) (by decide) ?_
  refine lv_iadd hx hb dX9_startsMany_18 ?_
  refine gw_topi (y := 0) (by decide) ?_
  refine lv_icmp_ne (tgt := 26) hx hb dX9_startsMany_19 (by decide) (fun _ => ?_) (fun c => absurd c (by decide))
  refine lv_lconst (v := 0) hx hb dX9_startsMany_26 (by decide) ?_
  refine gw_last hx hb hK hP hD hS 1 1 4 rfl rfl rfl (by decide) (by decide) dX9_startsMany_27 (fun H locs hP hD hS => ?_)
  have hP : va_P G vwCl [(m0, .inr (9, [.ref (r 0), .ref (r 1), .ref (r 2), .int 0, .int (-1), .int (-1), .ref (r 6), .ref (r 7), .ref (r 8), .ref (r 9), .ref (r 10), .ref (r 11), .ref (r 12), .ref (r 13), .int 0, .int 0, .int 0, .int 0, .int 0, .int 0, .int 0, .int 0, .int 0, .ref (r 23), .ref (r 24), .int 0, .ref (r 26), .ref (r 27), .int 0, .int 0, .int 0, .ref (r 31), .ref (r 32), .ref (r 33), .ref (r 34), .ref (r 35), .int 0, .ref (r 37), .ref (r 38), .ref (r 39), .ref (r 40), .ref (r 41), .ref (r 42), .ref (r 43), .ref (r 44), .ref (r 45), .ref (r 46), .int 0, .ref (r 48), .ref (r 49), .ref (r 50), .ref (r 51), .long 0])), ((r 41), .inl (cJ, 16, .inr (.inl (vp_updL (vp_updL (vp_updL (vp_updL (vp_updL (fun _ => 0) 0 1) 1 0) 2 0) 3 0) 4 0))))] H := hP
  have hD : va_D A [(m0, .inr (9, [.ref (r 0), .ref (r 1), .ref (r 2), .int 0, .int (-1), .int (-1), .ref (r 6), .ref (r 7), .ref (r 8), .ref (r 9), .ref (r 10), .ref (r 11), .ref (r 12), .ref (r 13), .int 0, .int 0, .int 0, .int 0, .int 0, .int 0, .int 0, .int 0, .int 0, .ref (r 23), .ref (r 24), .int 0, .ref (r 26), .ref (r 27), .int 0, .int 0, .int 0, .ref (r 31), .ref (r 32), .ref (r 33), .ref (r 34), .ref (r 35), .int 0, .ref (r 37), .ref (r 38), .ref (r 39), .ref (r 40), .ref (r 41), .ref (r 42), .ref (r 43), .ref (r 44), .ref (r 45), .ref (r 46), .int 0, .ref (r 48), .ref (r 49), .ref (r 50), .ref (r 51), .long 0])), ((r 41), .inl (cJ, 16, .inr (.inl (vp_updL (vp_updL (vp_updL (vp_updL (vp_updL (fun _ => 0) 0 1) 1 0) 2 0) 3 0) 4 0))))] := hD
  refine lv_iinc (v := 5) (lv' := [(3, .int 5), (0, .ref m0), (1, .int 0), (2, .int 0)]) hx hb dX9_startsMany_28 hl (k := 0) rfl (by decide) (by decide) rfl (fun ls hl => ?_)
  refine lv_goto (tgt := 2) hx hb dX9_startsMany_31 (by decide) ?_
  refine lv_iload_n hx hb dX9_startsMany_2 rfl (lv_at hl 0 rfl) ?_
  refine lv_bipush (v := 16) hx hb dX9_startsMany_3 (by decide) ?_
  refine lv_icmp_ge (tgt := 34) hx hb dX9_startsMany_5 (by decide) (fun c => absurd c (by decide)) (fun _ => ?_)
  refine lv_aload_n hx hb dX9_startsMany_8 rfl (lv_at hl 1 rfl) ?_
  refine va_get (D := G) (ci := 9) (v := .ref (r 41)) (C := RX9) (T := TX9) (N := 53) hx hb hts iX9 hown hK hP 0 rfl rfl 41 (by decide) (hts _ m_243) (fun _ h9 => h9) rfl dX9_startsMany_9 ?_
  refine lv_iload_n hx hb dX9_startsMany_12 rfl (lv_at hl 0 rfl) ?_
  refine lv_iload_n hx hb dX9_startsMany_13 rfl (lv_at hl 0 rfl) ?_
  refine lv_iload_n hx hb dX9_startsMany_14 rfl (lv_at hl 2 rfl) ?_
  refine lv_iconst (v := 4) hx hb dX9_startsMany_15 (by decide) ?_
  refine lv_iload_n hx hb dX9_startsMany_16 rfl (lv_at hl 3 rfl) ?_
  refine lv_imul hx hb dX9_startsMany_17 ?_
  refine gw_topi (y := 0) (by decide) ?_
  refine lv_iadd hx hb dX9_startsMany_18 ?_
  refine gw_topi (y := 0) (by decide) ?_
  refine lv_icmp_ne (tgt := 26) hx hb dX9_startsMany_19 (by decide) (fun _ => ?_) (fun c => absurd c (by decide))
  refine lv_lconst (v := 0) hx hb dX9_startsMany_26 (by decide) ?_
  refine gw_last hx hb hK hP hD hS 1 1 5 rfl rfl rfl (by decide) (by decide) dX9_startsMany_27 (fun H locs hP hD hS => ?_)
  have hP : va_P G vwCl [(m0, .inr (9, [.ref (r 0), .ref (r 1), .ref (r 2), .int 0, .int (-1), .int (-1), .ref (r 6), .ref (r 7), .ref (r 8), .ref (r 9), .ref (r 10), .ref (r 11), .ref (r 12), .ref (r 13), .int 0, .int 0, .int 0, .int 0, .int 0, .int 0, .int 0, .int 0, .int 0, .ref (r 23), .ref (r 24), .int 0, .ref (r 26), .ref (r 27), .int 0, .int 0, .int 0, .ref (r 31), .ref (r 32), .ref (r 33), .ref (r 34), .ref (r 35), .int 0, .ref (r 37), .ref (r 38), .ref (r 39), .ref (r 40), .ref (r 41), .ref (r 42), .ref (r 43), .ref (r 44), .ref (r 45), .ref (r 46), .int 0, .ref (r 48), .ref (r 49), .ref (r 50), .ref (r 51), .long 0])), ((r 41), .inl (cJ, 16, .inr (.inl (vp_updL (vp_updL (vp_updL (vp_updL (vp_updL (vp_updL (fun _ => 0) 0 1) 1 0) 2 0) 3 0) 4 0) 5 0))))] H := hP
  have hD : va_D A [(m0, .inr (9, [.ref (r 0), .ref (r 1), .ref (r 2), .int 0, .int (-1), .int (-1), .ref (r 6), .ref (r 7), .ref (r 8), .ref (r 9), .ref (r 10), .ref (r 11), .ref (r 12), .ref (r 13), .int 0, .int 0, .int 0, .int 0, .int 0, .int 0, .int 0, .int 0, .int 0, .ref (r 23), .ref (r 24), .int 0, .ref (r 26), .ref (r 27), .int 0, .int 0, .int 0, .ref (r 31), .ref (r 32), .ref (r 33), .ref (r 34), .ref (r 35), .int 0, .ref (r 37), .ref (r 38), .ref (r 39), .ref (r 40), .ref (r 41), .ref (r 42), .ref (r 43), .ref (r 44), .ref (r 45), .ref (r 46), .int 0, .ref (r 48), .ref (r 49), .ref (r 50), .ref (r 51), .long 0])), ((r 41), .inl (cJ, 16, .inr (.inl (vp_updL (vp_updL (vp_updL (vp_updL (vp_updL (vp_updL (fun _ => 0) 0 1) 1 0) 2 0) 3 0) 4 0) 5 0))))] := hD
  refine lv_iinc (v := 6) (lv' := [(3, .int 6), (0, .ref m0), (1, .int 0), (2, .int 0)]) hx hb dX9_startsMany_28 hl (k := 0) rfl (by decide) (by decide) rfl (fun ls hl => ?_)
  refine lv_goto (tgt := 2) hx hb dX9_startsMany_31 (by decide) ?_
  refine lv_iload_n hx hb dX9_startsMany_2 rfl (lv_at hl 0 rfl) ?_
  refine lv_bipush (v := 16) hx hb dX9_startsMany_3 (by decide) ?_
  refine lv_icmp_ge (tgt := 34) hx hb dX9_startsMany_5 (by decide) (fun c => absurd c (by decide)) (fun _ => ?_)
  refine lv_aload_n hx hb dX9_startsMany_8 rfl (lv_at hl 1 rfl) ?_
  refine va_get (D := G) (ci := 9) (v := .ref (r 41)) (C := RX9) (T := TX9) (N := 53) hx hb hts iX9 hown hK hP 0 rfl rfl 41 (by decide) (hts _ m_243) (fun _ h9 => h9) rfl dX9_startsMany_9 ?_
  refine lv_iload_n hx hb dX9_startsMany_12 rfl (lv_at hl 0 rfl) ?_
  refine lv_iload_n hx hb dX9_startsMany_13 rfl (lv_at hl 0 rfl) ?_
  refine lv_iload_n hx hb dX9_startsMany_14 rfl (lv_at hl 2 rfl) ?_
  refine lv_iconst (v := 4) hx hb dX9_startsMany_15 (by decide) ?_
  refine lv_iload_n hx hb dX9_startsMany_16 rfl (lv_at hl 3 rfl) ?_
  refine lv_imul hx hb dX9_startsMany_17 ?_
  refine gw_topi (y := 0) (by decide) ?_
  refine lv_iadd hx hb dX9_startsMany_18 ?_
  refine gw_topi (y := 0) (by decide) ?_
  refine lv_icmp_ne (tgt := 26) hx hb dX9_startsMany_19 (by decide) (fun _ => ?_) (fun c => absurd c (by decide))
  refine lv_lconst (v := 0) hx hb dX9_startsMany_26 (by decide) ?_
  refine gw_last hx hb hK hP hD hS 1 1 6 rfl rfl rfl (by decide) (by decide) dX9_startsMany_27 (fun H locs hP hD hS => ?_)
  have hP : va_P G vwCl [(m0, .inr (9, [.ref (r 0), .ref (r 1), .ref (r 2), .int 0, .int (-1), .int (-1), .ref (r 6), .ref (r 7), .ref (r 8), .ref (r 9), .ref (r 10), .ref (r 11), .ref (r 12), .ref (r 13), .int 0, .int 0, .int 0, .int 0, .int 0, .int 0, .int 0, .int 0, .int 0, .ref (r 23), .ref (r 24), .int 0, .ref (r 26), .ref (r 27), .int 0, .int 0, .int 0, .ref (r 31), .ref (r 32), .ref (r 33), .ref (r 34), .ref (r 35), .int 0, .ref (r 37), .ref (r 38), .ref (r 39), .ref (r 40), .ref (r 41), .ref (r 42), .ref (r 43), .ref (r 44), .ref (r 45), .ref (r 46), .int 0, .ref (r 48), .ref (r 49), .ref (r 50), .ref (r 51), .long 0])), ((r 41), .inl (cJ, 16, .inr (.inl (vp_updL (vp_updL (vp_updL (vp_updL (vp_updL (vp_updL (vp_updL (fun _ => 0) 0 1) 1 0) 2 0) 3 0) 4 0) 5 0) 6 0))))] H := hP
  have hD : va_D A [(m0, .inr (9, [.ref (r 0), .ref (r 1), .ref (r 2), .int 0, .int (-1), .int (-1), .ref (r 6), .ref (r 7), .ref (r 8), .ref (r 9), .ref (r 10), .ref (r 11), .ref (r 12), .ref (r 13), .int 0, .int 0, .int 0, .int 0, .int 0, .int 0, .int 0, .int 0, .int 0, .ref (r 23), .ref (r 24), .int 0, .ref (r 26), .ref (r 27), .int 0, .int 0, .int 0, .ref (r 31), .ref (r 32), .ref (r 33), .ref (r 34), .ref (r 35), .int 0, .ref (r 37), .ref (r 38), .ref (r 39), .ref (r 40), .ref (r 41), .ref (r 42), .ref (r 43), .ref (r 44), .ref (r 45), .ref (r 46), .int 0, .ref (r 48), .ref (r 49), .ref (r 50), .ref (r 51), .long 0])), ((r 41), .inl (cJ, 16, .inr (.inl (vp_updL (vp_updL (vp_updL (vp_updL (vp_updL (vp_updL (vp_updL (fun _ => 0) 0 1) 1 0) 2 0) 3 0) 4 0) 5 0) 6 0))))] := hD
  refine lv_iinc (v := 7) (lv' := [(3, .int 7), (0, .ref m0), (1, .int 0), (2, .int 0)]) hx hb dX9_startsMany_28 hl (k := 0) rfl (by decide) (by decide) rfl (fun ls hl => ?_)
  refine lv_goto (tgt := 2) hx hb dX9_startsMany_31 (by decide) ?_
  refine lv_iload_n hx hb dX9_startsMany_2 rfl (lv_at hl 0 rfl) ?_
  refine lv_bipush (v := 16) hx hb dX9_startsMany_3 (by decide) ?_
  refine lv_icmp_ge (tgt := 34) hx hb dX9_startsMany_5 (by decide) (fun c => absurd c (by decide)) (fun _ => ?_)
  refine lv_aload_n hx hb dX9_startsMany_8 rfl (lv_at hl 1 rfl) ?_
  refine va_get (D := G) (ci := 9) (v := .ref (r 41)) (C := RX9) (T := TX9) (N := 53) hx hb hts iX9 hown hK hP 0 rfl rfl 41 (by decide) (hts _ m_243) (fun _ h9 => h9) rfl dX9_startsMany_9 ?_
  refine lv_iload_n hx hb dX9_startsMany_12 rfl (lv_at hl 0 rfl) ?_
  refine lv_iload_n hx hb dX9_startsMany_13 rfl (lv_at hl 0 rfl) ?_
  refine lv_iload_n hx hb dX9_startsMany_14 rfl (lv_at hl 2 rfl) ?_
  refine lv_iconst (v := 4) hx hb dX9_startsMany_15 (by decide) ?_
  refine lv_iload_n hx hb dX9_startsMany_16 rfl (lv_at hl 3 rfl) ?_
  refine lv_imul hx hb dX9_startsMany_17 ?_
  refine gw_topi (y := 0) (by decide) ?_
  refine lv_iadd hx hb dX9_startsMany_18 ?_
  refine gw_topi (y := 0) (by decide) ?_
  refine lv_icmp_ne (tgt := 26) hx hb dX9_startsMany_19 (by decide) (fun _ => ?_) (fun c => absurd c (by decide))
  refine lv_lconst (v := 0) hx hb dX9_startsMany_26 (by decide) ?_
  refine gw_last hx hb hK hP hD hS 1 1 7 rfl rfl rfl (by decide) (by decide) dX9_startsMany_27 (fun H locs hP hD hS => ?_)
  have hP : va_P G vwCl [(m0, .inr (9, [.ref (r 0), .ref (r 1), .ref (r 2), .int 0, .int (-1), .int (-1), .ref (r 6), .ref (r 7), .ref (r 8), .ref (r 9), .ref (r 10), .ref (r 11), .ref (r 12), .ref (r 13), .int 0, .int 0, .int 0, .int 0, .int 0, .int 0, .int 0, .int 0, .int 0, .ref (r 23), .ref (r 24), .int 0, .ref (r 26), .ref (r 27), .int 0, .int 0, .int 0, .ref (r 31), .ref (r 32), .ref (r 33), .ref (r 34), .ref (r 35), .int 0, .ref (r 37), .ref (r 38), .ref (r 39), .ref (r 40), .ref (r 41), .ref (r 42), .ref (r 43), .ref (r 44), .ref (r 45), .ref (r 46), .int 0, .ref (r 48), .ref (r 49), .ref (r 50), .ref (r 51), .long 0])), ((r 41), .inl (cJ, 16, .inr (.inl (vp_updL (vp_updL (vp_updL (vp_updL (vp_updL (vp_updL (vp_updL (vp_updL (fun _ => 0) 0 1) 1 0) 2 0) 3 0) 4 0) 5 0) 6 0) 7 0))))] H := hP
  have hD : va_D A [(m0, .inr (9, [.ref (r 0), .ref (r 1), .ref (r 2), .int 0, .int (-1), .int (-1), .ref (r 6), .ref (r 7), .ref (r 8), .ref (r 9), .ref (r 10), .ref (r 11), .ref (r 12), .ref (r 13), .int 0, .int 0, .int 0, .int 0, .int 0, .int 0, .int 0, .int 0, .int 0, .ref (r 23), .ref (r 24), .int 0, .ref (r 26), .ref (r 27), .int 0, .int 0, .int 0, .ref (r 31), .ref (r 32), .ref (r 33), .ref (r 34), .ref (r 35), .int 0, .ref (r 37), .ref (r 38), .ref (r 39), .ref (r 40), .ref (r 41), .ref (r 42), .ref (r 43), .ref (r 44), .ref (r 45), .ref (r 46), .int 0, .ref (r 48), .ref (r 49), .ref (r 50), .ref (r 51), .long 0])), ((r 41), .inl (cJ, 16, .inr (.inl (vp_updL (vp_updL (vp_updL (vp_updL (vp_updL (vp_updL (vp_updL (vp_updL (fun _ => 0) 0 1) 1 0) 2 0) 3 0) 4 0) 5 0) 6 0) 7 0))))] := hD
  refine lv_iinc (v := 8) (lv' := [(3, .int 8), (0, .ref m0), (1, .int 0), (2, .int 0)]) hx hb dX9_startsMany_28 hl (k := 0) rfl (by decide) (by decide) rfl (fun ls hl => ?_)
  refine lv_goto (tgt := 2) hx hb dX9_startsMany_31 (by decide) ?_
  refine lv_iload_n hx hb dX9_startsMany_2 rfl (lv_at hl 0 rfl) ?_
  refine lv_bipush (v := 16) hx hb dX9_startsMany_3 (by decide) ?_
  refine lv_icmp_ge (tgt := 34) hx hb dX9_startsMany_5 (by decide) (fun c => absurd c (by decide)) (fun _ => ?_)
  refine lv_aload_n hx hb dX9_startsMany_8 rfl (lv_at hl 1 rfl) ?_
  refine va_get (D := G) (ci := 9) (v := .ref (r 41)) (C := RX9) (T := TX9) (N := 53) hx hb hts iX9 hown hK hP 0 rfl rfl 41 (by decide) (hts _ m_243) (fun _ h9 => h9) rfl dX9_startsMany_9 ?_
  refine lv_iload_n hx hb dX9_startsMany_12 rfl (lv_at hl 0 rfl) ?_
  refine lv_iload_n hx hb dX9_startsMany_13 rfl (lv_at hl 0 rfl) ?_
  refine lv_iload_n hx hb dX9_startsMany_14 rfl (lv_at hl 2 rfl) ?_
  refine lv_iconst (v := 4) hx hb dX9_startsMany_15 (by decide) ?_
  refine lv_iload_n hx hb dX9_startsMany_16 rfl (lv_at hl 3 rfl) ?_
  refine lv_imul hx hb dX9_startsMany_17 ?_
  refine gw_topi (y := 0) (by decide) ?_
  refine lv_iadd hx hb dX9_startsMany_18 ?_
  refine gw_topi (y := 0) (by decide) ?_
  refine lv_icmp_ne (tgt := 26) hx hb dX9_startsMany_19 (by decide) (fun _ => ?_) (fun c => absurd c (by decide))
  refine lv_lconst (v := 0) hx hb dX9_startsMany_26 (by decide) ?_
  refine gw_last hx hb hK hP hD hS 1 1 8 rfl rfl rfl (by decide) (by decide) dX9_startsMany_27 (fun H locs hP hD hS => ?_)
  have hP : va_P G vwCl [(m0, .inr (9, [.ref (r 0), .ref (r 1), .ref (r 2), .int 0, .int (-1), .int (-1), .ref (r 6), .ref (r 7), .ref (r 8), .ref (r 9), .ref (r 10), .ref (r 11), .ref (r 12), .ref (r 13), .int 0, .int 0, .int 0, .int 0, .int 0, .int 0, .int 0, .int 0, .int 0, .ref (r 23), .ref (r 24), .int 0, .ref (r 26), .ref (r 27), .int 0, .int 0, .int 0, .ref (r 31), .ref (r 32), .ref (r 33), .ref (r 34), .ref (r 35), .int 0, .ref (r 37), .ref (r 38), .ref (r 39), .ref (r 40), .ref (r 41), .ref (r 42), .ref (r 43), .ref (r 44), .ref (r 45), .ref (r 46), .int 0, .ref (r 48), .ref (r 49), .ref (r 50), .ref (r 51), .long 0])), ((r 41), .inl (cJ, 16, .inr (.inl (vp_updL (vp_updL (vp_updL (vp_updL (vp_updL (vp_updL (vp_updL (vp_updL (vp_updL (fun _ => 0) 0 1) 1 0) 2 0) 3 0) 4 0) 5 0) 6 0) 7 0) 8 0))))] H := hP
  have hD : va_D A [(m0, .inr (9, [.ref (r 0), .ref (r 1), .ref (r 2), .int 0, .int (-1), .int (-1), .ref (r 6), .ref (r 7), .ref (r 8), .ref (r 9), .ref (r 10), .ref (r 11), .ref (r 12), .ref (r 13), .int 0, .int 0, .int 0, .int 0, .int 0, .int 0, .int 0, .int 0, .int 0, .ref (r 23), .ref (r 24), .int 0, .ref (r 26), .ref (r 27), .int 0, .int 0, .int 0, .ref (r 31), .ref (r 32), .ref (r 33), .ref (r 34), .ref (r 35), .int 0, .ref (r 37), .ref (r 38), .ref (r 39), .ref (r 40), .ref (r 41), .ref (r 42), .ref (r 43), .ref (r 44), .ref (r 45), .ref (r 46), .int 0, .ref (r 48), .ref (r 49), .ref (r 50), .ref (r 51), .long 0])), ((r 41), .inl (cJ, 16, .inr (.inl (vp_updL (vp_updL (vp_updL (vp_updL (vp_updL (vp_updL (vp_updL (vp_updL (vp_updL (fun _ => 0) 0 1) 1 0) 2 0) 3 0) 4 0) 5 0) 6 0) 7 0) 8 0))))] := hD
  refine lv_iinc (v := 9) (lv' := [(3, .int 9), (0, .ref m0), (1, .int 0), (2, .int 0)]) hx hb dX9_startsMany_28 hl (k := 0) rfl (by decide) (by decide) rfl (fun ls hl => ?_)
  refine lv_goto (tgt := 2) hx hb dX9_startsMany_31 (by decide) ?_
  refine lv_iload_n hx hb dX9_startsMany_2 rfl (lv_at hl 0 rfl) ?_
  refine lv_bipush (v := 16) hx hb dX9_startsMany_3 (by decide) ?_
  refine lv_icmp_ge (tgt := 34) hx hb dX9_startsMany_5 (by decide) (fun c => absurd c (by decide)) (fun _ => ?_)
  refine lv_aload_n hx hb dX9_startsMany_8 rfl (lv_at hl 1 rfl) ?_
  refine va_get (D := G) (ci := 9) (v := .ref (r 41)) (C := RX9) (T := TX9) (N := 53) hx hb hts iX9 hown hK hP 0 rfl rfl 41 (by decide) (hts _ m_243) (fun _ h9 => h9) rfl dX9_startsMany_9 ?_
  refine lv_iload_n hx hb dX9_startsMany_12 rfl (lv_at hl 0 rfl) ?_
  refine lv_iload_n hx hb dX9_startsMany_13 rfl (lv_at hl 0 rfl) ?_
  refine lv_iload_n hx hb dX9_startsMany_14 rfl (lv_at hl 2 rfl) ?_
  refine lv_iconst (v := 4) hx hb dX9_startsMany_15 (by decide) ?_
  refine lv_iload_n hx hb dX9_startsMany_16 rfl (lv_at hl 3 rfl) ?_
  refine lv_imul hx hb dX9_startsMany_17 ?_
  refine gw_topi (y := 0) (by decide) ?_
  refine lv_iadd hx hb dX9_startsMany_18 ?_
  refine gw_topi (y := 0) (by decide) ?_
  refine lv_icmp_ne (tgt := 26) hx hb dX9_startsMany_19 (by decide) (fun _ => ?_) (fun c => absurd c (by decide))
  refine lv_lconst (v := 0) hx hb dX9_startsMany_26 (by decide) ?_
  refine gw_last hx hb hK hP hD hS 1 1 9 rfl rfl rfl (by decide) (by decide) dX9_startsMany_27 (fun H locs hP hD hS => ?_)
  have hP : va_P G vwCl [(m0, .inr (9, [.ref (r 0), .ref (r 1), .ref (r 2), .int 0, .int (-1), .int (-1), .ref (r 6), .ref (r 7), .ref (r 8), .ref (r 9), .ref (r 10), .ref (r 11), .ref (r 12), .ref (r 13), .int 0, .int 0, .int 0, .int 0, .int 0, .int 0, .int 0, .int 0, .int 0, .ref (r 23), .ref (r 24), .int 0, .ref (r 26), .ref (r 27), .int 0, .int 0, .int 0, .ref (r 31), .ref (r 32), .ref (r 33), .ref (r 34), .ref (r 35), .int 0, .ref (r 37), .ref (r 38), .ref (r 39), .ref (r 40), .ref (r 41), .ref (r 42), .ref (r 43), .ref (r 44), .ref (r 45), .ref (r 46), .int 0, .ref (r 48), .ref (r 49), .ref (r 50), .ref (r 51), .long 0])), ((r 41), .inl (cJ, 16, .inr (.inl (vp_updL (vp_updL (vp_updL (vp_updL (vp_updL (vp_updL (vp_updL (vp_updL (vp_updL (vp_updL (fun _ => 0) 0 1) 1 0) 2 0) 3 0) 4 0) 5 0) 6 0) 7 0) 8 0) 9 0))))] H := hP
  have hD : va_D A [(m0, .inr (9, [.ref (r 0), .ref (r 1), .ref (r 2), .int 0, .int (-1), .int (-1), .ref (r 6), .ref (r 7), .ref (r 8), .ref (r 9), .ref (r 10), .ref (r 11), .ref (r 12), .ref (r 13), .int 0, .int 0, .int 0, .int 0, .int 0, .int 0, .int 0, .int 0, .int 0, .ref (r 23), .ref (r 24), .int 0, .ref (r 26), .ref (r 27), .int 0, .int 0, .int 0, .ref (r 31), .ref (r 32), .ref (r 33), .ref (r 34), .ref (r 35), .int 0, .ref (r 37), .ref (r 38), .ref (r 39), .ref (r 40), .ref (r 41), .ref (r 42), .ref (r 43), .ref (r 44), .ref (r 45), .ref (r 46), .int 0, .ref (r 48), .ref (r 49), .ref (r 50), .ref (r 51), .long 0])), ((r 41), .inl (cJ, 16, .inr (.inl (vp_updL (vp_updL (vp_updL (vp_updL (vp_updL (vp_updL (vp_updL (vp_updL (vp_updL (vp_updL (fun _ => 0) 0 1) 1 0) 2 0) 3 0) 4 0) 5 0) 6 0) 7 0) 8 0) 9 0))))] := hD
  refine lv_iinc (v := 10) (lv' := [(3, .int 10), (0, .ref m0), (1, .int 0), (2, .int 0)]) hx hb dX9_startsMany_28 hl (k := 0) rfl (by decide) (by decide) rfl (fun ls hl => ?_)
  refine lv_goto (tgt := 2) hx hb dX9_startsMany_31 (by decide) ?_
  refine lv_iload_n hx hb dX9_startsMany_2 rfl (lv_at hl 0 rfl) ?_
  refine lv_bipush (v := 16) hx hb dX9_startsMany_3 (by decide) ?_
  refine lv_icmp_ge (tgt := 34) hx hb dX9_startsMany_5 (by decide) (fun c => absurd c (by decide)) (fun _ => ?_)
  refine lv_aload_n hx hb dX9_startsMany_8 rfl (lv_at hl 1 rfl) ?_
  refine va_get (D := G) (ci := 9) (v := .ref (r 41)) (C := RX9) (T := TX9) (N := 53) hx hb hts iX9 hown hK hP 0 rfl rfl 41 (by decide) (hts _ m_243) (fun _ h9 => h9) rfl dX9_startsMany_9 ?_
  refine lv_iload_n hx hb dX9_startsMany_12 rfl (lv_at hl 0 rfl) ?_
  refine lv_iload_n hx hb dX9_startsMany_13 rfl (lv_at hl 0 rfl) ?_
  refine lv_iload_n hx hb dX9_startsMany_14 rfl (lv_at hl 2 rfl) ?_
  refine lv_iconst (v := 4) hx hb dX9_startsMany_15 (by decide) ?_
  refine lv_iload_n hx hb dX9_startsMany_16 rfl (lv_at hl 3 rfl) ?_
  refine lv_imul hx hb dX9_startsMany_17 ?_
  refine gw_topi (y := 0) (by decide) ?_
  refine lv_iadd hx hb dX9_startsMany_18 ?_
  refine gw_topi (y := 0) (by decide) ?_
  refine lv_icmp_ne (tgt := 26) hx hb dX9_startsMany_19 (by decide) (fun _ => ?_) (fun c => absurd c (by decide))
  refine lv_lconst (v := 0) hx hb dX9_startsMany_26 (by decide) ?_
  refine gw_last hx hb hK hP hD hS 1 1 10 rfl rfl rfl (by decide) (by decide) dX9_startsMany_27 (fun H locs hP hD hS => ?_)
  have hP : va_P G vwCl [(m0, .inr (9, [.ref (r 0), .ref (r 1), .ref (r 2), .int 0, .int (-1), .int (-1), .ref (r 6), .ref (r 7), .ref (r 8), .ref (r 9), .ref (r 10), .ref (r 11), .ref (r 12), .ref (r 13), .int 0, .int 0, .int 0, .int 0, .int 0, .int 0, .int 0, .int 0, .int 0, .ref (r 23), .ref (r 24), .int 0, .ref (r 26), .ref (r 27), .int 0, .int 0, .int 0, .ref (r 31), .ref (r 32), .ref (r 33), .ref (r 34), .ref (r 35), .int 0, .ref (r 37), .ref (r 38), .ref (r 39), .ref (r 40), .ref (r 41), .ref (r 42), .ref (r 43), .ref (r 44), .ref (r 45), .ref (r 46), .int 0, .ref (r 48), .ref (r 49), .ref (r 50), .ref (r 51), .long 0])), ((r 41), .inl (cJ, 16, .inr (.inl (vp_updL (vp_updL (vp_updL (vp_updL (vp_updL (vp_updL (vp_updL (vp_updL (vp_updL (vp_updL (vp_updL (fun _ => 0) 0 1) 1 0) 2 0) 3 0) 4 0) 5 0) 6 0) 7 0) 8 0) 9 0) 10 0))))] H := hP
  have hD : va_D A [(m0, .inr (9, [.ref (r 0), .ref (r 1), .ref (r 2), .int 0, .int (-1), .int (-1), .ref (r 6), .ref (r 7), .ref (r 8), .ref (r 9), .ref (r 10), .ref (r 11), .ref (r 12), .ref (r 13), .int 0, .int 0, .int 0, .int 0, .int 0, .int 0, .int 0, .int 0, .int 0, .ref (r 23), .ref (r 24), .int 0, .ref (r 26), .ref (r 27), .int 0, .int 0, .int 0, .ref (r 31), .ref (r 32), .ref (r 33), .ref (r 34), .ref (r 35), .int 0, .ref (r 37), .ref (r 38), .ref (r 39), .ref (r 40), .ref (r 41), .ref (r 42), .ref (r 43), .ref (r 44), .ref (r 45), .ref (r 46), .int 0, .ref (r 48), .ref (r 49), .ref (r 50), .ref (r 51), .long 0])), ((r 41), .inl (cJ, 16, .inr (.inl (vp_updL (vp_updL (vp_updL (vp_updL (vp_updL (vp_updL (vp_updL (vp_updL (vp_updL (vp_updL (vp_updL (fun _ => 0) 0 1) 1 0) 2 0) 3 0) 4 0) 5 0) 6 0) 7 0) 8 0) 9 0) 10 0))))] := hD
  refine lv_iinc (v := 11) (lv' := [(3, .int 11), (0, .ref m0), (1, .int 0), (2, .int 0)]) hx hb dX9_startsMany_28 hl (k := 0) rfl (by decide) (by decide) rfl (fun ls hl => ?_)
  refine lv_goto (tgt := 2) hx hb dX9_startsMany_31 (by decide) ?_
  refine lv_iload_n hx hb dX9_startsMany_2 rfl (lv_at hl 0 rfl) ?_
  refine lv_bipush (v := 16) hx hb dX9_startsMany_3 (by decide) ?_
  refine lv_icmp_ge (tgt := 34) hx hb dX9_startsMany_5 (by decide) (fun c => absurd c (by decide)) (fun _ => ?_)
  refine lv_aload_n hx hb dX9_startsMany_8 rfl (lv_at hl 1 rfl) ?_
  refine va_get (D := G) (ci := 9) (v := .ref (r 41)) (C := RX9) (T := TX9) (N := 53) hx hb hts iX9 hown hK hP 0 rfl rfl 41 (by decide) (hts _ m_243) (fun _ h9 => h9) rfl dX9_startsMany_9 ?_
  refine lv_iload_n hx hb dX9_startsMany_12 rfl (lv_at hl 0 rfl) ?_
  refine lv_iload_n hx hb dX9_startsMany_13 rfl (lv_at hl 0 rfl) ?_
  refine lv_iload_n hx hb dX9_startsMany_14 rfl (lv_at hl 2 rfl) ?_
  refine lv_iconst (v := 4) hx hb dX9_startsMany_15 (by decide) ?_
  refine lv_iload_n hx hb dX9_startsMany_16 rfl (lv_at hl 3 rfl) ?_
  refine lv_imul hx hb dX9_startsMany_17 ?_
  refine gw_topi (y := 0) (by decide) ?_
  refine lv_iadd hx hb dX9_startsMany_18 ?_
  refine gw_topi (y := 0) (by decide) ?_
  refine lv_icmp_ne (tgt := 26) hx hb dX9_startsMany_19 (by decide) (fun _ => ?_) (fun c => absurd c (by decide))
  refine lv_lconst (v := 0) hx hb dX9_startsMany_26 (by decide) ?_
  refine gw_last hx hb hK hP hD hS 1 1 11 rfl rfl rfl (by decide) (by decide) dX9_startsMany_27 (fun H locs hP hD hS => ?_)
  have hP : va_P G vwCl [(m0, .inr (9, [.ref (r 0), .ref (r 1), .ref (r 2), .int 0, .int (-1), .int (-1), .ref (r 6), .ref (r 7), .ref (r 8), .ref (r 9), .ref (r 10), .ref (r 11), .ref (r 12), .ref (r 13), .int 0, .int 0, .int 0, .int 0, .int 0, .int 0, .int 0, .int 0, .int 0, .ref (r 23), .ref (r 24), .int 0, .ref (r 26), .ref (r 27), .int 0, .int 0, .int 0, .ref (r 31), .ref (r 32), .ref (r 33), .ref (r 34), .ref (r 35), .int 0, .ref (r 37), .ref (r 38), .ref (r 39), .ref (r 40), .ref (r 41), .ref (r 42), .ref (r 43), .ref (r 44), .ref (r 45), .ref (r 46), .int 0, .ref (r 48), .ref (r 49), .ref (r 50), .ref (r 51), .long 0])), ((r 41), .inl (cJ, 16, .inr (.inl (vp_updL (vp_updL (vp_updL (vp_updL (vp_updL (vp_updL (vp_updL (vp_updL (vp_updL (vp_updL (vp_updL (vp_updL (fun _ => 0) 0 1) 1 0) 2 0) 3 0) 4 0) 5 0) 6 0) 7 0) 8 0) 9 0) 10 0) 11 0))))] H := hP
  have hD : va_D A [(m0, .inr (9, [.ref (r 0), .ref (r 1), .ref (r 2), .int 0, .int (-1), .int (-1), .ref (r 6), .ref (r 7), .ref (r 8), .ref (r 9), .ref (r 10), .ref (r 11), .ref (r 12), .ref (r 13), .int 0, .int 0, .int 0, .int 0, .int 0, .int 0, .int 0, .int 0, .int 0, .ref (r 23), .ref (r 24), .int 0, .ref (r 26), .ref (r 27), .int 0, .int 0, .int 0, .ref (r 31), .ref (r 32), .ref (r 33), .ref (r 34), .ref (r 35), .int 0, .ref (r 37), .ref (r 38), .ref (r 39), .ref (r 40), .ref (r 41), .ref (r 42), .ref (r 43), .ref (r 44), .ref (r 45), .ref (r 46), .int 0, .ref (r 48), .ref (r 49), .ref (r 50), .ref (r 51), .long 0])), ((r 41), .inl (cJ, 16, .inr (.inl (vp_updL (vp_updL (vp_updL (vp_updL (vp_updL (vp_updL (vp_updL (vp_updL (vp_updL (vp_updL (vp_updL (vp_updL (fun _ => 0) 0 1) 1 0) 2 0) 3 0) 4 0) 5 0) 6 0) 7 0) 8 0) 9 0) 10 0) 11 0))))] := hD
  refine lv_iinc (v := 12) (lv' := [(3, .int 12), (0, .ref m0), (1, .int 0), (2, .int 0)]) hx hb dX9_startsMany_28 hl (k := 0) rfl (by decide) (by decide) rfl (fun ls hl => ?_)
  refine lv_goto (tgt := 2) hx hb dX9_startsMany_31 (by decide) ?_
  refine lv_iload_n hx hb dX9_startsMany_2 rfl (lv_at hl 0 rfl) ?_
  refine lv_bipush (v := 16) hx hb dX9_startsMany_3 (by decide) ?_
  refine lv_icmp_ge (tgt := 34) hx hb dX9_startsMany_5 (by decide) (fun c => absurd c (by decide)) (fun _ => ?_)
  refine lv_aload_n hx hb dX9_startsMany_8 rfl (lv_at hl 1 rfl) ?_
  refine va_get (D := G) (ci := 9) (v := .ref (r 41)) (C := RX9) (T := TX9) (N := 53) hx hb hts iX9 hown hK hP 0 rfl rfl 41 (by decide) (hts _ m_243) (fun _ h9 => h9) rfl dX9_startsMany_9 ?_
  refine lv_iload_n hx hb dX9_startsMany_12 rfl (lv_at hl 0 rfl) ?_
  refine lv_iload_n hx hb dX9_startsMany_13 rfl (lv_at hl 0 rfl) ?_
  refine lv_iload_n hx hb dX9_startsMany_14 rfl (lv_at hl 2 rfl) ?_
  refine lv_iconst (v := 4) hx hb dX9_startsMany_15 (by decide) ?_
  refine lv_iload_n hx hb dX9_startsMany_16 rfl (lv_at hl 3 rfl) ?_
  refine lv_imul hx hb dX9_startsMany_17 ?_
  refine gw_topi (y := 0) (by decide) ?_
  refine lv_iadd hx hb dX9_startsMany_18 ?_
  refine gw_topi (y := 0) (by decide) ?_
  refine lv_icmp_ne (tgt := 26) hx hb dX9_startsMany_19 (by decide) (fun _ => ?_) (fun c => absurd c (by decide))
  refine lv_lconst (v := 0) hx hb dX9_startsMany_26 (by decide) ?_
  refine gw_last hx hb hK hP hD hS 1 1 12 rfl rfl rfl (by decide) (by decide) dX9_startsMany_27 (fun H locs hP hD hS => ?_)
  have hP : va_P G vwCl [(m0, .inr (9, [.ref (r 0), .ref (r 1), .ref (r 2), .int 0, .int (-1), .int (-1), .ref (r 6), .ref (r 7), .ref (r 8), .ref (r 9), .ref (r 10), .ref (r 11), .ref (r 12), .ref (r 13), .int 0, .int 0, .int 0, .int 0, .int 0, .int 0, .int 0, .int 0, .int 0, .ref (r 23), .ref (r 24), .int 0, .ref (r 26), .ref (r 27), .int 0, .int 0, .int 0, .ref (r 31), .ref (r 32), .ref (r 33), .ref (r 34), .ref (r 35), .int 0, .ref (r 37), .ref (r 38), .ref (r 39), .ref (r 40), .ref (r 41), .ref (r 42), .ref (r 43), .ref (r 44), .ref (r 45), .ref (r 46), .int 0, .ref (r 48), .ref (r 49), .ref (r 50), .ref (r 51), .long 0])), ((r 41), .inl (cJ, 16, .inr (.inl (vp_updL (vp_updL (vp_updL (vp_updL (vp_updL (vp_updL (vp_updL (vp_updL (vp_updL (vp_updL (vp_updL (vp_updL (vp_updL (fun _ => 0) 0 1) 1 0) 2 0) 3 0) 4 0) 5 0) 6 0) 7 0) 8 0) 9 0) 10 0) 11 0) 12 0))))] H := hP
  have hD : va_D A [(m0, .inr (9, [.ref (r 0), .ref (r 1), .ref (r 2), .int 0, .int (-1), .int (-1), .ref (r 6), .ref (r 7), .ref (r 8), .ref (r 9), .ref (r 10), .ref (r 11), .ref (r 12), .ref (r 13), .int 0, .int 0, .int 0, .int 0, .int 0, .int 0, .int 0, .int 0, .int 0, .ref (r 23), .ref (r 24), .int 0, .ref (r 26), .ref (r 27), .int 0, .int 0, .int 0, .ref (r 31), .ref (r 32), .ref (r 33), .ref (r 34), .ref (r 35), .int 0, .ref (r 37), .ref (r 38), .ref (r 39), .ref (r 40), .ref (r 41), .ref (r 42), .ref (r 43), .ref (r 44), .ref (r 45), .ref (r 46), .int 0, .ref (r 48), .ref (r 49), .ref (r 50), .ref (r 51), .long 0])), ((r 41), .inl (cJ, 16, .inr (.inl (vp_updL (vp_updL (vp_updL (vp_updL (vp_updL (vp_updL (vp_updL (vp_updL (vp_updL (vp_updL (vp_updL (vp_updL (vp_updL (fun _ => 0) 0 1) 1 0) 2 0) 3 0) 4 0) 5 0) 6 0) 7 0) 8 0) 9 0) 10 0) 11 0) 12 0))))] := hD
  refine lv_iinc (v := 13) (lv' := [(3, .int 13), (0, .ref m0), (1, .int 0), (2, .int 0)]) hx hb dX9_startsMany_28 hl (k := 0) rfl (by decide) (by decide) rfl (fun ls hl => ?_)
  refine lv_goto (tgt := 2) hx hb dX9_startsMany_31 (by decide) ?_
  refine lv_iload_n hx hb dX9_startsMany_2 rfl (lv_at hl 0 rfl) ?_
  refine lv_bipush (v := 16) hx hb dX9_startsMany_3 (by decide) ?_
  refine lv_icmp_ge (tgt := 34) hx hb dX9_startsMany_5 (by decide) (fun c => absurd c (by decide)) (fun _ => ?_)
  refine lv_aload_n hx hb dX9_startsMany_8 rfl (lv_at hl 1 rfl) ?_
  refine va_get (D := G) (ci := 9) (v := .ref (r 41)) (C := RX9) (T := TX9) (N := 53) hx hb hts iX9 hown hK hP 0 rfl rfl 41 (by decide) (hts _ m_243) (fun _ h9 => h9) rfl dX9_startsMany_9 ?_
  refine lv_iload_n hx hb dX9_startsMany_12 rfl (lv_at hl 0 rfl) ?_
  refine lv_iload_n hx hb dX9_startsMany_13 rfl (lv_at hl 0 rfl) ?_
  refine lv_iload_n hx hb dX9_startsMany_14 rfl (lv_at hl 2 rfl) ?_
  refine lv_iconst (v := 4) hx hb dX9_startsMany_15 (by decide) ?_
  refine lv_iload_n hx hb dX9_startsMany_16 rfl (lv_at hl 3 rfl) ?_
  refine lv_imul hx hb dX9_startsMany_17 ?_
  refine gw_topi (y := 0) (by decide) ?_
  refine lv_iadd hx hb dX9_startsMany_18 ?_
  refine gw_topi (y := 0) (by decide) ?_
  refine lv_icmp_ne (tgt := 26) hx hb dX9_startsMany_19 (by decide) (fun _ => ?_) (fun c => absurd c (by decide))
  refine lv_lconst (v := 0) hx hb dX9_startsMany_26 (by decide) ?_
  refine gw_last hx hb hK hP hD hS 1 1 13 rfl rfl rfl (by decide) (by decide) dX9_startsMany_27 (fun H locs hP hD hS => ?_)
  have hP : va_P G vwCl [(m0, .inr (9, [.ref (r 0), .ref (r 1), .ref (r 2), .int 0, .int (-1), .int (-1), .ref (r 6), .ref (r 7), .ref (r 8), .ref (r 9), .ref (r 10), .ref (r 11), .ref (r 12), .ref (r 13), .int 0, .int 0, .int 0, .int 0, .int 0, .int 0, .int 0, .int 0, .int 0, .ref (r 23), .ref (r 24), .int 0, .ref (r 26), .ref (r 27), .int 0, .int 0, .int 0, .ref (r 31), .ref (r 32), .ref (r 33), .ref (r 34), .ref (r 35), .int 0, .ref (r 37), .ref (r 38), .ref (r 39), .ref (r 40), .ref (r 41), .ref (r 42), .ref (r 43), .ref (r 44), .ref (r 45), .ref (r 46), .int 0, .ref (r 48), .ref (r 49), .ref (r 50), .ref (r 51), .long 0])), ((r 41), .inl (cJ, 16, .inr (.inl (vp_updL (vp_updL (vp_updL (vp_updL (vp_updL (vp_updL (vp_updL (vp_updL (vp_updL (vp_updL (vp_updL (vp_updL (vp_updL (vp_updL (fun _ => 0) 0 1) 1 0) 2 0) 3 0) 4 0) 5 0) 6 0) 7 0) 8 0) 9 0) 10 0) 11 0) 12 0) 13 0))))] H := hP
  have hD : va_D A [(m0, .inr (9, [.ref (r 0), .ref (r 1), .ref (r 2), .int 0, .int (-1), .int (-1), .ref (r 6), .ref (r 7), .ref (r 8), .ref (r 9), .ref (r 10), .ref (r 11), .ref (r 12), .ref (r 13), .int 0, .int 0, .int 0, .int 0, .int 0, .int 0, .int 0, .int 0, .int 0, .ref (r 23), .ref (r 24), .int 0, .ref (r 26), .ref (r 27), .int 0, .int 0, .int 0, .ref (r 31), .ref (r 32), .ref (r 33), .ref (r 34), .ref (r 35), .int 0, .ref (r 37), .ref (r 38), .ref (r 39), .ref (r 40), .ref (r 41), .ref (r 42), .ref (r 43), .ref (r 44), .ref (r 45), .ref (r 46), .int 0, .ref (r 48), .ref (r 49), .ref (r 50), .ref (r 51), .long 0])), ((r 41), .inl (cJ, 16, .inr (.inl (vp_updL (vp_updL (vp_updL (vp_updL (vp_updL (vp_updL (vp_updL (vp_updL (vp_updL (vp_updL (vp_updL (vp_updL (vp_updL (vp_updL (fun _ => 0) 0 1) 1 0) 2 0) 3 0) 4 0) 5 0) 6 0) 7 0) 8 0) 9 0) 10 0) 11 0) 12 0) 13 0))))] := hD
  refine lv_iinc (v := 14) (lv' := [(3, .int 14), (0, .ref m0), (1, .int 0), (2, .int 0)]) hx hb dX9_startsMany_28 hl (k := 0) rfl (by decide) (by decide) rfl (fun ls hl => ?_)
  refine lv_goto (tgt := 2) hx hb dX9_startsMany_31 (by decide) ?_
  refine lv_iload_n hx hb dX9_startsMany_2 rfl (lv_at hl 0 rfl) ?_
  refine lv_bipush (v := 16) hx hb dX9_startsMany_3 (by decide) ?_
  refine lv_icmp_ge (tgt := 34) hx hb dX9_startsMany_5 (by decide) (fun c => absurd c (by decide)) (fun _ => ?_)
  refine lv_aload_n hx hb dX9_startsMany_8 rfl (lv_at hl 1 rfl) ?_
  refine va_get (D := G) (ci := 9) (v := .ref (r 41)) (C := RX9) (T := TX9) (N := 53) hx hb hts iX9 hown hK hP 0 rfl rfl 41 (by decide) (hts _ m_243) (fun _ h9 => h9) rfl dX9_startsMany_9 ?_
  refine lv_iload_n hx hb dX9_startsMany_12 rfl (lv_at hl 0 rfl) ?_
  refine lv_iload_n hx hb dX9_startsMany_13 rfl (lv_at hl 0 rfl) ?_
  refine lv_iload_n hx hb dX9_startsMany_14 rfl (lv_at hl 2 rfl) ?_
  refine lv_iconst (v := 4) hx hb dX9_startsMany_15 (by decide) ?_
  refine lv_iload_n hx hb dX9_startsMany_16 rfl (lv_at hl 3 rfl) ?_
  refine lv_imul hx hb dX9_startsMany_17 ?_
  refine gw_topi (y := 0) (by decide) ?_
  refine lv_iadd hx hb dX9_startsMany_18 ?_
  refine gw_topi (y := 0) (by decide) ?_
  refine lv_icmp_ne (tgt := 26) hx hb dX9_startsMany_19 (by decide) (fun _ => ?_) (fun c => absurd c (by decide))
  refine lv_lconst (v := 0) hx hb dX9_startsMany_26 (by decide) ?_
  refine gw_last hx hb hK hP hD hS 1 1 14 rfl rfl rfl (by decide) (by decide) dX9_startsMany_27 (fun H locs hP hD hS => ?_)
  have hP : va_P G vwCl [(m0, .inr (9, [.ref (r 0), .ref (r 1), .ref (r 2), .int 0, .int (-1), .int (-1), .ref (r 6), .ref (r 7), .ref (r 8), .ref (r 9), .ref (r 10), .ref (r 11), .ref (r 12), .ref (r 13), .int 0, .int 0, .int 0, .int 0, .int 0, .int 0, .int 0, .int 0, .int 0, .ref (r 23), .ref (r 24), .int 0, .ref (r 26), .ref (r 27), .int 0, .int 0, .int 0, .ref (r 31), .ref (r 32), .ref (r 33), .ref (r 34), .ref (r 35), .int 0, .ref (r 37), .ref (r 38), .ref (r 39), .ref (r 40), .ref (r 41), .ref (r 42), .ref (r 43), .ref (r 44), .ref (r 45), .ref (r 46), .int 0, .ref (r 48), .ref (r 49), .ref (r 50), .ref (r 51), .long 0])), ((r 41), .inl (cJ, 16, .inr (.inl (vp_updL (vp_updL (vp_updL (vp_updL (vp_updL (vp_updL (vp_updL (vp_updL (vp_updL (vp_updL (vp_updL (vp_updL (vp_updL (vp_updL (vp_updL (fun _ => 0) 0 1) 1 0) 2 0) 3 0) 4 0) 5 0) 6 0) 7 0) 8 0) 9 0) 10 0) 11 0) 12 0) 13 0) 14 0))))] H := hP
  have hD : va_D A [(m0, .inr (9, [.ref (r 0), .ref (r 1), .ref (r 2), .int 0, .int (-1), .int (-1), .ref (r 6), .ref (r 7), .ref (r 8), .ref (r 9), .ref (r 10), .ref (r 11), .ref (r 12), .ref (r 13), .int 0, .int 0, .int 0, .int 0, .int 0, .int 0, .int 0, .int 0, .int 0, .ref (r 23), .ref (r 24), .int 0, .ref (r 26), .ref (r 27), .int 0, .int 0, .int 0, .ref (r 31), .ref (r 32), .ref (r 33), .ref (r 34), .ref (r 35), .int 0, .ref (r 37), .ref (r 38), .ref (r 39), .ref (r 40), .ref (r 41), .ref (r 42), .ref (r 43), .ref (r 44), .ref (r 45), .ref (r 46), .int 0, .ref (r 48), .ref (r 49), .ref (r 50), .ref (r 51), .long 0])), ((r 41), .inl (cJ, 16, .inr (.inl (vp_updL (vp_updL (vp_updL (vp_updL (vp_updL (vp_updL (vp_updL (vp_updL (vp_updL (vp_updL (vp_updL (vp_updL (vp_updL (vp_updL (vp_updL (fun _ => 0) 0 1) 1 0) 2 0) 3 0) 4 0) 5 0) 6 0) 7 0) 8 0) 9 0) 10 0) 11 0) 12 0) 13 0) 14 0))))] := hD
  refine lv_iinc (v := 15) (lv' := [(3, .int 15), (0, .ref m0), (1, .int 0), (2, .int 0)]) hx hb dX9_startsMany_28 hl (k := 0) rfl (by decide) (by decide) rfl (fun ls hl => ?_)
  refine lv_goto (tgt := 2) hx hb dX9_startsMany_31 (by decide) ?_
  refine lv_iload_n hx hb dX9_startsMany_2 rfl (lv_at hl 0 rfl) ?_
  refine lv_bipush (v := 16) hx hb dX9_startsMany_3 (by decide) ?_
  refine lv_icmp_ge (tgt := 34) hx hb dX9_startsMany_5 (by decide) (fun c => absurd c (by decide)) (fun _ => ?_)
  refine lv_aload_n hx hb dX9_startsMany_8 rfl (lv_at hl 1 rfl) ?_
  refine va_get (D := G) (ci := 9) (v := .ref (r 41)) (C := RX9) (T := TX9) (N := 53) hx hb hts iX9 hown hK hP 0 rfl rfl 41 (by decide) (hts _ m_243) (fun _ h9 => h9) rfl dX9_startsMany_9 ?_
  refine lv_iload_n hx hb dX9_startsMany_12 rfl (lv_at hl 0 rfl) ?_
  refine lv_iload_n hx hb dX9_startsMany_13 rfl (lv_at hl 0 rfl) ?_
  refine lv_iload_n hx hb dX9_startsMany_14 rfl (lv_at hl 2 rfl) ?_
  refine lv_iconst (v := 4) hx hb dX9_startsMany_15 (by decide) ?_
  refine lv_iload_n hx hb dX9_startsMany_16 rfl (lv_at hl 3 rfl) ?_
  refine lv_imul hx hb dX9_startsMany_17 ?_
  refine gw_topi (y := 0) (by decide) ?_
  refine lv_iadd hx hb dX9_startsMany_18 ?_
  refine gw_topi (y := 0) (by decide) ?_
  refine lv_icmp_ne (tgt := 26) hx hb dX9_startsMany_19 (by decide) (fun _ => ?_) (fun c => absurd c (by decide))
  refine lv_lconst (v := 0) hx hb dX9_startsMany_26 (by decide) ?_
  refine gw_last hx hb hK hP hD hS 1 1 15 rfl rfl rfl (by decide) (by decide) dX9_startsMany_27 (fun H locs hP hD hS => ?_)
  have hP : va_P G vwCl [(m0, .inr (9, [.ref (r 0), .ref (r 1), .ref (r 2), .int 0, .int (-1), .int (-1), .ref (r 6), .ref (r 7), .ref (r 8), .ref (r 9), .ref (r 10), .ref (r 11), .ref (r 12), .ref (r 13), .int 0, .int 0, .int 0, .int 0, .int 0, .int 0, .int 0, .int 0, .int 0, .ref (r 23), .ref (r 24), .int 0, .ref (r 26), .ref (r 27), .int 0, .int 0, .int 0, .ref (r 31), .ref (r 32), .ref (r 33), .ref (r 34), .ref (r 35), .int 0, .ref (r 37), .ref (r 38), .ref (r 39), .ref (r 40), .ref (r 41), .ref (r 42), .ref (r 43), .ref (r 44), .ref (r 45), .ref (r 46), .int 0, .ref (r 48), .ref (r 49), .ref (r 50), .ref (r 51), .long 0])), ((r 41), .inl (cJ, 16, .inr (.inl (vp_updL (vp_updL (vp_updL (vp_updL (vp_updL (vp_updL (vp_updL (vp_updL (vp_updL (vp_updL (vp_updL (vp_updL (vp_updL (vp_updL (vp_updL (vp_updL (fun _ => 0) 0 1) 1 0) 2 0) 3 0) 4 0) 5 0) 6 0) 7 0) 8 0) 9 0) 10 0) 11 0) 12 0) 13 0) 14 0) 15 0))))] H := hP
  have hD : va_D A [(m0, .inr (9, [.ref (r 0), .ref (r 1), .ref (r 2), .int 0, .int (-1), .int (-1), .ref (r 6), .ref (r 7), .ref (r 8), .ref (r 9), .ref (r 10), .ref (r 11), .ref (r 12), .ref (r 13), .int 0, .int 0, .int 0, .int 0, .int 0, .int 0, .int 0, .int 0, .int 0, .ref (r 23), .ref (r 24), .int 0, .ref (r 26), .ref (r 27), .int 0, .int 0, .int 0, .ref (r 31), .ref (r 32), .ref (r 33), .ref (r 34), .ref (r 35), .int 0, .ref (r 37), .ref (r 38), .ref (r 39), .ref (r 40), .ref (r 41), .ref (r 42), .ref (r 43), .ref (r 44), .ref (r 45), .ref (r 46), .int 0, .ref (r 48), .ref (r 49), .ref (r 50), .ref (r 51), .long 0])), ((r 41), .inl (cJ, 16, .inr (.inl (vp_updL (vp_updL (vp_updL (vp_updL (vp_updL (vp_updL (vp_updL (vp_updL (vp_updL (vp_updL (vp_updL (vp_updL (vp_updL (vp_updL (vp_updL (vp_updL (fun _ => 0) 0 1) 1 0) 2 0) 3 0) 4 0) 5 0) 6 0) 7 0) 8 0) 9 0) 10 0) 11 0) 12 0) 13 0) 14 0) 15 0))))] := hD
  refine lv_iinc (v := 16) (lv' := [(3, .int 16), (0, .ref m0), (1, .int 0), (2, .int 0)]) hx hb dX9_startsMany_28 hl (k := 0) rfl (by decide) (by decide) rfl (fun ls hl => ?_)
  refine lv_goto (tgt := 2) hx hb dX9_startsMany_31 (by decide) ?_
  refine lv_iload_n hx hb dX9_startsMany_2 rfl (lv_at hl 0 rfl) ?_
  refine lv_bipush (v := 16) hx hb dX9_startsMany_3 (by decide) ?_
  refine lv_icmp_ge (tgt := 34) hx hb dX9_startsMany_5 (by decide) (fun _ => ?_) (fun c => absurd (by decide) c)
  exact gw_vret () hx hb hr hlocks hP hD hS trivial dX9_startsMany_34
set_option maxHeartbeats 4000000 in
set_option maxRecDepth 100000 in
theorem c_manyOf0 (l : Launch) (G : va_G) (cI cJ cZ cB cT : ClassId) (m0 : Nat) (r : Nat → Nat) (p1 : Int32)  : gMl l yX9_manyOf (gws yX9_manyOf cX9_manyOf 7 (some .long)) 1 G (gT cI cJ cZ cB cT) [.ref m0, .int p1] [(m0, .inr (9, [.ref (r 0), .ref (r 1), .ref (r 2), .int 0, .int (-1), .int (-1), .ref (r 6), .ref (r 7), .ref (r 8), .ref (r 9), .ref (r 10), .ref (r 11), .ref (r 12), .ref (r 13), .int 0, .int 0, .int 0, .int 0, .int 0, .int 0, .int 0, .int 0, .int 0, .ref (r 23), .ref (r 24), .int 0, .ref (r 26), .ref (r 27), .int 0, .int 0, .int 0, .ref (r 31), .ref (r 32), .ref (r 33), .ref (r 34), .ref (r 35), .int 0, .ref (r 37), .ref (r 38), .ref (r 39), .ref (r 40), .ref (r 41), .ref (r 42), .ref (r 43), .ref (r 44), .ref (r 45), .ref (r 46), .int 0, .ref (r 48), .ref (r 49), .ref (r 50), .ref (r 51), .long 0])), ((r 41), .inl (cJ, 16, .inr (.inl (vp_updL (vp_updL (vp_updL (vp_updL (vp_updL (vp_updL (vp_updL (vp_updL (vp_updL (vp_updL (vp_updL (vp_updL (vp_updL (vp_updL (vp_updL (vp_updL (fun _ => 0) 0 1) 1 0) 2 0) 3 0) 4 0) 5 0) 6 0) 7 0) 8 0) 9 0) 10 0) 11 0) 12 0) 13 0) 14 0) 15 0))))] (fun r (_ : Unit) => r = 0) (fun (_ : Unit) => ([(m0, .inr (9, [.ref (r 0), .ref (r 1), .ref (r 2), .int 0, .int (-1), .int (-1), .ref (r 6), .ref (r 7), .ref (r 8), .ref (r 9), .ref (r 10), .ref (r 11), .ref (r 12), .ref (r 13), .int 0, .int 0, .int 0, .int 0, .int 0, .int 0, .int 0, .int 0, .int 0, .ref (r 23), .ref (r 24), .int 0, .ref (r 26), .ref (r 27), .int 0, .int 0, .int 0, .ref (r 31), .ref (r 32), .ref (r 33), .ref (r 34), .ref (r 35), .int 0, .ref (r 37), .ref (r 38), .ref (r 39), .ref (r 40), .ref (r 41), .ref (r 42), .ref (r 43), .ref (r 44), .ref (r 45), .ref (r 46), .int 0, .ref (r 48), .ref (r 49), .ref (r 50), .ref (r 51), .long 0])), ((r 41), .inl (cJ, 16, .inr (.inl (vp_updL (vp_updL (vp_updL (vp_updL (vp_updL (vp_updL (vp_updL (vp_updL (vp_updL (vp_updL (vp_updL (vp_updL (vp_updL (vp_updL (vp_updL (vp_updL (fun _ => 0) 0 1) 1 0) 2 0) 3 0) 4 0) 5 0) 6 0) 7 0) 8 0) 9 0) 10 0) 11 0) 12 0) 13 0) 14 0) 15 0))))] : va_W)) := by
  intro sz
  refine gM_start (y := yX9_manyOf) (av := [.ref m0, .int p1]) (ws := [(m0, .inr (9, [.ref (r 0), .ref (r 1), .ref (r 2), .int 0, .int (-1), .int (-1), .ref (r 6), .ref (r 7), .ref (r 8), .ref (r 9), .ref (r 10), .ref (r 11), .ref (r 12), .ref (r 13), .int 0, .int 0, .int 0, .int 0, .int 0, .int 0, .int 0, .int 0, .int 0, .ref (r 23), .ref (r 24), .int 0, .ref (r 26), .ref (r 27), .int 0, .int 0, .int 0, .ref (r 31), .ref (r 32), .ref (r 33), .ref (r 34), .ref (r 35), .int 0, .ref (r 37), .ref (r 38), .ref (r 39), .ref (r 40), .ref (r 41), .ref (r 42), .ref (r 43), .ref (r 44), .ref (r 45), .ref (r 46), .int 0, .ref (r 48), .ref (r 49), .ref (r 50), .ref (r 51), .long 0])), ((r 41), .inl (cJ, 16, .inr (.inl (vp_updL (vp_updL (vp_updL (vp_updL (vp_updL (vp_updL (vp_updL (vp_updL (vp_updL (vp_updL (vp_updL (vp_updL (vp_updL (vp_updL (vp_updL (vp_updL (fun _ => 0) 0 1) 1 0) 2 0) 3 0) 4 0) 5 0) 6 0) 7 0) 8 0) 9 0) 10 0) 11 0) 12 0) 13 0) 14 0) 15 0))))]) (Qf := fun A => va_Ql (fun r (_ : Unit) => r = 0) (gB G (fun (_ : Unit) => ([(m0, .inr (9, [.ref (r 0), .ref (r 1), .ref (r 2), .int 0, .int (-1), .int (-1), .ref (r 6), .ref (r 7), .ref (r 8), .ref (r 9), .ref (r 10), .ref (r 11), .ref (r 12), .ref (r 13), .int 0, .int 0, .int 0, .int 0, .int 0, .int 0, .int 0, .int 0, .int 0, .ref (r 23), .ref (r 24), .int 0, .ref (r 26), .ref (r 27), .int 0, .int 0, .int 0, .ref (r 31), .ref (r 32), .ref (r 33), .ref (r 34), .ref (r 35), .int 0, .ref (r 37), .ref (r 38), .ref (r 39), .ref (r 40), .ref (r 41), .ref (r 42), .ref (r 43), .ref (r 44), .ref (r 45), .ref (r 46), .int 0, .ref (r 48), .ref (r 49), .ref (r 50), .ref (r 51), .long 0])), ((r 41), .inl (cJ, 16, .inr (.inl (vp_updL (vp_updL (vp_updL (vp_updL (vp_updL (vp_updL (vp_updL (vp_updL (vp_updL (vp_updL (vp_updL (vp_updL (vp_updL (vp_updL (vp_updL (vp_updL (fun _ => 0) 0 1) 1 0) 2 0) 3 0) 4 0) 5 0) 6 0) 7 0) 8 0) 9 0) 10 0) 11 0) 12 0) 13 0) 14 0) 15 0))))] : va_W)) A) A) (cc := cX9_manyOf) (maxL := 7) (ret := (some .long)) (by decide) (Nat.le_of_ble_eq_true rfl) ?_
  intro p e s m args below meth c A ls H hx hb hr hts hown hin hlocks hml hP hK hD hA hS hl
  have hl : lv_has ls 7 [(0, .ref m0), (1, .int p1)] := hl
  refine lv_lconst (v := 0) hx hb dX9_manyOf_0 (by decide) ?_
  refine lv_lstore_n (lv' := [(2, .long 0), (0, .ref m0), (1, .int p1)]) hx hb dX9_manyOf_1 rfl hl (by decide) rfl (fun ls hl => ?_)
  refine lv_iconst (v := 0) hx hb dX9_manyOf_2 (by decide) ?_
  refine lv_istore (lv' := [(4, .int 0), (2, .long 0), (0, .ref m0), (1, .int p1)]) hx hb dX9_manyOf_3 hl (by decide) rfl (fun ls hl => ?_)
  refine lv_iload hx hb dX9_manyOf_5 (lv_at hl 0 rfl) ?_
  refine lv_bipush (v := 16) hx hb dX9_manyOf_7 (by decide) ?_
  refine lv_icmp_ge (tgt := 97) hx hb dX9_manyOf_9 (by decide) (fun c => absurd c (by decide)) (fun _ => ?_)
  refine lv_iload hx hb dX9_manyOf_12 (lv_at hl 0 rfl) ?_
  refine lv_iconst (v := 4) hx hb dX9_manyOf_14 (by decide) ?_
  refine lv_irem hx hb dX9_manyOf_15 (by decide) ?_
  refine gw_topi (y := 0) (by decide) ?_
  refine lv_iconst (v := 3) hx hb dX9_manyOf_16 (by decide) ?_
  refine lv_icmp_ne (tgt := 24) hx hb dX9_manyOf_17 (by decide) (fun _ => ?_) (fun c => absurd c (by decide))
  refine lv_iconst (v := 0) hx hb dX9_manyOf_24 (by decide) ?_
  refine lv_istore (lv' := [(5, .int 0), (4, .int 0), (2, .long 0), (0, .ref m0), (1, .int p1)]) hx hb dX9_manyOf_25 hl (by decide) rfl (fun ls hl => ?_)
  refine lv_iload hx hb dX9_manyOf_27 (lv_at hl 1 rfl) ?_
  refine lv_iconst (v := 4) hx hb dX9_manyOf_29 (by decide) ?_
  refine lv_idiv hx hb dX9_manyOf_30 (by decide) ?_
  refine gw_topi (y := 0) (by decide) ?_
  refine lv_iconst (v := 3) hx hb dX9_manyOf_31 (by decide) ?_
  refine lv_icmp_ne (tgt := 39) hx hb dX9_manyOf_32 (by decide) (fun _ => ?_) (fun c => absurd c (by decide))
  refine lv_iconst (v := 0) hx hb dX9_manyOf_39 (by decide) ?_
  refine lv_istore (lv' := [(6, .int 0), (5, .int 0), (4, .int 0), (2, .long 0), (0, .ref m0), (1, .int p1)]) hx hb dX9_manyOf_40 hl (by decide) rfl (fun ls hl => ?_)
  refine lv_lload_n hx hb dX9_manyOf_42 rfl (lv_at hl 3 rfl) ?_
  refine lv_iload_n hx hb dX9_manyOf_43 rfl (lv_at hl 5 rfl) ?_
  refine lv_if_ne (tgt := 55) hx hb dX9_manyOf_44 (by decide) (fun c_1 => ?_) (fun c_1 => ?_)
  · refine lv_iload_n hx hb dX9_manyOf_55 rfl (lv_at hl 5 rfl) ?_
    refine lv_iconst (v := 1) hx hb dX9_manyOf_56 (by decide) ?_
    refine lv_icmp_ne (tgt := 68) hx hb dX9_manyOf_57 (by decide) (fun c_2 => ?_) (fun c_2 => ?_)
    · refine lv_iload hx hb dX9_manyOf_68 (lv_at hl 1 rfl) ?_
      refine lv_if_eq (tgt := 88) hx hb dX9_manyOf_70 (by decide) (fun _ => ?_) (fun c => absurd (by decide) c)
      refine lv_lconst (v := 0) hx hb dX9_manyOf_88 (by decide) ?_
      refine lv_ladd hx hb dX9_manyOf_89 ?_
      refine gw_topl (y := 0) (by decide) ?_
      refine lv_lstore_n (lv' := [(2, .long 0), (6, .int 0), (5, .int 0), (4, .int 0), (0, .ref m0), (1, .int p1)]) hx hb dX9_manyOf_90 rfl hl (by decide) rfl (fun ls hl => ?_)
      refine lv_iinc (v := 1) (lv' := [(4, .int 1), (2, .long 0), (6, .int 0), (5, .int 0), (0, .ref m0), (1, .int p1)]) hx hb dX9_manyOf_91 hl (k := 3) rfl (by decide) (by decide) rfl (fun ls hl => ?_)
      refine lv_goto (tgt := 5) hx hb dX9_manyOf_94 (by decide) ?_
      refine lv_iload hx hb dX9_manyOf_5 (lv_at hl 0 rfl) ?_
      refine lv_bipush (v := 16) hx hb dX9_manyOf_7 (by decide) ?_
      refine lv_icmp_ge (tgt := 97) hx hb dX9_manyOf_9 (by decide) (fun c => absurd c (by decide)) (fun _ => ?_)
      refine lv_iload hx hb dX9_manyOf_12 (lv_at hl 0 rfl) ?_
      refine lv_iconst (v := 4) hx hb dX9_manyOf_14 (by decide) ?_
      refine lv_irem hx hb dX9_manyOf_15 (by decide) ?_
      refine gw_topi (y := 1) (by decide) ?_
      refine lv_iconst (v := 3) hx hb dX9_manyOf_16 (by decide) ?_
      refine lv_icmp_ne (tgt := 24) hx hb dX9_manyOf_17 (by decide) (fun _ => ?_) (fun c => absurd c (by decide))
      refine lv_iconst (v := 0) hx hb dX9_manyOf_24 (by decide) ?_
      refine lv_istore (lv' := [(5, .int 0), (4, .int 1), (2, .long 0), (6, .int 0), (0, .ref m0), (1, .int p1)]) hx hb dX9_manyOf_25 hl (by decide) rfl (fun ls hl => ?_)
      refine lv_iload hx hb dX9_manyOf_27 (lv_at hl 1 rfl) ?_
      refine lv_iconst (v := 4) hx hb dX9_manyOf_29 (by decide) ?_
      refine lv_idiv hx hb dX9_manyOf_30 (by decide) ?_
      refine gw_topi (y := 0) (by decide) ?_
      refine lv_iconst (v := 3) hx hb dX9_manyOf_31 (by decide) ?_
      refine lv_icmp_ne (tgt := 39) hx hb dX9_manyOf_32 (by decide) (fun _ => ?_) (fun c => absurd c (by decide))
      refine lv_iconst (v := 0) hx hb dX9_manyOf_39 (by decide) ?_
      refine lv_istore (lv' := [(6, .int 0), (5, .int 0), (4, .int 1), (2, .long 0), (0, .ref m0), (1, .int p1)]) hx hb dX9_manyOf_40 hl (by decide) rfl (fun ls hl => ?_)
      refine lv_lload_n hx hb dX9_manyOf_42 rfl (lv_at hl 3 rfl) ?_
      refine lv_iload_n hx hb dX9_manyOf_43 rfl (lv_at hl 5 rfl) ?_
      refine lv_if_ne (tgt := 55) hx hb dX9_manyOf_44 (by decide) (fun _ => ?_) (fun c => absurd c c_1)
      refine lv_iload_n hx hb dX9_manyOf_55 rfl (lv_at hl 5 rfl) ?_
      refine lv_iconst (v := 1) hx hb dX9_manyOf_56 (by decide) ?_
      refine lv_icmp_ne (tgt := 68) hx hb dX9_manyOf_57 (by decide) (fun _ => ?_) (fun c => absurd c c_2)
      refine lv_iload hx hb dX9_manyOf_68 (lv_at hl 1 rfl) ?_
      refine lv_if_eq (tgt := 88) hx hb dX9_manyOf_70 (by decide) (fun _ => ?_) (fun c => absurd (by decide) c)
      refine lv_lconst (v := 0) hx hb dX9_manyOf_88 (by decide) ?_
      refine lv_ladd hx hb dX9_manyOf_89 ?_
      refine gw_topl (y := 0) (by decide) ?_
      refine lv_lstore_n (lv' := [(2, .long 0), (6, .int 0), (5, .int 0), (4, .int 1), (0, .ref m0), (1, .int p1)]) hx hb dX9_manyOf_90 rfl hl (by decide) rfl (fun ls hl => ?_)
      refine lv_iinc (v := 2) (lv' := [(4, .int 2), (2, .long 0), (6, .int 0), (5, .int 0), (0, .ref m0), (1, .int p1)]) hx hb dX9_manyOf_91 hl (k := 3) rfl (by decide) (by decide) rfl (fun ls hl => ?_)
      refine lv_goto (tgt := 5) hx hb dX9_manyOf_94 (by decide) ?_
      refine lv_iload hx hb dX9_manyOf_5 (lv_at hl 0 rfl) ?_
      refine lv_bipush (v := 16) hx hb dX9_manyOf_7 (by decide) ?_
      refine lv_icmp_ge (tgt := 97) hx hb dX9_manyOf_9 (by decide) (fun c => absurd c (by decide)) (fun _ => ?_)
      refine lv_iload hx hb dX9_manyOf_12 (lv_at hl 0 rfl) ?_
      refine lv_iconst (v := 4) hx hb dX9_manyOf_14 (by decide) ?_
      refine lv_irem hx hb dX9_manyOf_15 (by decide) ?_
      refine gw_topi (y := 2) (by decide) ?_
      refine lv_iconst (v := 3) hx hb dX9_manyOf_16 (by decide) ?_
      refine lv_icmp_ne (tgt := 24) hx hb dX9_manyOf_17 (by decide) (fun _ => ?_) (fun c => absurd c (by decide))
      refine lv_iconst (v := 0) hx hb dX9_manyOf_24 (by decide) ?_
      refine lv_istore (lv' := [(5, .int 0), (4, .int 2), (2, .long 0), (6, .int 0), (0, .ref m0), (1, .int p1)]) hx hb dX9_manyOf_25 hl (by decide) rfl (fun ls hl => ?_)
      refine lv_iload hx hb dX9_manyOf_27 (lv_at hl 1 rfl) ?_
      refine lv_iconst (v := 4) hx hb dX9_manyOf_29 (by decide) ?_
      refine lv_idiv hx hb dX9_manyOf_30 (by decide) ?_
      refine gw_topi (y := 0) (by decide) ?_
      refine lv_iconst (v := 3) hx hb dX9_manyOf_31 (by decide) ?_
      refine lv_icmp_ne (tgt := 39) hx hb dX9_manyOf_32 (by decide) (fun _ => ?_) (fun c => absurd c (by decide))
      refine lv_iconst (v := 0) hx hb dX9_manyOf_39 (by decide) ?_
      refine lv_istore (lv' := [(6, .int 0), (5, .int 0), (4, .int 2), (2, .long 0), (0, .ref m0), (1, .int p1)]) hx hb dX9_manyOf_40 hl (by decide) rfl (fun ls hl => ?_)
      refine lv_lload_n hx hb dX9_manyOf_42 rfl (lv_at hl 3 rfl) ?_
      refine lv_iload_n hx hb dX9_manyOf_43 rfl (lv_at hl 5 rfl) ?_
      refine lv_if_ne (tgt := 55) hx hb dX9_manyOf_44 (by decide) (fun _ => ?_) (fun c => absurd c c_1)
      refine lv_iload_n hx hb dX9_manyOf_55 rfl (lv_at hl 5 rfl) ?_
      refine lv_iconst (v := 1) hx hb dX9_manyOf_56 (by decide) ?_
      refine lv_icmp_ne (tgt := 68) hx hb dX9_manyOf_57 (by decide) (fun _ => ?_) (fun c => absurd c c_2)
      refine lv_iload hx hb dX9_manyOf_68 (lv_at hl 1 rfl) ?_
      refine lv_if_eq (tgt := 88) hx hb dX9_manyOf_70 (by decide) (fun _ => ?_) (fun c => absurd (by decide) c)
      refine lv_lconst (v := 0) hx hb dX9_manyOf_88 (by decide) ?_
      refine lv_ladd hx hb dX9_manyOf_89 ?_
      refine gw_topl (y := 0) (by decide) ?_
      refine lv_lstore_n (lv' := [(2, .long 0), (6, .int 0), (5, .int 0), (4, .int 2), (0, .ref m0), (1, .int p1)]) hx hb dX9_manyOf_90 rfl hl (by decide) rfl (fun ls hl => ?_)
      refine lv_iinc (v := 3) (lv' := [(4, .int 3), (2, .long 0), (6, .int 0), (5, .int 0), (0, .ref m0), (1, .int p1)]) hx hb dX9_manyOf_91 hl (k := 3) rfl (by decide) (by decide) rfl (fun ls hl => ?_)
      refine lv_goto (tgt := 5) hx hb dX9_manyOf_94 (by decide) ?_
      refine lv_iload hx hb dX9_manyOf_5 (lv_at hl 0 rfl) ?_
      refine lv_bipush (v := 16) hx hb dX9_manyOf_7 (by decide) ?_
      refine lv_icmp_ge (tgt := 97) hx hb dX9_manyOf_9 (by decide) (fun c => absurd c (by decide)) (fun _ => ?_)
      refine lv_iload hx hb dX9_manyOf_12 (lv_at hl 0 rfl) ?_
      refine lv_iconst (v := 4) hx hb dX9_manyOf_14 (by decide) ?_
      refine lv_irem hx hb dX9_manyOf_15 (by decide) ?_
      refine gw_topi (y := 3) (by decide) ?_
      refine lv_iconst (v := 3) hx hb dX9_manyOf_16 (by decide) ?_
      refine lv_icmp_ne (tgt := 24) hx hb dX9_manyOf_17 (by decide) (fun c => absurd (by decide) c) (fun _ => ?_)
      refine lv_iconst (v := 1) hx hb dX9_manyOf_20 (by decide) ?_
      refine lv_goto (tgt := 25) hx hb dX9_manyOf_21 (by decide) ?_
      refine lv_istore (lv' := [(5, .int 1), (4, .int 3), (2, .long 0), (6, .int 0), (0, .ref m0), (1, .int p1)]) hx hb dX9_manyOf_25 hl (by decide) rfl (fun ls hl => ?_)
      refine lv_iload hx hb dX9_manyOf_27 (lv_at hl 1 rfl) ?_
      refine lv_iconst (v := 4) hx hb dX9_manyOf_29 (by decide) ?_
      refine lv_idiv hx hb dX9_manyOf_30 (by decide) ?_
      refine gw_topi (y := 0) (by decide) ?_
      refine lv_iconst (v := 3) hx hb dX9_manyOf_31 (by decide) ?_
      refine lv_icmp_ne (tgt := 39) hx hb dX9_manyOf_32 (by decide) (fun _ => ?_) (fun c => absurd c (by decide))
      refine lv_iconst (v := 0) hx hb dX9_manyOf_39 (by decide) ?_
      refine lv_istore (lv' := [(6, .int 0), (5, .int 1), (4, .int 3), (2, .long 0), (0, .ref m0), (1, .int p1)]) hx hb dX9_manyOf_40 hl (by decide) rfl (fun ls hl => ?_)
      refine lv_lload_n hx hb dX9_manyOf_42 rfl (lv_at hl 3 rfl) ?_
      refine lv_iload_n hx hb dX9_manyOf_43 rfl (lv_at hl 5 rfl) ?_
      refine lv_if_ne (tgt := 55) hx hb dX9_manyOf_44 (by decide) (fun _ => ?_) (fun c => absurd c c_1)
      refine lv_iload_n hx hb dX9_manyOf_55 rfl (lv_at hl 5 rfl) ?_
      refine lv_iconst (v := 1) hx hb dX9_manyOf_56 (by decide) ?_
      refine lv_icmp_ne (tgt := 68) hx hb dX9_manyOf_57 (by decide) (fun _ => ?_) (fun c => absurd c c_2)
      refine lv_iload hx hb dX9_manyOf_68 (lv_at hl 1 rfl) ?_
      refine lv_if_eq (tgt := 88) hx hb dX9_manyOf_70 (by decide) (fun c => absurd c (by decide)) (fun _ => ?_)
      refine lv_iload hx hb dX9_manyOf_73 (lv_at hl 0 rfl) ?_
      refine lv_if_ne (tgt := 88) hx hb dX9_manyOf_75 (by decide) (fun c => absurd (by decide) c) (fun _ => ?_)
      refine lv_aload_n hx hb dX9_manyOf_78 rfl (lv_at hl 4 rfl) ?_
      refine va_get (D := G) (ci := 9) (v := .ref (r 41)) (C := RX9) (T := TX9) (N := 53) hx hb hts iX9 hown hK hP 0 rfl rfl 41 (by decide) (hts _ m_243) (fun _ h9 => h9) rfl dX9_manyOf_79 ?_
      refine lv_iload hx hb dX9_manyOf_82 (lv_at hl 2 rfl) ?_
      refine gw_lald (x := 0) hx hb hK hP 1 1 3 rfl rfl rfl (by decide) (by decide) rfl dX9_manyOf_84 ?_
      refine lv_goto (tgt := 89) hx hb dX9_manyOf_85 (by decide) ?_
      refine lv_ladd hx hb dX9_manyOf_89 ?_
      refine gw_topl (y := 0) (by decide) ?_
      refine lv_lstore_n (lv' := [(2, .long 0), (6, .int 0), (5, .int 1), (4, .int 3), (0, .ref m0), (1, .int p1)]) hx hb dX9_manyOf_90 rfl hl (by decide) rfl (fun ls hl => ?_)
      refine lv_iinc (v := 4) (lv' := [(4, .int 4), (2, .long 0), (6, .int 0), (5, .int 1), (0, .ref m0), (1, .int p1)]) hx hb dX9_manyOf_91 hl (k := 3) rfl (by decide) (by decide) rfl (fun ls hl => ?_)
      refine lv_goto (tgt := 5) hx hb dX9_manyOf_94 (by decide) ?_
      refine lv_iload hx hb dX9_manyOf_5 (lv_at hl 0 rfl) ?_
      refine lv_bipush (v := 16) hx hb dX9_manyOf_7 (by decide) ?_
      refine lv_icmp_ge (tgt := 97) hx hb dX9_manyOf_9 (by decide) (fun c => absurd c (by decide)) (fun _ => ?_)
      refine lv_iload hx hb dX9_manyOf_12 (lv_at hl 0 rfl) ?_
      refine lv_iconst (v := 4) hx hb dX9_manyOf_14 (by decide) ?_
      refine lv_irem hx hb dX9_manyOf_15 (by decide) ?_
      refine gw_topi (y := 0) (by decide) ?_
      refine lv_iconst (v := 3) hx hb dX9_manyOf_16 (by decide) ?_
      refine lv_icmp_ne (tgt := 24) hx hb dX9_manyOf_17 (by decide) (fun _ => ?_) (fun c => absurd c (by decide))
      refine lv_iconst (v := 0) hx hb dX9_manyOf_24 (by decide) ?_
      refine lv_istore (lv' := [(5, .int 0), (4, .int 4), (2, .long 0), (6, .int 0), (0, .ref m0), (1, .int p1)]) hx hb dX9_manyOf_25 hl (by decide) rfl (fun ls hl => ?_)
      refine lv_iload hx hb dX9_manyOf_27 (lv_at hl 1 rfl) ?_
      refine lv_iconst (v := 4) hx hb dX9_manyOf_29 (by decide) ?_
      refine lv_idiv hx hb dX9_manyOf_30 (by decide) ?_
      refine gw_topi (y := 1) (by decide) ?_
      refine lv_iconst (v := 3) hx hb dX9_manyOf_31 (by decide) ?_
      refine lv_icmp_ne (tgt := 39) hx hb dX9_manyOf_32 (by decide) (fun _ => ?_) (fun c => absurd c (by decide))
      refine lv_iconst (v := 0) hx hb dX9_manyOf_39 (by decide) ?_
      refine lv_istore (lv' := [(6, .int 0), (5, .int 0), (4, .int 4), (2, .long 0), (0, .ref m0), (1, .int p1)]) hx hb dX9_manyOf_40 hl (by decide) rfl (fun ls hl => ?_)
      refine lv_lload_n hx hb dX9_manyOf_42 rfl (lv_at hl 3 rfl) ?_
      refine lv_iload_n hx hb dX9_manyOf_43 rfl (lv_at hl 5 rfl) ?_
      refine lv_if_ne (tgt := 55) hx hb dX9_manyOf_44 (by decide) (fun _ => ?_) (fun c => absurd c c_1)
      refine lv_iload_n hx hb dX9_manyOf_55 rfl (lv_at hl 5 rfl) ?_
      refine lv_iconst (v := 1) hx hb dX9_manyOf_56 (by decide) ?_
      refine lv_icmp_ne (tgt := 68) hx hb dX9_manyOf_57 (by decide) (fun _ => ?_) (fun c => absurd c c_2)
      refine lv_iload hx hb dX9_manyOf_68 (lv_at hl 1 rfl) ?_
      refine lv_if_eq (tgt := 88) hx hb dX9_manyOf_70 (by decide) (fun _ => ?_) (fun c => absurd (by decide) c)
      refine lv_lconst (v := 0) hx hb dX9_manyOf_88 (by decide) ?_
      refine lv_ladd hx hb dX9_manyOf_89 ?_
      refine gw_topl (y := 0) (by decide) ?_
      refine lv_lstore_n (lv' := [(2, .long 0), (6, .int 0), (5, .int 0), (4, .int 4), (0, .ref m0), (1, .int p1)]) hx hb dX9_manyOf_90 rfl hl (by decide) rfl (fun ls hl => ?_)
      refine lv_iinc (v := 5) (lv' := [(4, .int 5), (2, .long 0), (6, .int 0), (5, .int 0), (0, .ref m0), (1, .int p1)]) hx hb dX9_manyOf_91 hl (k := 3) rfl (by decide) (by decide) rfl (fun ls hl => ?_)
      refine lv_goto (tgt := 5) hx hb dX9_manyOf_94 (by decide) ?_
      refine lv_iload hx hb dX9_manyOf_5 (lv_at hl 0 rfl) ?_
      refine lv_bipush (v := 16) hx hb dX9_manyOf_7 (by decide) ?_
      refine lv_icmp_ge (tgt := 97) hx hb dX9_manyOf_9 (by decide) (fun c => absurd c (by decide)) (fun _ => ?_)
      refine lv_iload hx hb dX9_manyOf_12 (lv_at hl 0 rfl) ?_
      refine lv_iconst (v := 4) hx hb dX9_manyOf_14 (by decide) ?_
      refine lv_irem hx hb dX9_manyOf_15 (by decide) ?_
      refine gw_topi (y := 1) (by decide) ?_
      refine lv_iconst (v := 3) hx hb dX9_manyOf_16 (by decide) ?_
      refine lv_icmp_ne (tgt := 24) hx hb dX9_manyOf_17 (by decide) (fun _ => ?_) (fun c => absurd c (by decide))
      refine lv_iconst (v := 0) hx hb dX9_manyOf_24 (by decide) ?_
      refine lv_istore (lv' := [(5, .int 0), (4, .int 5), (2, .long 0), (6, .int 0), (0, .ref m0), (1, .int p1)]) hx hb dX9_manyOf_25 hl (by decide) rfl (fun ls hl => ?_)
      refine lv_iload hx hb dX9_manyOf_27 (lv_at hl 1 rfl) ?_
      refine lv_iconst (v := 4) hx hb dX9_manyOf_29 (by decide) ?_
      refine lv_idiv hx hb dX9_manyOf_30 (by decide) ?_
      refine gw_topi (y := 1) (by decide) ?_
      refine lv_iconst (v := 3) hx hb dX9_manyOf_31 (by decide) ?_
      refine lv_icmp_ne (tgt := 39) hx hb dX9_manyOf_32 (by decide) (fun _ => ?_) (fun c => absurd c (by decide))
      refine lv_iconst (v := 0) hx hb dX9_manyOf_39 (by decide) ?_
      refine lv_istore (lv' := [(6, .int 0), (5, .int 0), (4, .int 5), (2, .long 0), (0, .ref m0), (1, .int p1)]) hx hb dX9_manyOf_40 hl (by decide) rfl (fun ls hl => ?_)
      refine lv_lload_n hx hb dX9_manyOf_42 rfl (lv_at hl 3 rfl) ?_
      refine lv_iload_n hx hb dX9_manyOf_43 rfl (lv_at hl 5 rfl) ?_
      refine lv_if_ne (tgt := 55) hx hb dX9_manyOf_44 (by decide) (fun _ => ?_) (fun c => absurd c c_1)
      refine lv_iload_n hx hb dX9_manyOf_55 rfl (lv_at hl 5 rfl) ?_
      refine lv_iconst (v := 1) hx hb dX9_manyOf_56 (by decide) ?_
      refine lv_icmp_ne (tgt := 68) hx hb dX9_manyOf_57 (by decide) (fun _ => ?_) (fun c => absurd c c_2)
      refine lv_iload hx hb dX9_manyOf_68 (lv_at hl 1 rfl) ?_
      refine lv_if_eq (tgt := 88) hx hb dX9_manyOf_70 (by decide) (fun _ => ?_) (fun c => absurd (by decide) c)
      refine lv_lconst (v := 0) hx hb dX9_manyOf_88 (by decide) ?_
      refine lv_ladd hx hb dX9_manyOf_89 ?_
      refine gw_topl (y := 0) (by decide) ?_
      refine lv_lstore_n (lv' := [(2, .long 0), (6, .int 0), (5, .int 0), (4, .int 5), (0, .ref m0), (1, .int p1)]) hx hb dX9_manyOf_90 rfl hl (by decide) rfl (fun ls hl => ?_)
      refine lv_iinc (v := 6) (lv' := [(4, .int 6), (2, .long 0), (6, .int 0), (5, .int 0), (0, .ref m0), (1, .int p1)]) hx hb dX9_manyOf_91 hl (k := 3) rfl (by decide) (by decide) rfl (fun ls hl => ?_)
      refine lv_goto (tgt := 5) hx hb dX9_manyOf_94 (by decide) ?_
      refine lv_iload hx hb dX9_manyOf_5 (lv_at hl 0 rfl) ?_
      refine lv_bipush (v := 16) hx hb dX9_manyOf_7 (by decide) ?_
      refine lv_icmp_ge (tgt := 97) hx hb dX9_manyOf_9 (by decide) (fun c => absurd c (by decide)) (fun _ => ?_)
      refine lv_iload hx hb dX9_manyOf_12 (lv_at hl 0 rfl) ?_
      refine lv_iconst (v := 4) hx hb dX9_manyOf_14 (by decide) ?_
      refine lv_irem hx hb dX9_manyOf_15 (by decide) ?_
      refine gw_topi (y := 2) (by decide) ?_
      refine lv_iconst (v := 3) hx hb dX9_manyOf_16 (by decide) ?_
      refine lv_icmp_ne (tgt := 24) hx hb dX9_manyOf_17 (by decide) (fun _ => ?_) (fun c => absurd c (by decide))
      refine lv_iconst (v := 0) hx hb dX9_manyOf_24 (by decide) ?_
      refine lv_istore (lv' := [(5, .int 0), (4, .int 6), (2, .long 0), (6, .int 0), (0, .ref m0), (1, .int p1)]) hx hb dX9_manyOf_25 hl (by decide) rfl (fun ls hl => ?_)
      refine lv_iload hx hb dX9_manyOf_27 (lv_at hl 1 rfl) ?_
      refine lv_iconst (v := 4) hx hb dX9_manyOf_29 (by decide) ?_
      refine lv_idiv hx hb dX9_manyOf_30 (by decide) ?_
      refine gw_topi (y := 1) (by decide) ?_
      refine lv_iconst (v := 3) hx hb dX9_manyOf_31 (by decide) ?_
      refine lv_icmp_ne (tgt := 39) hx hb dX9_manyOf_32 (by decide) (fun _ => ?_) (fun c => absurd c (by decide))
      refine lv_iconst (v := 0) hx hb dX9_manyOf_39 (by decide) ?_
      refine lv_istore (lv' := [(6, .int 0), (5, .int 0), (4, .int 6), (2, .long 0), (0, .ref m0), (1, .int p1)]) hx hb dX9_manyOf_40 hl (by decide) rfl (fun ls hl => ?_)
      refine lv_lload_n hx hb dX9_manyOf_42 rfl (lv_at hl 3 rfl) ?_
      refine lv_iload_n hx hb dX9_manyOf_43 rfl (lv_at hl 5 rfl) ?_
      refine lv_if_ne (tgt := 55) hx hb dX9_manyOf_44 (by decide) (fun _ => ?_) (fun c => absurd c c_1)
      refine lv_iload_n hx hb dX9_manyOf_55 rfl (lv_at hl 5 rfl) ?_
      refine lv_iconst (v := 1) hx hb dX9_manyOf_56 (by decide) ?_
      refine lv_icmp_ne (tgt := 68) hx hb dX9_manyOf_57 (by decide) (fun _ => ?_) (fun c => absurd c c_2)
      refine lv_iload hx hb dX9_manyOf_68 (lv_at hl 1 rfl) ?_
      refine lv_if_eq (tgt := 88) hx hb dX9_manyOf_70 (by decide) (fun _ => ?_) (fun c => absurd (by decide) c)
      refine lv_lconst (v := 0) hx hb dX9_manyOf_88 (by decide) ?_
      refine lv_ladd hx hb dX9_manyOf_89 ?_
      refine gw_topl (y := 0) (by decide) ?_
      refine lv_lstore_n (lv' := [(2, .long 0), (6, .int 0), (5, .int 0), (4, .int 6), (0, .ref m0), (1, .int p1)]) hx hb dX9_manyOf_90 rfl hl (by decide) rfl (fun ls hl => ?_)
      refine lv_iinc (v := 7) (lv' := [(4, .int 7), (2, .long 0), (6, .int 0), (5, .int 0), (0, .ref m0), (1, .int p1)]) hx hb dX9_manyOf_91 hl (k := 3) rfl (by decide) (by decide) rfl (fun ls hl => ?_)
      refine lv_goto (tgt := 5) hx hb dX9_manyOf_94 (by decide) ?_
      refine lv_iload hx hb dX9_manyOf_5 (lv_at hl 0 rfl) ?_
      refine lv_bipush (v := 16) hx hb dX9_manyOf_7 (by decide) ?_
      refine lv_icmp_ge (tgt := 97) hx hb dX9_manyOf_9 (by decide) (fun c => absurd c (by decide)) (fun _ => ?_)
      refine lv_iload hx hb dX9_manyOf_12 (lv_at hl 0 rfl) ?_
      refine lv_iconst (v := 4) hx hb dX9_manyOf_14 (by decide) ?_
      refine lv_irem hx hb dX9_manyOf_15 (by decide) ?_
      refine gw_topi (y := 3) (by decide) ?_
      refine lv_iconst (v := 3) hx hb dX9_manyOf_16 (by decide) ?_
      refine lv_icmp_ne (tgt := 24) hx hb dX9_manyOf_17 (by decide) (fun c => absurd (by decide) c) (fun _ => ?_)
      refine lv_iconst (v := 1) hx hb dX9_manyOf_20 (by decide) ?_
      refine lv_goto (tgt := 25) hx hb dX9_manyOf_21 (by decide) ?_
      refine lv_istore (lv' := [(5, .int 1), (4, .int 7), (2, .long 0), (6, .int 0), (0, .ref m0), (1, .int p1)]) hx hb dX9_manyOf_25 hl (by decide) rfl (fun ls hl => ?_)
      refine lv_iload hx hb dX9_manyOf_27 (lv_at hl 1 rfl) ?_
      refine lv_iconst (v := 4) hx hb dX9_manyOf_29 (by decide) ?_
      refine lv_idiv hx hb dX9_manyOf_30 (by decide) ?_
      refine gw_topi (y := 1) (by decide) ?_
      refine lv_iconst (v := 3) hx hb dX9_manyOf_31 (by decide) ?_
      refine lv_icmp_ne (tgt := 39) hx hb dX9_manyOf_32 (by decide) (fun _ => ?_) (fun c => absurd c (by decide))
      refine lv_iconst (v := 0) hx hb dX9_manyOf_39 (by decide) ?_
      refine lv_istore (lv' := [(6, .int 0), (5, .int 1), (4, .int 7), (2, .long 0), (0, .ref m0), (1, .int p1)]) hx hb dX9_manyOf_40 hl (by decide) rfl (fun ls hl => ?_)
      refine lv_lload_n hx hb dX9_manyOf_42 rfl (lv_at hl 3 rfl) ?_
      refine lv_iload_n hx hb dX9_manyOf_43 rfl (lv_at hl 5 rfl) ?_
      refine lv_if_ne (tgt := 55) hx hb dX9_manyOf_44 (by decide) (fun _ => ?_) (fun c => absurd c c_1)
      refine lv_iload_n hx hb dX9_manyOf_55 rfl (lv_at hl 5 rfl) ?_
      refine lv_iconst (v := 1) hx hb dX9_manyOf_56 (by decide) ?_
      refine lv_icmp_ne (tgt := 68) hx hb dX9_manyOf_57 (by decide) (fun _ => ?_) (fun c => absurd c c_2)
      refine lv_iload hx hb dX9_manyOf_68 (lv_at hl 1 rfl) ?_
      refine lv_if_eq (tgt := 88) hx hb dX9_manyOf_70 (by decide) (fun c => absurd c (by decide)) (fun _ => ?_)
      refine lv_iload hx hb dX9_manyOf_73 (lv_at hl 0 rfl) ?_
      refine lv_if_ne (tgt := 88) hx hb dX9_manyOf_75 (by decide) (fun c => absurd (by decide) c) (fun _ => ?_)
      refine lv_aload_n hx hb dX9_manyOf_78 rfl (lv_at hl 4 rfl) ?_
      refine va_get (D := G) (ci := 9) (v := .ref (r 41)) (C := RX9) (T := TX9) (N := 53) hx hb hts iX9 hown hK hP 0 rfl rfl 41 (by decide) (hts _ m_243) (fun _ h9 => h9) rfl dX9_manyOf_79 ?_
      refine lv_iload hx hb dX9_manyOf_82 (lv_at hl 2 rfl) ?_
      refine gw_lald (x := 0) hx hb hK hP 1 1 7 rfl rfl rfl (by decide) (by decide) rfl dX9_manyOf_84 ?_
      refine lv_goto (tgt := 89) hx hb dX9_manyOf_85 (by decide) ?_
      refine lv_ladd hx hb dX9_manyOf_89 ?_
      refine gw_topl (y := 0) (by decide) ?_
      refine lv_lstore_n (lv' := [(2, .long 0), (6, .int 0), (5, .int 1), (4, .int 7), (0, .ref m0), (1, .int p1)]) hx hb dX9_manyOf_90 rfl hl (by decide) rfl (fun ls hl => ?_)
      refine lv_iinc (v := 8) (lv' := [(4, .int 8), (2, .long 0), (6, .int 0), (5, .int 1), (0, .ref m0), (1, .int p1)]) hx hb dX9_manyOf_91 hl (k := 3) rfl (by decide) (by decide) rfl (fun ls hl => ?_)
      refine lv_goto (tgt := 5) hx hb dX9_manyOf_94 (by decide) ?_
      refine lv_iload hx hb dX9_manyOf_5 (lv_at hl 0 rfl) ?_
      refine lv_bipush (v := 16) hx hb dX9_manyOf_7 (by decide) ?_
      refine lv_icmp_ge (tgt := 97) hx hb dX9_manyOf_9 (by decide) (fun c => absurd c (by decide)) (fun _ => ?_)
      refine lv_iload hx hb dX9_manyOf_12 (lv_at hl 0 rfl) ?_
      refine lv_iconst (v := 4) hx hb dX9_manyOf_14 (by decide) ?_
      refine lv_irem hx hb dX9_manyOf_15 (by decide) ?_
      refine gw_topi (y := 0) (by decide) ?_
      refine lv_iconst (v := 3) hx hb dX9_manyOf_16 (by decide) ?_
      refine lv_icmp_ne (tgt := 24) hx hb dX9_manyOf_17 (by decide) (fun _ => ?_) (fun c => absurd c (by decide))
      refine lv_iconst (v := 0) hx hb dX9_manyOf_24 (by decide) ?_
      refine lv_istore (lv' := [(5, .int 0), (4, .int 8), (2, .long 0), (6, .int 0), (0, .ref m0), (1, .int p1)]) hx hb dX9_manyOf_25 hl (by decide) rfl (fun ls hl => ?_)
      refine lv_iload hx hb dX9_manyOf_27 (lv_at hl 1 rfl) ?_
      refine lv_iconst (v := 4) hx hb dX9_manyOf_29 (by decide) ?_
      refine lv_idiv hx hb dX9_manyOf_30 (by decide) ?_
      refine gw_topi (y := 2) (by decide) ?_
      refine lv_iconst (v := 3) hx hb dX9_manyOf_31 (by decide) ?_
      refine lv_icmp_ne (tgt := 39) hx hb dX9_manyOf_32 (by decide) (fun _ => ?_) (fun c => absurd c (by decide))
      refine lv_iconst (v := 0) hx hb dX9_manyOf_39 (by decide) ?_
      refine lv_istore (lv' := [(6, .int 0), (5, .int 0), (4, .int 8), (2, .long 0), (0, .ref m0), (1, .int p1)]) hx hb dX9_manyOf_40 hl (by decide) rfl (fun ls hl => ?_)
      refine lv_lload_n hx hb dX9_manyOf_42 rfl (lv_at hl 3 rfl) ?_
      refine lv_iload_n hx hb dX9_manyOf_43 rfl (lv_at hl 5 rfl) ?_
      refine lv_if_ne (tgt := 55) hx hb dX9_manyOf_44 (by decide) (fun _ => ?_) (fun c => absurd c c_1)
      refine lv_iload_n hx hb dX9_manyOf_55 rfl (lv_at hl 5 rfl) ?_
      refine lv_iconst (v := 1) hx hb dX9_manyOf_56 (by decide) ?_
      refine lv_icmp_ne (tgt := 68) hx hb dX9_manyOf_57 (by decide) (fun _ => ?_) (fun c => absurd c c_2)
      refine lv_iload hx hb dX9_manyOf_68 (lv_at hl 1 rfl) ?_
      refine lv_if_eq (tgt := 88) hx hb dX9_manyOf_70 (by decide) (fun _ => ?_) (fun c => absurd (by decide) c)
      refine lv_lconst (v := 0) hx hb dX9_manyOf_88 (by decide) ?_
      refine lv_ladd hx hb dX9_manyOf_89 ?_
      refine gw_topl (y := 0) (by decide) ?_
      refine lv_lstore_n (lv' := [(2, .long 0), (6, .int 0), (5, .int 0), (4, .int 8), (0, .ref m0), (1, .int p1)]) hx hb dX9_manyOf_90 rfl hl (by decide) rfl (fun ls hl => ?_)
      refine lv_iinc (v := 9) (lv' := [(4, .int 9), (2, .long 0), (6, .int 0), (5, .int 0), (0, .ref m0), (1, .int p1)]) hx hb dX9_manyOf_91 hl (k := 3) rfl (by decide) (by decide) rfl (fun ls hl => ?_)
      refine lv_goto (tgt := 5) hx hb dX9_manyOf_94 (by decide) ?_
      refine lv_iload hx hb dX9_manyOf_5 (lv_at hl 0 rfl) ?_
      refine lv_bipush (v := 16) hx hb dX9_manyOf_7 (by decide) ?_
      refine lv_icmp_ge (tgt := 97) hx hb dX9_manyOf_9 (by decide) (fun c => absurd c (by decide)) (fun _ => ?_)
      refine lv_iload hx hb dX9_manyOf_12 (lv_at hl 0 rfl) ?_
      refine lv_iconst (v := 4) hx hb dX9_manyOf_14 (by decide) ?_
      refine lv_irem hx hb dX9_manyOf_15 (by decide) ?_
      refine gw_topi (y := 1) (by decide) ?_
      refine lv_iconst (v := 3) hx hb dX9_manyOf_16 (by decide) ?_
      refine lv_icmp_ne (tgt := 24) hx hb dX9_manyOf_17 (by decide) (fun _ => ?_) (fun c => absurd c (by decide))
      refine lv_iconst (v := 0) hx hb dX9_manyOf_24 (by decide) ?_
      refine lv_istore (lv' := [(5, .int 0), (4, .int 9), (2, .long 0), (6, .int 0), (0, .ref m0), (1, .int p1)]) hx hb dX9_manyOf_25 hl (by decide) rfl (fun ls hl => ?_)
      refine lv_iload hx hb dX9_manyOf_27 (lv_at hl 1 rfl) ?_
      refine lv_iconst (v := 4) hx hb dX9_manyOf_29 (by decide) ?_
      refine lv_idiv hx hb dX9_manyOf_30 (by decide) ?_
      refine gw_topi (y := 2) (by decide) ?_
      refine lv_iconst (v := 3) hx hb dX9_manyOf_31 (by decide) ?_
      refine lv_icmp_ne (tgt := 39) hx hb dX9_manyOf_32 (by decide) (fun _ => ?_) (fun c => absurd c (by decide))
      refine lv_iconst (v := 0) hx hb dX9_manyOf_39 (by decide) ?_
      refine lv_istore (lv' := [(6, .int 0), (5, .int 0), (4, .int 9), (2, .long 0), (0, .ref m0), (1, .int p1)]) hx hb dX9_manyOf_40 hl (by decide) rfl (fun ls hl => ?_)
      refine lv_lload_n hx hb dX9_manyOf_42 rfl (lv_at hl 3 rfl) ?_
      refine lv_iload_n hx hb dX9_manyOf_43 rfl (lv_at hl 5 rfl) ?_
      refine lv_if_ne (tgt := 55) hx hb dX9_manyOf_44 (by decide) (fun _ => ?_) (fun c => absurd c c_1)
      refine lv_iload_n hx hb dX9_manyOf_55 rfl (lv_at hl 5 rfl) ?_
      refine lv_iconst (v := 1) hx hb dX9_manyOf_56 (by decide) ?_
      refine lv_icmp_ne (tgt := 68) hx hb dX9_manyOf_57 (by decide) (fun _ => ?_) (fun c => absurd c c_2)
      refine lv_iload hx hb dX9_manyOf_68 (lv_at hl 1 rfl) ?_
      refine lv_if_eq (tgt := 88) hx hb dX9_manyOf_70 (by decide) (fun _ => ?_) (fun c => absurd (by decide) c)
      refine lv_lconst (v := 0) hx hb dX9_manyOf_88 (by decide) ?_
      refine lv_ladd hx hb dX9_manyOf_89 ?_
      refine gw_topl (y := 0) (by decide) ?_
      refine lv_lstore_n (lv' := [(2, .long 0), (6, .int 0), (5, .int 0), (4, .int 9), (0, .ref m0), (1, .int p1)]) hx hb dX9_manyOf_90 rfl hl (by decide) rfl (fun ls hl => ?_)
      refine lv_iinc (v := 10) (lv' := [(4, .int 10), (2, .long 0), (6, .int 0), (5, .int 0), (0, .ref m0), (1, .int p1)]) hx hb dX9_manyOf_91 hl (k := 3) rfl (by decide) (by decide) rfl (fun ls hl => ?_)
      refine lv_goto (tgt := 5) hx hb dX9_manyOf_94 (by decide) ?_
      refine lv_iload hx hb dX9_manyOf_5 (lv_at hl 0 rfl) ?_
      refine lv_bipush (v := 16) hx hb dX9_manyOf_7 (by decide) ?_
      refine lv_icmp_ge (tgt := 97) hx hb dX9_manyOf_9 (by decide) (fun c => absurd c (by decide)) (fun _ => ?_)
      refine lv_iload hx hb dX9_manyOf_12 (lv_at hl 0 rfl) ?_
      refine lv_iconst (v := 4) hx hb dX9_manyOf_14 (by decide) ?_
      refine lv_irem hx hb dX9_manyOf_15 (by decide) ?_
      refine gw_topi (y := 2) (by decide) ?_
      refine lv_iconst (v := 3) hx hb dX9_manyOf_16 (by decide) ?_
      refine lv_icmp_ne (tgt := 24) hx hb dX9_manyOf_17 (by decide) (fun _ => ?_) (fun c => absurd c (by decide))
      refine lv_iconst (v := 0) hx hb dX9_manyOf_24 (by decide) ?_
      refine lv_istore (lv' := [(5, .int 0), (4, .int 10), (2, .long 0), (6, .int 0), (0, .ref m0), (1, .int p1)]) hx hb dX9_manyOf_25 hl (by decide) rfl (fun ls hl => ?_)
      refine lv_iload hx hb dX9_manyOf_27 (lv_at hl 1 rfl) ?_
      refine lv_iconst (v := 4) hx hb dX9_manyOf_29 (by decide) ?_
      refine lv_idiv hx hb dX9_manyOf_30 (by decide) ?_
      refine gw_topi (y := 2) (by decide) ?_
      refine lv_iconst (v := 3) hx hb dX9_manyOf_31 (by decide) ?_
      refine lv_icmp_ne (tgt := 39) hx hb dX9_manyOf_32 (by decide) (fun _ => ?_) (fun c => absurd c (by decide))
      refine lv_iconst (v := 0) hx hb dX9_manyOf_39 (by decide) ?_
      refine lv_istore (lv' := [(6, .int 0), (5, .int 0), (4, .int 10), (2, .long 0), (0, .ref m0), (1, .int p1)]) hx hb dX9_manyOf_40 hl (by decide) rfl (fun ls hl => ?_)
      refine lv_lload_n hx hb dX9_manyOf_42 rfl (lv_at hl 3 rfl) ?_
      refine lv_iload_n hx hb dX9_manyOf_43 rfl (lv_at hl 5 rfl) ?_
      refine lv_if_ne (tgt := 55) hx hb dX9_manyOf_44 (by decide) (fun _ => ?_) (fun c => absurd c c_1)
      refine lv_iload_n hx hb dX9_manyOf_55 rfl (lv_at hl 5 rfl) ?_
      refine lv_iconst (v := 1) hx hb dX9_manyOf_56 (by decide) ?_
      refine lv_icmp_ne (tgt := 68) hx hb dX9_manyOf_57 (by decide) (fun _ => ?_) (fun c => absurd c c_2)
      refine lv_iload hx hb dX9_manyOf_68 (lv_at hl 1 rfl) ?_
      refine lv_if_eq (tgt := 88) hx hb dX9_manyOf_70 (by decide) (fun _ => ?_) (fun c => absurd (by decide) c)
      refine lv_lconst (v := 0) hx hb dX9_manyOf_88 (by decide) ?_
      refine lv_ladd hx hb dX9_manyOf_89 ?_
      refine gw_topl (y := 0) (by decide) ?_
      refine lv_lstore_n (lv' := [(2, .long 0), (6, .int 0), (5, .int 0), (4, .int 10), (0, .ref m0), (1, .int p1)]) hx hb dX9_manyOf_90 rfl hl (by decide) rfl (fun ls hl => ?_)
      refine lv_iinc (v := 11) (lv' := [(4, .int 11), (2, .long 0), (6, .int 0), (5, .int 0), (0, .ref m0), (1, .int p1)]) hx hb dX9_manyOf_91 hl (k := 3) rfl (by decide) (by decide) rfl (fun ls hl => ?_)
      refine lv_goto (tgt := 5) hx hb dX9_manyOf_94 (by decide) ?_
      refine lv_iload hx hb dX9_manyOf_5 (lv_at hl 0 rfl) ?_
      refine lv_bipush (v := 16) hx hb dX9_manyOf_7 (by decide) ?_
      refine lv_icmp_ge (tgt := 97) hx hb dX9_manyOf_9 (by decide) (fun c => absurd c (by decide)) (fun _ => ?_)
      refine lv_iload hx hb dX9_manyOf_12 (lv_at hl 0 rfl) ?_
      refine lv_iconst (v := 4) hx hb dX9_manyOf_14 (by decide) ?_
      refine lv_irem hx hb dX9_manyOf_15 (by decide) ?_
      refine gw_topi (y := 3) (by decide) ?_
      refine lv_iconst (v := 3) hx hb dX9_manyOf_16 (by decide) ?_
      refine lv_icmp_ne (tgt := 24) hx hb dX9_manyOf_17 (by decide) (fun c => absurd (by decide) c) (fun _ => ?_)
      refine lv_iconst (v := 1) hx hb dX9_manyOf_20 (by decide) ?_
      refine lv_goto (tgt := 25) hx hb dX9_manyOf_21 (by decide) ?_
      refine lv_istore (lv' := [(5, .int 1), (4, .int 11), (2, .long 0), (6, .int 0), (0, .ref m0), (1, .int p1)]) hx hb dX9_manyOf_25 hl (by decide) rfl (fun ls hl => ?_)
      refine lv_iload hx hb dX9_manyOf_27 (lv_at hl 1 rfl) ?_
      refine lv_iconst (v := 4) hx hb dX9_manyOf_29 (by decide) ?_
      refine lv_idiv hx hb dX9_manyOf_30 (by decide) ?_
      refine gw_topi (y := 2) (by decide) ?_
      refine lv_iconst (v := 3) hx hb dX9_manyOf_31 (by decide) ?_
      refine lv_icmp_ne (tgt := 39) hx hb dX9_manyOf_32 (by decide) (fun _ => ?_) (fun c => absurd c (by decide))
      refine lv_iconst (v := 0) hx hb dX9_manyOf_39 (by decide) ?_
      refine lv_istore (lv' := [(6, .int 0), (5, .int 1), (4, .int 11), (2, .long 0), (0, .ref m0), (1, .int p1)]) hx hb dX9_manyOf_40 hl (by decide) rfl (fun ls hl => ?_)
      refine lv_lload_n hx hb dX9_manyOf_42 rfl (lv_at hl 3 rfl) ?_
      refine lv_iload_n hx hb dX9_manyOf_43 rfl (lv_at hl 5 rfl) ?_
      refine lv_if_ne (tgt := 55) hx hb dX9_manyOf_44 (by decide) (fun _ => ?_) (fun c => absurd c c_1)
      refine lv_iload_n hx hb dX9_manyOf_55 rfl (lv_at hl 5 rfl) ?_
      refine lv_iconst (v := 1) hx hb dX9_manyOf_56 (by decide) ?_
      refine lv_icmp_ne (tgt := 68) hx hb dX9_manyOf_57 (by decide) (fun _ => ?_) (fun c => absurd c c_2)
      refine lv_iload hx hb dX9_manyOf_68 (lv_at hl 1 rfl) ?_
      refine lv_if_eq (tgt := 88) hx hb dX9_manyOf_70 (by decide) (fun c => absurd c (by decide)) (fun _ => ?_)
      refine lv_iload hx hb dX9_manyOf_73 (lv_at hl 0 rfl) ?_
      refine lv_if_ne (tgt := 88) hx hb dX9_manyOf_75 (by decide) (fun c => absurd (by decide) c) (fun _ => ?_)
      refine lv_aload_n hx hb dX9_manyOf_78 rfl (lv_at hl 4 rfl) ?_
      refine va_get (D := G) (ci := 9) (v := .ref (r 41)) (C := RX9) (T := TX9) (N := 53) hx hb hts iX9 hown hK hP 0 rfl rfl 41 (by decide) (hts _ m_243) (fun _ h9 => h9) rfl dX9_manyOf_79 ?_
      refine lv_iload hx hb dX9_manyOf_82 (lv_at hl 2 rfl) ?_
      refine gw_lald (x := 0) hx hb hK hP 1 1 11 rfl rfl rfl (by decide) (by decide) rfl dX9_manyOf_84 ?_
      refine lv_goto (tgt := 89) hx hb dX9_manyOf_85 (by decide) ?_
      refine lv_ladd hx hb dX9_manyOf_89 ?_
      refine gw_topl (y := 0) (by decide) ?_
      refine lv_lstore_n (lv' := [(2, .long 0), (6, .int 0), (5, .int 1), (4, .int 11), (0, .ref m0), (1, .int p1)]) hx hb dX9_manyOf_90 rfl hl (by decide) rfl (fun ls hl => ?_)
      refine lv_iinc (v := 12) (lv' := [(4, .int 12), (2, .long 0), (6, .int 0), (5, .int 1), (0, .ref m0), (1, .int p1)]) hx hb dX9_manyOf_91 hl (k := 3) rfl (by decide) (by decide) rfl (fun ls hl => ?_)
      refine lv_goto (tgt := 5) hx hb dX9_manyOf_94 (by decide) ?_
      refine lv_iload hx hb dX9_manyOf_5 (lv_at hl 0 rfl) ?_
      refine lv_bipush (v := 16) hx hb dX9_manyOf_7 (by decide) ?_
      refine lv_icmp_ge (tgt := 97) hx hb dX9_manyOf_9 (by decide) (fun c => absurd c (by decide)) (fun _ => ?_)
      refine lv_iload hx hb dX9_manyOf_12 (lv_at hl 0 rfl) ?_
      refine lv_iconst (v := 4) hx hb dX9_manyOf_14 (by decide) ?_
      refine lv_irem hx hb dX9_manyOf_15 (by decide) ?_
      refine gw_topi (y := 0) (by decide) ?_
      refine lv_iconst (v := 3) hx hb dX9_manyOf_16 (by decide) ?_
      refine lv_icmp_ne (tgt := 24) hx hb dX9_manyOf_17 (by decide) (fun _ => ?_) (fun c => absurd c (by decide))
      refine lv_iconst (v := 0) hx hb dX9_manyOf_24 (by decide) ?_
      refine lv_istore (lv' := [(5, .int 0), (4, .int 12), (2, .long 0), (6, .int 0), (0, .ref m0), (1, .int p1)]) hx hb dX9_manyOf_25 hl (by decide) rfl (fun ls hl => ?_)
      refine lv_iload hx hb dX9_manyOf_27 (lv_at hl 1 rfl) ?_
      refine lv_iconst (v := 4) hx hb dX9_manyOf_29 (by decide) ?_
      refine lv_idiv hx hb dX9_manyOf_30 (by decide) ?_
      refine gw_topi (y := 3) (by decide) ?_
      refine lv_iconst (v := 3) hx hb dX9_manyOf_31 (by decide) ?_
      refine lv_icmp_ne (tgt := 39) hx hb dX9_manyOf_32 (by decide) (fun c => absurd (by decide) c) (fun _ => ?_)
      refine lv_iconst (v := 1) hx hb dX9_manyOf_35 (by decide) ?_
      refine lv_goto (tgt := 40) hx hb dX9_manyOf_36 (by decide) ?_
      refine lv_istore (lv' := [(6, .int 1), (5, .int 0), (4, .int 12), (2, .long 0), (0, .ref m0), (1, .int p1)]) hx hb dX9_manyOf_40 hl (by decide) rfl (fun ls hl => ?_)
      refine lv_lload_n hx hb dX9_manyOf_42 rfl (lv_at hl 3 rfl) ?_
      refine lv_iload_n hx hb dX9_manyOf_43 rfl (lv_at hl 5 rfl) ?_
      refine lv_if_ne (tgt := 55) hx hb dX9_manyOf_44 (by decide) (fun _ => ?_) (fun c => absurd c c_1)
      refine lv_iload_n hx hb dX9_manyOf_55 rfl (lv_at hl 5 rfl) ?_
      refine lv_iconst (v := 1) hx hb dX9_manyOf_56 (by decide) ?_
      refine lv_icmp_ne (tgt := 68) hx hb dX9_manyOf_57 (by decide) (fun _ => ?_) (fun c => absurd c c_2)
      refine lv_iload hx hb dX9_manyOf_68 (lv_at hl 1 rfl) ?_
      refine lv_if_eq (tgt := 88) hx hb dX9_manyOf_70 (by decide) (fun _ => ?_) (fun c => absurd (by decide) c)
      refine lv_lconst (v := 0) hx hb dX9_manyOf_88 (by decide) ?_
      refine lv_ladd hx hb dX9_manyOf_89 ?_
      refine gw_topl (y := 0) (by decide) ?_
      refine lv_lstore_n (lv' := [(2, .long 0), (6, .int 1), (5, .int 0), (4, .int 12), (0, .ref m0), (1, .int p1)]) hx hb dX9_manyOf_90 rfl hl (by decide) rfl (fun ls hl => ?_)
      refine lv_iinc (v := 13) (lv' := [(4, .int 13), (2, .long 0), (6, .int 1), (5, .int 0), (0, .ref m0), (1, .int p1)]) hx hb dX9_manyOf_91 hl (k := 3) rfl (by decide) (by decide) rfl (fun ls hl => ?_)
      refine lv_goto (tgt := 5) hx hb dX9_manyOf_94 (by decide) ?_
      refine lv_iload hx hb dX9_manyOf_5 (lv_at hl 0 rfl) ?_
      refine lv_bipush (v := 16) hx hb dX9_manyOf_7 (by decide) ?_
      refine lv_icmp_ge (tgt := 97) hx hb dX9_manyOf_9 (by decide) (fun c => absurd c (by decide)) (fun _ => ?_)
      refine lv_iload hx hb dX9_manyOf_12 (lv_at hl 0 rfl) ?_
      refine lv_iconst (v := 4) hx hb dX9_manyOf_14 (by decide) ?_
      refine lv_irem hx hb dX9_manyOf_15 (by decide) ?_
      refine gw_topi (y := 1) (by decide) ?_
      refine lv_iconst (v := 3) hx hb dX9_manyOf_16 (by decide) ?_
      refine lv_icmp_ne (tgt := 24) hx hb dX9_manyOf_17 (by decide) (fun _ => ?_) (fun c => absurd c (by decide))
      refine lv_iconst (v := 0) hx hb dX9_manyOf_24 (by decide) ?_
      refine lv_istore (lv' := [(5, .int 0), (4, .int 13), (2, .long 0), (6, .int 1), (0, .ref m0), (1, .int p1)]) hx hb dX9_manyOf_25 hl (by decide) rfl (fun ls hl => ?_)
      refine lv_iload hx hb dX9_manyOf_27 (lv_at hl 1 rfl) ?_
      refine lv_iconst (v := 4) hx hb dX9_manyOf_29 (by decide) ?_
      refine lv_idiv hx hb dX9_manyOf_30 (by decide) ?_
      refine gw_topi (y := 3) (by decide) ?_
      refine lv_iconst (v := 3) hx hb dX9_manyOf_31 (by decide) ?_
      refine lv_icmp_ne (tgt := 39) hx hb dX9_manyOf_32 (by decide) (fun c => absurd (by decide) c) (fun _ => ?_)
      refine lv_iconst (v := 1) hx hb dX9_manyOf_35 (by decide) ?_
      refine lv_goto (tgt := 40) hx hb dX9_manyOf_36 (by decide) ?_
      refine lv_istore (lv' := [(6, .int 1), (5, .int 0), (4, .int 13), (2, .long 0), (0, .ref m0), (1, .int p1)]) hx hb dX9_manyOf_40 hl (by decide) rfl (fun ls hl => ?_)
      refine lv_lload_n hx hb dX9_manyOf_42 rfl (lv_at hl 3 rfl) ?_
      refine lv_iload_n hx hb dX9_manyOf_43 rfl (lv_at hl 5 rfl) ?_
      refine lv_if_ne (tgt := 55) hx hb dX9_manyOf_44 (by decide) (fun _ => ?_) (fun c => absurd c c_1)
      refine lv_iload_n hx hb dX9_manyOf_55 rfl (lv_at hl 5 rfl) ?_
      refine lv_iconst (v := 1) hx hb dX9_manyOf_56 (by decide) ?_
      refine lv_icmp_ne (tgt := 68) hx hb dX9_manyOf_57 (by decide) (fun _ => ?_) (fun c => absurd c c_2)
      refine lv_iload hx hb dX9_manyOf_68 (lv_at hl 1 rfl) ?_
      refine lv_if_eq (tgt := 88) hx hb dX9_manyOf_70 (by decide) (fun _ => ?_) (fun c => absurd (by decide) c)
      refine lv_lconst (v := 0) hx hb dX9_manyOf_88 (by decide) ?_
      refine lv_ladd hx hb dX9_manyOf_89 ?_
      refine gw_topl (y := 0) (by decide) ?_
      refine lv_lstore_n (lv' := [(2, .long 0), (6, .int 1), (5, .int 0), (4, .int 13), (0, .ref m0), (1, .int p1)]) hx hb dX9_manyOf_90 rfl hl (by decide) rfl (fun ls hl => ?_)
      refine lv_iinc (v := 14) (lv' := [(4, .int 14), (2, .long 0), (6, .int 1), (5, .int 0), (0, .ref m0), (1, .int p1)]) hx hb dX9_manyOf_91 hl (k := 3) rfl (by decide) (by decide) rfl (fun ls hl => ?_)
      refine lv_goto (tgt := 5) hx hb dX9_manyOf_94 (by decide) ?_
      refine lv_iload hx hb dX9_manyOf_5 (lv_at hl 0 rfl) ?_
      refine lv_bipush (v := 16) hx hb dX9_manyOf_7 (by decide) ?_
      refine lv_icmp_ge (tgt := 97) hx hb dX9_manyOf_9 (by decide) (fun c => absurd c (by decide)) (fun _ => ?_)
      refine lv_iload hx hb dX9_manyOf_12 (lv_at hl 0 rfl) ?_
      refine lv_iconst (v := 4) hx hb dX9_manyOf_14 (by decide) ?_
      refine lv_irem hx hb dX9_manyOf_15 (by decide) ?_
      refine gw_topi (y := 2) (by decide) ?_
      refine lv_iconst (v := 3) hx hb dX9_manyOf_16 (by decide) ?_
      refine lv_icmp_ne (tgt := 24) hx hb dX9_manyOf_17 (by decide) (fun _ => ?_) (fun c => absurd c (by decide))
      refine lv_iconst (v := 0) hx hb dX9_manyOf_24 (by decide) ?_
      refine lv_istore (lv' := [(5, .int 0), (4, .int 14), (2, .long 0), (6, .int 1), (0, .ref m0), (1, .int p1)]) hx hb dX9_manyOf_25 hl (by decide) rfl (fun ls hl => ?_)
      refine lv_iload hx hb dX9_manyOf_27 (lv_at hl 1 rfl) ?_
      refine lv_iconst (v := 4) hx hb dX9_manyOf_29 (by decide) ?_
      refine lv_idiv hx hb dX9_manyOf_30 (by decide) ?_
      refine gw_topi (y := 3) (by decide) ?_
      refine lv_iconst (v := 3) hx hb dX9_manyOf_31 (by decide) ?_
      refine lv_icmp_ne (tgt := 39) hx hb dX9_manyOf_32 (by decide) (fun c => absurd (by decide) c) (fun _ => ?_)
      refine lv_iconst (v := 1) hx hb dX9_manyOf_35 (by decide) ?_
      refine lv_goto (tgt := 40) hx hb dX9_manyOf_36 (by decide) ?_
      refine lv_istore (lv' := [(6, .int 1), (5, .int 0), (4, .int 14), (2, .long 0), (0, .ref m0), (1, .int p1)]) hx hb dX9_manyOf_40 hl (by decide) rfl (fun ls hl => ?_)
      refine lv_lload_n hx hb dX9_manyOf_42 rfl (lv_at hl 3 rfl) ?_
      refine lv_iload_n hx hb dX9_manyOf_43 rfl (lv_at hl 5 rfl) ?_
      refine lv_if_ne (tgt := 55) hx hb dX9_manyOf_44 (by decide) (fun _ => ?_) (fun c => absurd c c_1)
      refine lv_iload_n hx hb dX9_manyOf_55 rfl (lv_at hl 5 rfl) ?_
      refine lv_iconst (v := 1) hx hb dX9_manyOf_56 (by decide) ?_
      refine lv_icmp_ne (tgt := 68) hx hb dX9_manyOf_57 (by decide) (fun _ => ?_) (fun c => absurd c c_2)
      refine lv_iload hx hb dX9_manyOf_68 (lv_at hl 1 rfl) ?_
      refine lv_if_eq (tgt := 88) hx hb dX9_manyOf_70 (by decide) (fun _ => ?_) (fun c => absurd (by decide) c)
      refine lv_lconst (v := 0) hx hb dX9_manyOf_88 (by decide) ?_
      refine lv_ladd hx hb dX9_manyOf_89 ?_
      refine gw_topl (y := 0) (by decide) ?_
      refine lv_lstore_n (lv' := [(2, .long 0), (6, .int 1), (5, .int 0), (4, .int 14), (0, .ref m0), (1, .int p1)]) hx hb dX9_manyOf_90 rfl hl (by decide) rfl (fun ls hl => ?_)
      refine lv_iinc (v := 15) (lv' := [(4, .int 15), (2, .long 0), (6, .int 1), (5, .int 0), (0, .ref m0), (1, .int p1)]) hx hb dX9_manyOf_91 hl (k := 3) rfl (by decide) (by decide) rfl (fun ls hl => ?_)
      refine lv_goto (tgt := 5) hx hb dX9_manyOf_94 (by decide) ?_
      refine lv_iload hx hb dX9_manyOf_5 (lv_at hl 0 rfl) ?_
      refine lv_bipush (v := 16) hx hb dX9_manyOf_7 (by decide) ?_
      refine lv_icmp_ge (tgt := 97) hx hb dX9_manyOf_9 (by decide) (fun c => absurd c (by decide)) (fun _ => ?_)
      refine lv_iload hx hb dX9_manyOf_12 (lv_at hl 0 rfl) ?_
      refine lv_iconst (v := 4) hx hb dX9_manyOf_14 (by decide) ?_
      refine lv_irem hx hb dX9_manyOf_15 (by decide) ?_
      refine gw_topi (y := 3) (by decide) ?_
      refine lv_iconst (v := 3) hx hb dX9_manyOf_16 (by decide) ?_
      refine lv_icmp_ne (tgt := 24) hx hb dX9_manyOf_17 (by decide) (fun c => absurd (by decide) c) (fun _ => ?_)
      refine lv_iconst (v := 1) hx hb dX9_manyOf_20 (by decide) ?_
      refine lv_goto (tgt := 25) hx hb dX9_manyOf_21 (by decide) ?_
      refine lv_istore (lv' := [(5, .int 1), (4, .int 15), (2, .long 0), (6, .int 1), (0, .ref m0), (1, .int p1)]) hx hb dX9_manyOf_25 hl (by decide) rfl (fun ls hl => ?_)
      refine lv_iload hx hb dX9_manyOf_27 (lv_at hl 1 rfl) ?_
      refine lv_iconst (v := 4) hx hb dX9_manyOf_29 (by decide) ?_
      refine lv_idiv hx hb dX9_manyOf_30 (by decide) ?_
      refine gw_topi (y := 3) (by decide) ?_
      refine lv_iconst (v := 3) hx hb dX9_manyOf_31 (by decide) ?_
      refine lv_icmp_ne (tgt := 39) hx hb dX9_manyOf_32 (by decide) (fun c => absurd (by decide) c) (fun _ => ?_)
      refine lv_iconst (v := 1) hx hb dX9_manyOf_35 (by decide) ?_
      refine lv_goto (tgt := 40) hx hb dX9_manyOf_36 (by decide) ?_
      refine lv_istore (lv' := [(6, .int 1), (5, .int 1), (4, .int 15), (2, .long 0), (0, .ref m0), (1, .int p1)]) hx hb dX9_manyOf_40 hl (by decide) rfl (fun ls hl => ?_)
      refine lv_lload_n hx hb dX9_manyOf_42 rfl (lv_at hl 3 rfl) ?_
      refine lv_iload_n hx hb dX9_manyOf_43 rfl (lv_at hl 5 rfl) ?_
      refine lv_if_ne (tgt := 55) hx hb dX9_manyOf_44 (by decide) (fun _ => ?_) (fun c => absurd c c_1)
      refine lv_iload_n hx hb dX9_manyOf_55 rfl (lv_at hl 5 rfl) ?_
      refine lv_iconst (v := 1) hx hb dX9_manyOf_56 (by decide) ?_
      refine lv_icmp_ne (tgt := 68) hx hb dX9_manyOf_57 (by decide) (fun _ => ?_) (fun c => absurd c c_2)
      refine lv_iload hx hb dX9_manyOf_68 (lv_at hl 1 rfl) ?_
      refine lv_if_eq (tgt := 88) hx hb dX9_manyOf_70 (by decide) (fun c => absurd c (by decide)) (fun _ => ?_)
      refine lv_iload hx hb dX9_manyOf_73 (lv_at hl 0 rfl) ?_
      refine lv_if_ne (tgt := 88) hx hb dX9_manyOf_75 (by decide) (fun _ => ?_) (fun c => absurd c (by decide))
      refine lv_lconst (v := 0) hx hb dX9_manyOf_88 (by decide) ?_
      refine lv_ladd hx hb dX9_manyOf_89 ?_
      refine gw_topl (y := 0) (by decide) ?_
      refine lv_lstore_n (lv' := [(2, .long 0), (6, .int 1), (5, .int 1), (4, .int 15), (0, .ref m0), (1, .int p1)]) hx hb dX9_manyOf_90 rfl hl (by decide) rfl (fun ls hl => ?_)
      refine lv_iinc (v := 16) (lv' := [(4, .int 16), (2, .long 0), (6, .int 1), (5, .int 1), (0, .ref m0), (1, .int p1)]) hx hb dX9_manyOf_91 hl (k := 3) rfl (by decide) (by decide) rfl (fun ls hl => ?_)
      refine lv_goto (tgt := 5) hx hb dX9_manyOf_94 (by decide) ?_
      refine lv_iload hx hb dX9_manyOf_5 (lv_at hl 0 rfl) ?_
      refine lv_bipush (v := 16) hx hb dX9_manyOf_7 (by decide) ?_
      refine lv_icmp_ge (tgt := 97) hx hb dX9_manyOf_9 (by decide) (fun _ => ?_) (fun c => absurd (by decide) c)
      refine lv_lload_n hx hb dX9_manyOf_97 rfl (lv_at hl 1 rfl) ?_
      exact gw_lret () hx hb hr hlocks hP hD hS rfl dX9_manyOf_98
    · refine lv_iload hx hb dX9_manyOf_60 (lv_at hl 0 rfl) ?_
      refine lv_if_eq (tgt := 88) hx hb dX9_manyOf_62 (by decide) (fun _ => ?_) (fun c => absurd (by decide) c)
      refine lv_lconst (v := 0) hx hb dX9_manyOf_88 (by decide) ?_
      refine lv_ladd hx hb dX9_manyOf_89 ?_
      refine gw_topl (y := 0) (by decide) ?_
      refine lv_lstore_n (lv' := [(2, .long 0), (6, .int 0), (5, .int 0), (4, .int 0), (0, .ref m0), (1, .int p1)]) hx hb dX9_manyOf_90 rfl hl (by decide) rfl (fun ls hl => ?_)
      refine lv_iinc (v := 1) (lv' := [(4, .int 1), (2, .long 0), (6, .int 0), (5, .int 0), (0, .ref m0), (1, .int p1)]) hx hb dX9_manyOf_91 hl (k := 3) rfl (by decide) (by decide) rfl (fun ls hl => ?_)
      refine lv_goto (tgt := 5) hx hb dX9_manyOf_94 (by decide) ?_
      refine lv_iload hx hb dX9_manyOf_5 (lv_at hl 0 rfl) ?_
      refine lv_bipush (v := 16) hx hb dX9_manyOf_7 (by decide) ?_
      refine lv_icmp_ge (tgt := 97) hx hb dX9_manyOf_9 (by decide) (fun c => absurd c (by decide)) (fun _ => ?_)
      refine lv_iload hx hb dX9_manyOf_12 (lv_at hl 0 rfl) ?_
      refine lv_iconst (v := 4) hx hb dX9_manyOf_14 (by decide) ?_
      refine lv_irem hx hb dX9_manyOf_15 (by decide) ?_
      refine gw_topi (y := 1) (by decide) ?_
      refine lv_iconst (v := 3) hx hb dX9_manyOf_16 (by decide) ?_
      refine lv_icmp_ne (tgt := 24) hx hb dX9_manyOf_17 (by decide) (fun _ => ?_) (fun c => absurd c (by decide))
      refine lv_iconst (v := 0) hx hb dX9_manyOf_24 (by decide) ?_
      refine lv_istore (lv' := [(5, .int 0), (4, .int 1), (2, .long 0), (6, .int 0), (0, .ref m0), (1, .int p1)]) hx hb dX9_manyOf_25 hl (by decide) rfl (fun ls hl => ?_)
      refine lv_iload hx hb dX9_manyOf_27 (lv_at hl 1 rfl) ?_
      refine lv_iconst (v := 4) hx hb dX9_manyOf_29 (by decide) ?_
      refine lv_idiv hx hb dX9_manyOf_30 (by decide) ?_
      refine gw_topi (y := 0) (by decide) ?_
      refine lv_iconst (v := 3) hx hb dX9_manyOf_31 (by decide) ?_
      refine lv_icmp_ne (tgt := 39) hx hb dX9_manyOf_32 (by decide) (fun _ => ?_) (fun c => absurd c (by decide))
      refine lv_iconst (v := 0) hx hb dX9_manyOf_39 (by decide) ?_
      refine lv_istore (lv' := [(6, .int 0), (5, .int 0), (4, .int 1), (2, .long 0), (0, .ref m0), (1, .int p1)]) hx hb dX9_manyOf_40 hl (by decide) rfl (fun ls hl => ?_)
      refine lv_lload_n hx hb dX9_manyOf_42 rfl (lv_at hl 3 rfl) ?_
      refine lv_iload_n hx hb dX9_manyOf_43 rfl (lv_at hl 5 rfl) ?_
      refine lv_if_ne (tgt := 55) hx hb dX9_manyOf_44 (by decide) (fun _ => ?_) (fun c => absurd c c_1)
      refine lv_iload_n hx hb dX9_manyOf_55 rfl (lv_at hl 5 rfl) ?_
      refine lv_iconst (v := 1) hx hb dX9_manyOf_56 (by decide) ?_
      refine lv_icmp_ne (tgt := 68) hx hb dX9_manyOf_57 (by decide) (fun c => absurd c_2 c) (fun _ => ?_)
      refine lv_iload hx hb dX9_manyOf_60 (lv_at hl 0 rfl) ?_
      refine lv_if_eq (tgt := 88) hx hb dX9_manyOf_62 (by decide) (fun _ => ?_) (fun c => absurd (by decide) c)
      refine lv_lconst (v := 0) hx hb dX9_manyOf_88 (by decide) ?_
      refine lv_ladd hx hb dX9_manyOf_89 ?_
      refine gw_topl (y := 0) (by decide) ?_
      refine lv_lstore_n (lv' := [(2, .long 0), (6, .int 0), (5, .int 0), (4, .int 1), (0, .ref m0), (1, .int p1)]) hx hb dX9_manyOf_90 rfl hl (by decide) rfl (fun ls hl => ?_)
      refine lv_iinc (v := 2) (lv' := [(4, .int 2), (2, .long 0), (6, .int 0), (5, .int 0), (0, .ref m0), (1, .int p1)]) hx hb dX9_manyOf_91 hl (k := 3) rfl (by decide) (by decide) rfl (fun ls hl => ?_)
      refine lv_goto (tgt := 5) hx hb dX9_manyOf_94 (by decide) ?_
      refine lv_iload hx hb dX9_manyOf_5 (lv_at hl 0 rfl) ?_
      refine lv_bipush (v := 16) hx hb dX9_manyOf_7 (by decide) ?_
      refine lv_icmp_ge (tgt := 97) hx hb dX9_manyOf_9 (by decide) (fun c => absurd c (by decide)) (fun _ => ?_)
      refine lv_iload hx hb dX9_manyOf_12 (lv_at hl 0 rfl) ?_
      refine lv_iconst (v := 4) hx hb dX9_manyOf_14 (by decide) ?_
      refine lv_irem hx hb dX9_manyOf_15 (by decide) ?_
      refine gw_topi (y := 2) (by decide) ?_
      refine lv_iconst (v := 3) hx hb dX9_manyOf_16 (by decide) ?_
      refine lv_icmp_ne (tgt := 24) hx hb dX9_manyOf_17 (by decide) (fun _ => ?_) (fun c => absurd c (by decide))
      refine lv_iconst (v := 0) hx hb dX9_manyOf_24 (by decide) ?_
      refine lv_istore (lv' := [(5, .int 0), (4, .int 2), (2, .long 0), (6, .int 0), (0, .ref m0), (1, .int p1)]) hx hb dX9_manyOf_25 hl (by decide) rfl (fun ls hl => ?_)
      refine lv_iload hx hb dX9_manyOf_27 (lv_at hl 1 rfl) ?_
      refine lv_iconst (v := 4) hx hb dX9_manyOf_29 (by decide) ?_
      refine lv_idiv hx hb dX9_manyOf_30 (by decide) ?_
      refine gw_topi (y := 0) (by decide) ?_
      refine lv_iconst (v := 3) hx hb dX9_manyOf_31 (by decide) ?_
      refine lv_icmp_ne (tgt := 39) hx hb dX9_manyOf_32 (by decide) (fun _ => ?_) (fun c => absurd c (by decide))
      refine lv_iconst (v := 0) hx hb dX9_manyOf_39 (by decide) ?_
      refine lv_istore (lv' := [(6, .int 0), (5, .int 0), (4, .int 2), (2, .long 0), (0, .ref m0), (1, .int p1)]) hx hb dX9_manyOf_40 hl (by decide) rfl (fun ls hl => ?_)
      refine lv_lload_n hx hb dX9_manyOf_42 rfl (lv_at hl 3 rfl) ?_
      refine lv_iload_n hx hb dX9_manyOf_43 rfl (lv_at hl 5 rfl) ?_
      refine lv_if_ne (tgt := 55) hx hb dX9_manyOf_44 (by decide) (fun _ => ?_) (fun c => absurd c c_1)
      refine lv_iload_n hx hb dX9_manyOf_55 rfl (lv_at hl 5 rfl) ?_
      refine lv_iconst (v := 1) hx hb dX9_manyOf_56 (by decide) ?_
      refine lv_icmp_ne (tgt := 68) hx hb dX9_manyOf_57 (by decide) (fun c => absurd c_2 c) (fun _ => ?_)
      refine lv_iload hx hb dX9_manyOf_60 (lv_at hl 0 rfl) ?_
      refine lv_if_eq (tgt := 88) hx hb dX9_manyOf_62 (by decide) (fun _ => ?_) (fun c => absurd (by decide) c)
      refine lv_lconst (v := 0) hx hb dX9_manyOf_88 (by decide) ?_
      refine lv_ladd hx hb dX9_manyOf_89 ?_
      refine gw_topl (y := 0) (by decide) ?_
      refine lv_lstore_n (lv' := [(2, .long 0), (6, .int 0), (5, .int 0), (4, .int 2), (0, .ref m0), (1, .int p1)]) hx hb dX9_manyOf_90 rfl hl (by decide) rfl (fun ls hl => ?_)
      refine lv_iinc (v := 3) (lv' := [(4, .int 3), (2, .long 0), (6, .int 0), (5, .int 0), (0, .ref m0), (1, .int p1)]) hx hb dX9_manyOf_91 hl (k := 3) rfl (by decide) (by decide) rfl (fun ls hl => ?_)
      refine lv_goto (tgt := 5) hx hb dX9_manyOf_94 (by decide) ?_
      refine lv_iload hx hb dX9_manyOf_5 (lv_at hl 0 rfl) ?_
      refine lv_bipush (v := 16) hx hb dX9_manyOf_7 (by decide) ?_
      refine lv_icmp_ge (tgt := 97) hx hb dX9_manyOf_9 (by decide) (fun c => absurd c (by decide)) (fun _ => ?_)
      refine lv_iload hx hb dX9_manyOf_12 (lv_at hl 0 rfl) ?_
      refine lv_iconst (v := 4) hx hb dX9_manyOf_14 (by decide) ?_
      refine lv_irem hx hb dX9_manyOf_15 (by decide) ?_
      refine gw_topi (y := 3) (by decide) ?_
      refine lv_iconst (v := 3) hx hb dX9_manyOf_16 (by decide) ?_
      refine lv_icmp_ne (tgt := 24) hx hb dX9_manyOf_17 (by decide) (fun c => absurd (by decide) c) (fun _ => ?_)
      refine lv_iconst (v := 1) hx hb dX9_manyOf_20 (by decide) ?_
      refine lv_goto (tgt := 25) hx hb dX9_manyOf_21 (by decide) ?_
      refine lv_istore (lv' := [(5, .int 1), (4, .int 3), (2, .long 0), (6, .int 0), (0, .ref m0), (1, .int p1)]) hx hb dX9_manyOf_25 hl (by decide) rfl (fun ls hl => ?_)
      refine lv_iload hx hb dX9_manyOf_27 (lv_at hl 1 rfl) ?_
      refine lv_iconst (v := 4) hx hb dX9_manyOf_29 (by decide) ?_
      refine lv_idiv hx hb dX9_manyOf_30 (by decide) ?_
      refine gw_topi (y := 0) (by decide) ?_
      refine lv_iconst (v := 3) hx hb dX9_manyOf_31 (by decide) ?_
      refine lv_icmp_ne (tgt := 39) hx hb dX9_manyOf_32 (by decide) (fun _ => ?_) (fun c => absurd c (by decide))
      refine lv_iconst (v := 0) hx hb dX9_manyOf_39 (by decide) ?_
      refine lv_istore (lv' := [(6, .int 0), (5, .int 1), (4, .int 3), (2, .long 0), (0, .ref m0), (1, .int p1)]) hx hb dX9_manyOf_40 hl (by decide) rfl (fun ls hl => ?_)
      refine lv_lload_n hx hb dX9_manyOf_42 rfl (lv_at hl 3 rfl) ?_
      refine lv_iload_n hx hb dX9_manyOf_43 rfl (lv_at hl 5 rfl) ?_
      refine lv_if_ne (tgt := 55) hx hb dX9_manyOf_44 (by decide) (fun _ => ?_) (fun c => absurd c c_1)
      refine lv_iload_n hx hb dX9_manyOf_55 rfl (lv_at hl 5 rfl) ?_
      refine lv_iconst (v := 1) hx hb dX9_manyOf_56 (by decide) ?_
      refine lv_icmp_ne (tgt := 68) hx hb dX9_manyOf_57 (by decide) (fun c => absurd c_2 c) (fun _ => ?_)
      refine lv_iload hx hb dX9_manyOf_60 (lv_at hl 0 rfl) ?_
      refine lv_if_eq (tgt := 88) hx hb dX9_manyOf_62 (by decide) (fun _ => ?_) (fun c => absurd (by decide) c)
      refine lv_lconst (v := 0) hx hb dX9_manyOf_88 (by decide) ?_
      refine lv_ladd hx hb dX9_manyOf_89 ?_
      refine gw_topl (y := 0) (by decide) ?_
      refine lv_lstore_n (lv' := [(2, .long 0), (6, .int 0), (5, .int 1), (4, .int 3), (0, .ref m0), (1, .int p1)]) hx hb dX9_manyOf_90 rfl hl (by decide) rfl (fun ls hl => ?_)
      refine lv_iinc (v := 4) (lv' := [(4, .int 4), (2, .long 0), (6, .int 0), (5, .int 1), (0, .ref m0), (1, .int p1)]) hx hb dX9_manyOf_91 hl (k := 3) rfl (by decide) (by decide) rfl (fun ls hl => ?_)
      refine lv_goto (tgt := 5) hx hb dX9_manyOf_94 (by decide) ?_
      refine lv_iload hx hb dX9_manyOf_5 (lv_at hl 0 rfl) ?_
      refine lv_bipush (v := 16) hx hb dX9_manyOf_7 (by decide) ?_
      refine lv_icmp_ge (tgt := 97) hx hb dX9_manyOf_9 (by decide) (fun c => absurd c (by decide)) (fun _ => ?_)
      refine lv_iload hx hb dX9_manyOf_12 (lv_at hl 0 rfl) ?_
      refine lv_iconst (v := 4) hx hb dX9_manyOf_14 (by decide) ?_
      refine lv_irem hx hb dX9_manyOf_15 (by decide) ?_
      refine gw_topi (y := 0) (by decide) ?_
      refine lv_iconst (v := 3) hx hb dX9_manyOf_16 (by decide) ?_
      refine lv_icmp_ne (tgt := 24) hx hb dX9_manyOf_17 (by decide) (fun _ => ?_) (fun c => absurd c (by decide))
      refine lv_iconst (v := 0) hx hb dX9_manyOf_24 (by decide) ?_
      refine lv_istore (lv' := [(5, .int 0), (4, .int 4), (2, .long 0), (6, .int 0), (0, .ref m0), (1, .int p1)]) hx hb dX9_manyOf_25 hl (by decide) rfl (fun ls hl => ?_)
      refine lv_iload hx hb dX9_manyOf_27 (lv_at hl 1 rfl) ?_
      refine lv_iconst (v := 4) hx hb dX9_manyOf_29 (by decide) ?_
      refine lv_idiv hx hb dX9_manyOf_30 (by decide) ?_
      refine gw_topi (y := 1) (by decide) ?_
      refine lv_iconst (v := 3) hx hb dX9_manyOf_31 (by decide) ?_
      refine lv_icmp_ne (tgt := 39) hx hb dX9_manyOf_32 (by decide) (fun _ => ?_) (fun c => absurd c (by decide))
      refine lv_iconst (v := 0) hx hb dX9_manyOf_39 (by decide) ?_
      refine lv_istore (lv' := [(6, .int 0), (5, .int 0), (4, .int 4), (2, .long 0), (0, .ref m0), (1, .int p1)]) hx hb dX9_manyOf_40 hl (by decide) rfl (fun ls hl => ?_)
      refine lv_lload_n hx hb dX9_manyOf_42 rfl (lv_at hl 3 rfl) ?_
      refine lv_iload_n hx hb dX9_manyOf_43 rfl (lv_at hl 5 rfl) ?_
      refine lv_if_ne (tgt := 55) hx hb dX9_manyOf_44 (by decide) (fun _ => ?_) (fun c => absurd c c_1)
      refine lv_iload_n hx hb dX9_manyOf_55 rfl (lv_at hl 5 rfl) ?_
      refine lv_iconst (v := 1) hx hb dX9_manyOf_56 (by decide) ?_
      refine lv_icmp_ne (tgt := 68) hx hb dX9_manyOf_57 (by decide) (fun c => absurd c_2 c) (fun _ => ?_)
      refine lv_iload hx hb dX9_manyOf_60 (lv_at hl 0 rfl) ?_
      refine lv_if_eq (tgt := 88) hx hb dX9_manyOf_62 (by decide) (fun _ => ?_) (fun c => absurd (by decide) c)
      refine lv_lconst (v := 0) hx hb dX9_manyOf_88 (by decide) ?_
      refine lv_ladd hx hb dX9_manyOf_89 ?_
      refine gw_topl (y := 0) (by decide) ?_
      refine lv_lstore_n (lv' := [(2, .long 0), (6, .int 0), (5, .int 0), (4, .int 4), (0, .ref m0), (1, .int p1)]) hx hb dX9_manyOf_90 rfl hl (by decide) rfl (fun ls hl => ?_)
      refine lv_iinc (v := 5) (lv' := [(4, .int 5), (2, .long 0), (6, .int 0), (5, .int 0), (0, .ref m0), (1, .int p1)]) hx hb dX9_manyOf_91 hl (k := 3) rfl (by decide) (by decide) rfl (fun ls hl => ?_)
      refine lv_goto (tgt := 5) hx hb dX9_manyOf_94 (by decide) ?_
      refine lv_iload hx hb dX9_manyOf_5 (lv_at hl 0 rfl) ?_
      refine lv_bipush (v := 16) hx hb dX9_manyOf_7 (by decide) ?_
      refine lv_icmp_ge (tgt := 97) hx hb dX9_manyOf_9 (by decide) (fun c => absurd c (by decide)) (fun _ => ?_)
      refine lv_iload hx hb dX9_manyOf_12 (lv_at hl 0 rfl) ?_
      refine lv_iconst (v := 4) hx hb dX9_manyOf_14 (by decide) ?_
      refine lv_irem hx hb dX9_manyOf_15 (by decide) ?_
      refine gw_topi (y := 1) (by decide) ?_
      refine lv_iconst (v := 3) hx hb dX9_manyOf_16 (by decide) ?_
      refine lv_icmp_ne (tgt := 24) hx hb dX9_manyOf_17 (by decide) (fun _ => ?_) (fun c => absurd c (by decide))
      refine lv_iconst (v := 0) hx hb dX9_manyOf_24 (by decide) ?_
      refine lv_istore (lv' := [(5, .int 0), (4, .int 5), (2, .long 0), (6, .int 0), (0, .ref m0), (1, .int p1)]) hx hb dX9_manyOf_25 hl (by decide) rfl (fun ls hl => ?_)
      refine lv_iload hx hb dX9_manyOf_27 (lv_at hl 1 rfl) ?_
      refine lv_iconst (v := 4) hx hb dX9_manyOf_29 (by decide) ?_
      refine lv_idiv hx hb dX9_manyOf_30 (by decide) ?_
      refine gw_topi (y := 1) (by decide) ?_
      refine lv_iconst (v := 3) hx hb dX9_manyOf_31 (by decide) ?_
      refine lv_icmp_ne (tgt := 39) hx hb dX9_manyOf_32 (by decide) (fun _ => ?_) (fun c => absurd c (by decide))
      refine lv_iconst (v := 0) hx hb dX9_manyOf_39 (by decide) ?_
      refine lv_istore (lv' := [(6, .int 0), (5, .int 0), (4, .int 5), (2, .long 0), (0, .ref m0), (1, .int p1)]) hx hb dX9_manyOf_40 hl (by decide) rfl (fun ls hl => ?_)
      refine lv_lload_n hx hb dX9_manyOf_42 rfl (lv_at hl 3 rfl) ?_
      refine lv_iload_n hx hb dX9_manyOf_43 rfl (lv_at hl 5 rfl) ?_
      refine lv_if_ne (tgt := 55) hx hb dX9_manyOf_44 (by decide) (fun _ => ?_) (fun c => absurd c c_1)
      refine lv_iload_n hx hb dX9_manyOf_55 rfl (lv_at hl 5 rfl) ?_
      refine lv_iconst (v := 1) hx hb dX9_manyOf_56 (by decide) ?_
      refine lv_icmp_ne (tgt := 68) hx hb dX9_manyOf_57 (by decide) (fun c => absurd c_2 c) (fun _ => ?_)
      refine lv_iload hx hb dX9_manyOf_60 (lv_at hl 0 rfl) ?_
      refine lv_if_eq (tgt := 88) hx hb dX9_manyOf_62 (by decide) (fun _ => ?_) (fun c => absurd (by decide) c)
      refine lv_lconst (v := 0) hx hb dX9_manyOf_88 (by decide) ?_
      refine lv_ladd hx hb dX9_manyOf_89 ?_
      refine gw_topl (y := 0) (by decide) ?_
      refine lv_lstore_n (lv' := [(2, .long 0), (6, .int 0), (5, .int 0), (4, .int 5), (0, .ref m0), (1, .int p1)]) hx hb dX9_manyOf_90 rfl hl (by decide) rfl (fun ls hl => ?_)
      refine lv_iinc (v := 6) (lv' := [(4, .int 6), (2, .long 0), (6, .int 0), (5, .int 0), (0, .ref m0), (1, .int p1)]) hx hb dX9_manyOf_91 hl (k := 3) rfl (by decide) (by decide) rfl (fun ls hl => ?_)
      refine lv_goto (tgt := 5) hx hb dX9_manyOf_94 (by decide) ?_
      refine lv_iload hx hb dX9_manyOf_5 (lv_at hl 0 rfl) ?_
      refine lv_bipush (v := 16) hx hb dX9_manyOf_7 (by decide) ?_
      refine lv_icmp_ge (tgt := 97) hx hb dX9_manyOf_9 (by decide) (fun c => absurd c (by decide)) (fun _ => ?_)
      refine lv_iload hx hb dX9_manyOf_12 (lv_at hl 0 rfl) ?_
      refine lv_iconst (v := 4) hx hb dX9_manyOf_14 (by decide) ?_
      refine lv_irem hx hb dX9_manyOf_15 (by decide) ?_
      refine gw_topi (y := 2) (by decide) ?_
      refine lv_iconst (v := 3) hx hb dX9_manyOf_16 (by decide) ?_
      refine lv_icmp_ne (tgt := 24) hx hb dX9_manyOf_17 (by decide) (fun _ => ?_) (fun c => absurd c (by decide))
      refine lv_iconst (v := 0) hx hb dX9_manyOf_24 (by decide) ?_
      refine lv_istore (lv' := [(5, .int 0), (4, .int 6), (2, .long 0), (6, .int 0), (0, .ref m0), (1, .int p1)]) hx hb dX9_manyOf_25 hl (by decide) rfl (fun ls hl => ?_)
      refine lv_iload hx hb dX9_manyOf_27 (lv_at hl 1 rfl) ?_
      refine lv_iconst (v := 4) hx hb dX9_manyOf_29 (by decide) ?_
      refine lv_idiv hx hb dX9_manyOf_30 (by decide) ?_
      refine gw_topi (y := 1) (by decide) ?_
      refine lv_iconst (v := 3) hx hb dX9_manyOf_31 (by decide) ?_
      refine lv_icmp_ne (tgt := 39) hx hb dX9_manyOf_32 (by decide) (fun _ => ?_) (fun c => absurd c (by decide))
      refine lv_iconst (v := 0) hx hb dX9_manyOf_39 (by decide) ?_
      refine lv_istore (lv' := [(6, .int 0), (5, .int 0), (4, .int 6), (2, .long 0), (0, .ref m0), (1, .int p1)]) hx hb dX9_manyOf_40 hl (by decide) rfl (fun ls hl => ?_)
      refine lv_lload_n hx hb dX9_manyOf_42 rfl (lv_at hl 3 rfl) ?_
      refine lv_iload_n hx hb dX9_manyOf_43 rfl (lv_at hl 5 rfl) ?_
      refine lv_if_ne (tgt := 55) hx hb dX9_manyOf_44 (by decide) (fun _ => ?_) (fun c => absurd c c_1)
      refine lv_iload_n hx hb dX9_manyOf_55 rfl (lv_at hl 5 rfl) ?_
      refine lv_iconst (v := 1) hx hb dX9_manyOf_56 (by decide) ?_
      refine lv_icmp_ne (tgt := 68) hx hb dX9_manyOf_57 (by decide) (fun c => absurd c_2 c) (fun _ => ?_)
      refine lv_iload hx hb dX9_manyOf_60 (lv_at hl 0 rfl) ?_
      refine lv_if_eq (tgt := 88) hx hb dX9_manyOf_62 (by decide) (fun _ => ?_) (fun c => absurd (by decide) c)
      refine lv_lconst (v := 0) hx hb dX9_manyOf_88 (by decide) ?_
      refine lv_ladd hx hb dX9_manyOf_89 ?_
      refine gw_topl (y := 0) (by decide) ?_
      refine lv_lstore_n (lv' := [(2, .long 0), (6, .int 0), (5, .int 0), (4, .int 6), (0, .ref m0), (1, .int p1)]) hx hb dX9_manyOf_90 rfl hl (by decide) rfl (fun ls hl => ?_)
      refine lv_iinc (v := 7) (lv' := [(4, .int 7), (2, .long 0), (6, .int 0), (5, .int 0), (0, .ref m0), (1, .int p1)]) hx hb dX9_manyOf_91 hl (k := 3) rfl (by decide) (by decide) rfl (fun ls hl => ?_)
      refine lv_goto (tgt := 5) hx hb dX9_manyOf_94 (by decide) ?_
      refine lv_iload hx hb dX9_manyOf_5 (lv_at hl 0 rfl) ?_
      refine lv_bipush (v := 16) hx hb dX9_manyOf_7 (by decide) ?_
      refine lv_icmp_ge (tgt := 97) hx hb dX9_manyOf_9 (by decide) (fun c => absurd c (by decide)) (fun _ => ?_)
      refine lv_iload hx hb dX9_manyOf_12 (lv_at hl 0 rfl) ?_
      refine lv_iconst (v := 4) hx hb dX9_manyOf_14 (by decide) ?_
      refine lv_irem hx hb dX9_manyOf_15 (by decide) ?_
      refine gw_topi (y := 3) (by decide) ?_
      refine lv_iconst (v := 3) hx hb dX9_manyOf_16 (by decide) ?_
      refine lv_icmp_ne (tgt := 24) hx hb dX9_manyOf_17 (by decide) (fun c => absurd (by decide) c) (fun _ => ?_)
      refine lv_iconst (v := 1) hx hb dX9_manyOf_20 (by decide) ?_
      refine lv_goto (tgt := 25) hx hb dX9_manyOf_21 (by decide) ?_
      refine lv_istore (lv' := [(5, .int 1), (4, .int 7), (2, .long 0), (6, .int 0), (0, .ref m0), (1, .int p1)]) hx hb dX9_manyOf_25 hl (by decide) rfl (fun ls hl => ?_)
      refine lv_iload hx hb dX9_manyOf_27 (lv_at hl 1 rfl) ?_
      refine lv_iconst (v := 4) hx hb dX9_manyOf_29 (by decide) ?_
      refine lv_idiv hx hb dX9_manyOf_30 (by decide) ?_
      refine gw_topi (y := 1) (by decide) ?_
      refine lv_iconst (v := 3) hx hb dX9_manyOf_31 (by decide) ?_
      refine lv_icmp_ne (tgt := 39) hx hb dX9_manyOf_32 (by decide) (fun _ => ?_) (fun c => absurd c (by decide))
      refine lv_iconst (v := 0) hx hb dX9_manyOf_39 (by decide) ?_
      refine lv_istore (lv' := [(6, .int 0), (5, .int 1), (4, .int 7), (2, .long 0), (0, .ref m0), (1, .int p1)]) hx hb dX9_manyOf_40 hl (by decide) rfl (fun ls hl => ?_)
      refine lv_lload_n hx hb dX9_manyOf_42 rfl (lv_at hl 3 rfl) ?_
      refine lv_iload_n hx hb dX9_manyOf_43 rfl (lv_at hl 5 rfl) ?_
      refine lv_if_ne (tgt := 55) hx hb dX9_manyOf_44 (by decide) (fun _ => ?_) (fun c => absurd c c_1)
      refine lv_iload_n hx hb dX9_manyOf_55 rfl (lv_at hl 5 rfl) ?_
      refine lv_iconst (v := 1) hx hb dX9_manyOf_56 (by decide) ?_
      refine lv_icmp_ne (tgt := 68) hx hb dX9_manyOf_57 (by decide) (fun c => absurd c_2 c) (fun _ => ?_)
      refine lv_iload hx hb dX9_manyOf_60 (lv_at hl 0 rfl) ?_
      refine lv_if_eq (tgt := 88) hx hb dX9_manyOf_62 (by decide) (fun _ => ?_) (fun c => absurd (by decide) c)
      refine lv_lconst (v := 0) hx hb dX9_manyOf_88 (by decide) ?_
      refine lv_ladd hx hb dX9_manyOf_89 ?_
      refine gw_topl (y := 0) (by decide) ?_
      refine lv_lstore_n (lv' := [(2, .long 0), (6, .int 0), (5, .int 1), (4, .int 7), (0, .ref m0), (1, .int p1)]) hx hb dX9_manyOf_90 rfl hl (by decide) rfl (fun ls hl => ?_)
      refine lv_iinc (v := 8) (lv' := [(4, .int 8), (2, .long 0), (6, .int 0), (5, .int 1), (0, .ref m0), (1, .int p1)]) hx hb dX9_manyOf_91 hl (k := 3) rfl (by decide) (by decide) rfl (fun ls hl => ?_)
      refine lv_goto (tgt := 5) hx hb dX9_manyOf_94 (by decide) ?_
      refine lv_iload hx hb dX9_manyOf_5 (lv_at hl 0 rfl) ?_
      refine lv_bipush (v := 16) hx hb dX9_manyOf_7 (by decide) ?_
      refine lv_icmp_ge (tgt := 97) hx hb dX9_manyOf_9 (by decide) (fun c => absurd c (by decide)) (fun _ => ?_)
      refine lv_iload hx hb dX9_manyOf_12 (lv_at hl 0 rfl) ?_
      refine lv_iconst (v := 4) hx hb dX9_manyOf_14 (by decide) ?_
      refine lv_irem hx hb dX9_manyOf_15 (by decide) ?_
      refine gw_topi (y := 0) (by decide) ?_
      refine lv_iconst (v := 3) hx hb dX9_manyOf_16 (by decide) ?_
      refine lv_icmp_ne (tgt := 24) hx hb dX9_manyOf_17 (by decide) (fun _ => ?_) (fun c => absurd c (by decide))
      refine lv_iconst (v := 0) hx hb dX9_manyOf_24 (by decide) ?_
      refine lv_istore (lv' := [(5, .int 0), (4, .int 8), (2, .long 0), (6, .int 0), (0, .ref m0), (1, .int p1)]) hx hb dX9_manyOf_25 hl (by decide) rfl (fun ls hl => ?_)
      refine lv_iload hx hb dX9_manyOf_27 (lv_at hl 1 rfl) ?_
      refine lv_iconst (v := 4) hx hb dX9_manyOf_29 (by decide) ?_
      refine lv_idiv hx hb dX9_manyOf_30 (by decide) ?_
      refine gw_topi (y := 2) (by decide) ?_
      refine lv_iconst (v := 3) hx hb dX9_manyOf_31 (by decide) ?_
      refine lv_icmp_ne (tgt := 39) hx hb dX9_manyOf_32 (by decide) (fun _ => ?_) (fun c => absurd c (by decide))
      refine lv_iconst (v := 0) hx hb dX9_manyOf_39 (by decide) ?_
      refine lv_istore (lv' := [(6, .int 0), (5, .int 0), (4, .int 8), (2, .long 0), (0, .ref m0), (1, .int p1)]) hx hb dX9_manyOf_40 hl (by decide) rfl (fun ls hl => ?_)
      refine lv_lload_n hx hb dX9_manyOf_42 rfl (lv_at hl 3 rfl) ?_
      refine lv_iload_n hx hb dX9_manyOf_43 rfl (lv_at hl 5 rfl) ?_
      refine lv_if_ne (tgt := 55) hx hb dX9_manyOf_44 (by decide) (fun _ => ?_) (fun c => absurd c c_1)
      refine lv_iload_n hx hb dX9_manyOf_55 rfl (lv_at hl 5 rfl) ?_
      refine lv_iconst (v := 1) hx hb dX9_manyOf_56 (by decide) ?_
      refine lv_icmp_ne (tgt := 68) hx hb dX9_manyOf_57 (by decide) (fun c => absurd c_2 c) (fun _ => ?_)
      refine lv_iload hx hb dX9_manyOf_60 (lv_at hl 0 rfl) ?_
      refine lv_if_eq (tgt := 88) hx hb dX9_manyOf_62 (by decide) (fun _ => ?_) (fun c => absurd (by decide) c)
      refine lv_lconst (v := 0) hx hb dX9_manyOf_88 (by decide) ?_
      refine lv_ladd hx hb dX9_manyOf_89 ?_
      refine gw_topl (y := 0) (by decide) ?_
      refine lv_lstore_n (lv' := [(2, .long 0), (6, .int 0), (5, .int 0), (4, .int 8), (0, .ref m0), (1, .int p1)]) hx hb dX9_manyOf_90 rfl hl (by decide) rfl (fun ls hl => ?_)
      refine lv_iinc (v := 9) (lv' := [(4, .int 9), (2, .long 0), (6, .int 0), (5, .int 0), (0, .ref m0), (1, .int p1)]) hx hb dX9_manyOf_91 hl (k := 3) rfl (by decide) (by decide) rfl (fun ls hl => ?_)
      refine lv_goto (tgt := 5) hx hb dX9_manyOf_94 (by decide) ?_
      refine lv_iload hx hb dX9_manyOf_5 (lv_at hl 0 rfl) ?_
      refine lv_bipush (v := 16) hx hb dX9_manyOf_7 (by decide) ?_
      refine lv_icmp_ge (tgt := 97) hx hb dX9_manyOf_9 (by decide) (fun c => absurd c (by decide)) (fun _ => ?_)
      refine lv_iload hx hb dX9_manyOf_12 (lv_at hl 0 rfl) ?_
      refine lv_iconst (v := 4) hx hb dX9_manyOf_14 (by decide) ?_
      refine lv_irem hx hb dX9_manyOf_15 (by decide) ?_
      refine gw_topi (y := 1) (by decide) ?_
      refine lv_iconst (v := 3) hx hb dX9_manyOf_16 (by decide) ?_
      refine lv_icmp_ne (tgt := 24) hx hb dX9_manyOf_17 (by decide) (fun _ => ?_) (fun c => absurd c (by decide))
      refine lv_iconst (v := 0) hx hb dX9_manyOf_24 (by decide) ?_
      refine lv_istore (lv' := [(5, .int 0), (4, .int 9), (2, .long 0), (6, .int 0), (0, .ref m0), (1, .int p1)]) hx hb dX9_manyOf_25 hl (by decide) rfl (fun ls hl => ?_)
      refine lv_iload hx hb dX9_manyOf_27 (lv_at hl 1 rfl) ?_
      refine lv_iconst (v := 4) hx hb dX9_manyOf_29 (by decide) ?_
      refine lv_idiv hx hb dX9_manyOf_30 (by decide) ?_
      refine gw_topi (y := 2) (by decide) ?_
      refine lv_iconst (v := 3) hx hb dX9_manyOf_31 (by decide) ?_
      refine lv_icmp_ne (tgt := 39) hx hb dX9_manyOf_32 (by decide) (fun _ => ?_) (fun c => absurd c (by decide))
      refine lv_iconst (v := 0) hx hb dX9_manyOf_39 (by decide) ?_
      refine lv_istore (lv' := [(6, .int 0), (5, .int 0), (4, .int 9), (2, .long 0), (0, .ref m0), (1, .int p1)]) hx hb dX9_manyOf_40 hl (by decide) rfl (fun ls hl => ?_)
      refine lv_lload_n hx hb dX9_manyOf_42 rfl (lv_at hl 3 rfl) ?_
      refine lv_iload_n hx hb dX9_manyOf_43 rfl (lv_at hl 5 rfl) ?_
      refine lv_if_ne (tgt := 55) hx hb dX9_manyOf_44 (by decide) (fun _ => ?_) (fun c => absurd c c_1)
      refine lv_iload_n hx hb dX9_manyOf_55 rfl (lv_at hl 5 rfl) ?_
      refine lv_iconst (v := 1) hx hb dX9_manyOf_56 (by decide) ?_
      refine lv_icmp_ne (tgt := 68) hx hb dX9_manyOf_57 (by decide) (fun c => absurd c_2 c) (fun _ => ?_)
      refine lv_iload hx hb dX9_manyOf_60 (lv_at hl 0 rfl) ?_
      refine lv_if_eq (tgt := 88) hx hb dX9_manyOf_62 (by decide) (fun _ => ?_) (fun c => absurd (by decide) c)
      refine lv_lconst (v := 0) hx hb dX9_manyOf_88 (by decide) ?_
      refine lv_ladd hx hb dX9_manyOf_89 ?_
      refine gw_topl (y := 0) (by decide) ?_
      refine lv_lstore_n (lv' := [(2, .long 0), (6, .int 0), (5, .int 0), (4, .int 9), (0, .ref m0), (1, .int p1)]) hx hb dX9_manyOf_90 rfl hl (by decide) rfl (fun ls hl => ?_)
      refine lv_iinc (v := 10) (lv' := [(4, .int 10), (2, .long 0), (6, .int 0), (5, .int 0), (0, .ref m0), (1, .int p1)]) hx hb dX9_manyOf_91 hl (k := 3) rfl (by decide) (by decide) rfl (fun ls hl => ?_)
      refine lv_goto (tgt := 5) hx hb dX9_manyOf_94 (by decide) ?_
      refine lv_iload hx hb dX9_manyOf_5 (lv_at hl 0 rfl) ?_
      refine lv_bipush (v := 16) hx hb dX9_manyOf_7 (by decide) ?_
      refine lv_icmp_ge (tgt := 97) hx hb dX9_manyOf_9 (by decide) (fun c => absurd c (by decide)) (fun _ => ?_)
      refine lv_iload hx hb dX9_manyOf_12 (lv_at hl 0 rfl) ?_
      refine lv_iconst (v := 4) hx hb dX9_manyOf_14 (by decide) ?_
      refine lv_irem hx hb dX9_manyOf_15 (by decide) ?_
      refine gw_topi (y := 2) (by decide) ?_
      refine lv_iconst (v := 3) hx hb dX9_manyOf_16 (by decide) ?_
      refine lv_icmp_ne (tgt := 24) hx hb dX9_manyOf_17 (by decide) (fun _ => ?_) (fun c => absurd c (by decide))
      refine lv_iconst (v := 0) hx hb dX9_manyOf_24 (by decide) ?_
      refine lv_istore (lv' := [(5, .int 0), (4, .int 10), (2, .long 0), (6, .int 0), (0, .ref m0), (1, .int p1)]) hx hb dX9_manyOf_25 hl (by decide) rfl (fun ls hl => ?_)
      refine lv_iload hx hb dX9_manyOf_27 (lv_at hl 1 rfl) ?_
      refine lv_iconst (v := 4) hx hb dX9_manyOf_29 (by decide) ?_
      refine lv_idiv hx hb dX9_manyOf_30 (by decide) ?_
      refine gw_topi (y := 2) (by decide) ?_
      refine lv_iconst (v := 3) hx hb dX9_manyOf_31 (by decide) ?_
      refine lv_icmp_ne (tgt := 39) hx hb dX9_manyOf_32 (by decide) (fun _ => ?_) (fun c => absurd c (by decide))
      refine lv_iconst (v := 0) hx hb dX9_manyOf_39 (by decide) ?_
      refine lv_istore (lv' := [(6, .int 0), (5, .int 0), (4, .int 10), (2, .long 0), (0, .ref m0), (1, .int p1)]) hx hb dX9_manyOf_40 hl (by decide) rfl (fun ls hl => ?_)
      refine lv_lload_n hx hb dX9_manyOf_42 rfl (lv_at hl 3 rfl) ?_
      refine lv_iload_n hx hb dX9_manyOf_43 rfl (lv_at hl 5 rfl) ?_
      refine lv_if_ne (tgt := 55) hx hb dX9_manyOf_44 (by decide) (fun _ => ?_) (fun c => absurd c c_1)
      refine lv_iload_n hx hb dX9_manyOf_55 rfl (lv_at hl 5 rfl) ?_
      refine lv_iconst (v := 1) hx hb dX9_manyOf_56 (by decide) ?_
      refine lv_icmp_ne (tgt := 68) hx hb dX9_manyOf_57 (by decide) (fun c => absurd c_2 c) (fun _ => ?_)
      refine lv_iload hx hb dX9_manyOf_60 (lv_at hl 0 rfl) ?_
      refine lv_if_eq (tgt := 88) hx hb dX9_manyOf_62 (by decide) (fun _ => ?_) (fun c => absurd (by decide) c)
      refine lv_lconst (v := 0) hx hb dX9_manyOf_88 (by decide) ?_
      refine lv_ladd hx hb dX9_manyOf_89 ?_
      refine gw_topl (y := 0) (by decide) ?_
      refine lv_lstore_n (lv' := [(2, .long 0), (6, .int 0), (5, .int 0), (4, .int 10), (0, .ref m0), (1, .int p1)]) hx hb dX9_manyOf_90 rfl hl (by decide) rfl (fun ls hl => ?_)
      refine lv_iinc (v := 11) (lv' := [(4, .int 11), (2, .long 0), (6, .int 0), (5, .int 0), (0, .ref m0), (1, .int p1)]) hx hb dX9_manyOf_91 hl (k := 3) rfl (by decide) (by decide) rfl (fun ls hl => ?_)
      refine lv_goto (tgt := 5) hx hb dX9_manyOf_94 (by decide) ?_
      refine lv_iload hx hb dX9_manyOf_5 (lv_at hl 0 rfl) ?_
      refine lv_bipush (v := 16) hx hb dX9_manyOf_7 (by decide) ?_
      refine lv_icmp_ge (tgt := 97) hx hb dX9_manyOf_9 (by decide) (fun c => absurd c (by decide)) (fun _ => ?_)
      refine lv_iload hx hb dX9_manyOf_12 (lv_at hl 0 rfl) ?_
      refine lv_iconst (v := 4) hx hb dX9_manyOf_14 (by decide) ?_
      refine lv_irem hx hb dX9_manyOf_15 (by decide) ?_
      refine gw_topi (y := 3) (by decide) ?_
      refine lv_iconst (v := 3) hx hb dX9_manyOf_16 (by decide) ?_
      refine lv_icmp_ne (tgt := 24) hx hb dX9_manyOf_17 (by decide) (fun c => absurd (by decide) c) (fun _ => ?_)
      refine lv_iconst (v := 1) hx hb dX9_manyOf_20 (by decide) ?_
      refine lv_goto (tgt := 25) hx hb dX9_manyOf_21 (by decide) ?_
      refine lv_istore (lv' := [(5, .int 1), (4, .int 11), (2, .long 0), (6, .int 0), (0, .ref m0), (1, .int p1)]) hx hb dX9_manyOf_25 hl (by decide) rfl (fun ls hl => ?_)
      refine lv_iload hx hb dX9_manyOf_27 (lv_at hl 1 rfl) ?_
      refine lv_iconst (v := 4) hx hb dX9_manyOf_29 (by decide) ?_
      refine lv_idiv hx hb dX9_manyOf_30 (by decide) ?_
      refine gw_topi (y := 2) (by decide) ?_
      refine lv_iconst (v := 3) hx hb dX9_manyOf_31 (by decide) ?_
      refine lv_icmp_ne (tgt := 39) hx hb dX9_manyOf_32 (by decide) (fun _ => ?_) (fun c => absurd c (by decide))
      refine lv_iconst (v := 0) hx hb dX9_manyOf_39 (by decide) ?_
      refine lv_istore (lv' := [(6, .int 0), (5, .int 1), (4, .int 11), (2, .long 0), (0, .ref m0), (1, .int p1)]) hx hb dX9_manyOf_40 hl (by decide) rfl (fun ls hl => ?_)
      refine lv_lload_n hx hb dX9_manyOf_42 rfl (lv_at hl 3 rfl) ?_
      refine lv_iload_n hx hb dX9_manyOf_43 rfl (lv_at hl 5 rfl) ?_
      refine lv_if_ne (tgt := 55) hx hb dX9_manyOf_44 (by decide) (fun _ => ?_) (fun c => absurd c c_1)
      refine lv_iload_n hx hb dX9_manyOf_55 rfl (lv_at hl 5 rfl) ?_
      refine lv_iconst (v := 1) hx hb dX9_manyOf_56 (by decide) ?_
      refine lv_icmp_ne (tgt := 68) hx hb dX9_manyOf_57 (by decide) (fun c => absurd c_2 c) (fun _ => ?_)
      refine lv_iload hx hb dX9_manyOf_60 (lv_at hl 0 rfl) ?_
      refine lv_if_eq (tgt := 88) hx hb dX9_manyOf_62 (by decide) (fun _ => ?_) (fun c => absurd (by decide) c)
      refine lv_lconst (v := 0) hx hb dX9_manyOf_88 (by decide) ?_
      refine lv_ladd hx hb dX9_manyOf_89 ?_
      refine gw_topl (y := 0) (by decide) ?_
      refine lv_lstore_n (lv' := [(2, .long 0), (6, .int 0), (5, .int 1), (4, .int 11), (0, .ref m0), (1, .int p1)]) hx hb dX9_manyOf_90 rfl hl (by decide) rfl (fun ls hl => ?_)
      refine lv_iinc (v := 12) (lv' := [(4, .int 12), (2, .long 0), (6, .int 0), (5, .int 1), (0, .ref m0), (1, .int p1)]) hx hb dX9_manyOf_91 hl (k := 3) rfl (by decide) (by decide) rfl (fun ls hl => ?_)
      refine lv_goto (tgt := 5) hx hb dX9_manyOf_94 (by decide) ?_
      refine lv_iload hx hb dX9_manyOf_5 (lv_at hl 0 rfl) ?_
      refine lv_bipush (v := 16) hx hb dX9_manyOf_7 (by decide) ?_
      refine lv_icmp_ge (tgt := 97) hx hb dX9_manyOf_9 (by decide) (fun c => absurd c (by decide)) (fun _ => ?_)
      refine lv_iload hx hb dX9_manyOf_12 (lv_at hl 0 rfl) ?_
      refine lv_iconst (v := 4) hx hb dX9_manyOf_14 (by decide) ?_
      refine lv_irem hx hb dX9_manyOf_15 (by decide) ?_
      refine gw_topi (y := 0) (by decide) ?_
      refine lv_iconst (v := 3) hx hb dX9_manyOf_16 (by decide) ?_
      refine lv_icmp_ne (tgt := 24) hx hb dX9_manyOf_17 (by decide) (fun _ => ?_) (fun c => absurd c (by decide))
      refine lv_iconst (v := 0) hx hb dX9_manyOf_24 (by decide) ?_
      refine lv_istore (lv' := [(5, .int 0), (4, .int 12), (2, .long 0), (6, .int 0), (0, .ref m0), (1, .int p1)]) hx hb dX9_manyOf_25 hl (by decide) rfl (fun ls hl => ?_)
      refine lv_iload hx hb dX9_manyOf_27 (lv_at hl 1 rfl) ?_
      refine lv_iconst (v := 4) hx hb dX9_manyOf_29 (by decide) ?_
      refine lv_idiv hx hb dX9_manyOf_30 (by decide) ?_
      refine gw_topi (y := 3) (by decide) ?_
      refine lv_iconst (v := 3) hx hb dX9_manyOf_31 (by decide) ?_
      refine lv_icmp_ne (tgt := 39) hx hb dX9_manyOf_32 (by decide) (fun c => absurd (by decide) c) (fun _ => ?_)
      refine lv_iconst (v := 1) hx hb dX9_manyOf_35 (by decide) ?_
      refine lv_goto (tgt := 40) hx hb dX9_manyOf_36 (by decide) ?_
      refine lv_istore (lv' := [(6, .int 1), (5, .int 0), (4, .int 12), (2, .long 0), (0, .ref m0), (1, .int p1)]) hx hb dX9_manyOf_40 hl (by decide) rfl (fun ls hl => ?_)
      refine lv_lload_n hx hb dX9_manyOf_42 rfl (lv_at hl 3 rfl) ?_
      refine lv_iload_n hx hb dX9_manyOf_43 rfl (lv_at hl 5 rfl) ?_
      refine lv_if_ne (tgt := 55) hx hb dX9_manyOf_44 (by decide) (fun _ => ?_) (fun c => absurd c c_1)
      refine lv_iload_n hx hb dX9_manyOf_55 rfl (lv_at hl 5 rfl) ?_
      refine lv_iconst (v := 1) hx hb dX9_manyOf_56 (by decide) ?_
      refine lv_icmp_ne (tgt := 68) hx hb dX9_manyOf_57 (by decide) (fun c => absurd c_2 c) (fun _ => ?_)
      refine lv_iload hx hb dX9_manyOf_60 (lv_at hl 0 rfl) ?_
      refine lv_if_eq (tgt := 88) hx hb dX9_manyOf_62 (by decide) (fun c => absurd c (by decide)) (fun _ => ?_)
      refine lv_goto (tgt := 78) hx hb dX9_manyOf_65 (by decide) ?_
      refine lv_aload_n hx hb dX9_manyOf_78 rfl (lv_at hl 4 rfl) ?_
      refine va_get (D := G) (ci := 9) (v := .ref (r 41)) (C := RX9) (T := TX9) (N := 53) hx hb hts iX9 hown hK hP 0 rfl rfl 41 (by decide) (hts _ m_243) (fun _ h9 => h9) rfl dX9_manyOf_79 ?_
      refine lv_iload hx hb dX9_manyOf_82 (lv_at hl 2 rfl) ?_
      refine gw_lald (x := 0) hx hb hK hP 1 1 12 rfl rfl rfl (by decide) (by decide) rfl dX9_manyOf_84 ?_
      refine lv_goto (tgt := 89) hx hb dX9_manyOf_85 (by decide) ?_
      refine lv_ladd hx hb dX9_manyOf_89 ?_
      refine gw_topl (y := 0) (by decide) ?_
      refine lv_lstore_n (lv' := [(2, .long 0), (6, .int 1), (5, .int 0), (4, .int 12), (0, .ref m0), (1, .int p1)]) hx hb dX9_manyOf_90 rfl hl (by decide) rfl (fun ls hl => ?_)
      refine lv_iinc (v := 13) (lv' := [(4, .int 13), (2, .long 0), (6, .int 1), (5, .int 0), (0, .ref m0), (1, .int p1)]) hx hb dX9_manyOf_91 hl (k := 3) rfl (by decide) (by decide) rfl (fun ls hl => ?_)
      refine lv_goto (tgt := 5) hx hb dX9_manyOf_94 (by decide) ?_
      refine lv_iload hx hb dX9_manyOf_5 (lv_at hl 0 rfl) ?_
      refine lv_bipush (v := 16) hx hb dX9_manyOf_7 (by decide) ?_
      refine lv_icmp_ge (tgt := 97) hx hb dX9_manyOf_9 (by decide) (fun c => absurd c (by decide)) (fun _ => ?_)
      refine lv_iload hx hb dX9_manyOf_12 (lv_at hl 0 rfl) ?_
      refine lv_iconst (v := 4) hx hb dX9_manyOf_14 (by decide) ?_
      refine lv_irem hx hb dX9_manyOf_15 (by decide) ?_
      refine gw_topi (y := 1) (by decide) ?_
      refine lv_iconst (v := 3) hx hb dX9_manyOf_16 (by decide) ?_
      refine lv_icmp_ne (tgt := 24) hx hb dX9_manyOf_17 (by decide) (fun _ => ?_) (fun c => absurd c (by decide))
      refine lv_iconst (v := 0) hx hb dX9_manyOf_24 (by decide) ?_
      refine lv_istore (lv' := [(5, .int 0), (4, .int 13), (2, .long 0), (6, .int 1), (0, .ref m0), (1, .int p1)]) hx hb dX9_manyOf_25 hl (by decide) rfl (fun ls hl => ?_)
      refine lv_iload hx hb dX9_manyOf_27 (lv_at hl 1 rfl) ?_
      refine lv_iconst (v := 4) hx hb dX9_manyOf_29 (by decide) ?_
      refine lv_idiv hx hb dX9_manyOf_30 (by decide) ?_
      refine gw_topi (y := 3) (by decide) ?_
      refine lv_iconst (v := 3) hx hb dX9_manyOf_31 (by decide) ?_
      refine lv_icmp_ne (tgt := 39) hx hb dX9_manyOf_32 (by decide) (fun c => absurd (by decide) c) (fun _ => ?_)
      refine lv_iconst (v := 1) hx hb dX9_manyOf_35 (by decide) ?_
      refine lv_goto (tgt := 40) hx hb dX9_manyOf_36 (by decide) ?_
      refine lv_istore (lv' := [(6, .int 1), (5, .int 0), (4, .int 13), (2, .long 0), (0, .ref m0), (1, .int p1)]) hx hb dX9_manyOf_40 hl (by decide) rfl (fun ls hl => ?_)
      refine lv_lload_n hx hb dX9_manyOf_42 rfl (lv_at hl 3 rfl) ?_
      refine lv_iload_n hx hb dX9_manyOf_43 rfl (lv_at hl 5 rfl) ?_
      refine lv_if_ne (tgt := 55) hx hb dX9_manyOf_44 (by decide) (fun _ => ?_) (fun c => absurd c c_1)
      refine lv_iload_n hx hb dX9_manyOf_55 rfl (lv_at hl 5 rfl) ?_
      refine lv_iconst (v := 1) hx hb dX9_manyOf_56 (by decide) ?_
      refine lv_icmp_ne (tgt := 68) hx hb dX9_manyOf_57 (by decide) (fun c => absurd c_2 c) (fun _ => ?_)
      refine lv_iload hx hb dX9_manyOf_60 (lv_at hl 0 rfl) ?_
      refine lv_if_eq (tgt := 88) hx hb dX9_manyOf_62 (by decide) (fun c => absurd c (by decide)) (fun _ => ?_)
      refine lv_goto (tgt := 78) hx hb dX9_manyOf_65 (by decide) ?_
      refine lv_aload_n hx hb dX9_manyOf_78 rfl (lv_at hl 4 rfl) ?_
      refine va_get (D := G) (ci := 9) (v := .ref (r 41)) (C := RX9) (T := TX9) (N := 53) hx hb hts iX9 hown hK hP 0 rfl rfl 41 (by decide) (hts _ m_243) (fun _ h9 => h9) rfl dX9_manyOf_79 ?_
      refine lv_iload hx hb dX9_manyOf_82 (lv_at hl 2 rfl) ?_
      refine gw_lald (x := 0) hx hb hK hP 1 1 13 rfl rfl rfl (by decide) (by decide) rfl dX9_manyOf_84 ?_
      refine lv_goto (tgt := 89) hx hb dX9_manyOf_85 (by decide) ?_
      refine lv_ladd hx hb dX9_manyOf_89 ?_
      refine gw_topl (y := 0) (by decide) ?_
      refine lv_lstore_n (lv' := [(2, .long 0), (6, .int 1), (5, .int 0), (4, .int 13), (0, .ref m0), (1, .int p1)]) hx hb dX9_manyOf_90 rfl hl (by decide) rfl (fun ls hl => ?_)
      refine lv_iinc (v := 14) (lv' := [(4, .int 14), (2, .long 0), (6, .int 1), (5, .int 0), (0, .ref m0), (1, .int p1)]) hx hb dX9_manyOf_91 hl (k := 3) rfl (by decide) (by decide) rfl (fun ls hl => ?_)
      refine lv_goto (tgt := 5) hx hb dX9_manyOf_94 (by decide) ?_
      refine lv_iload hx hb dX9_manyOf_5 (lv_at hl 0 rfl) ?_
      refine lv_bipush (v := 16) hx hb dX9_manyOf_7 (by decide) ?_
      refine lv_icmp_ge (tgt := 97) hx hb dX9_manyOf_9 (by decide) (fun c => absurd c (by decide)) (fun _ => ?_)
      refine lv_iload hx hb dX9_manyOf_12 (lv_at hl 0 rfl) ?_
      refine lv_iconst (v := 4) hx hb dX9_manyOf_14 (by decide) ?_
      refine lv_irem hx hb dX9_manyOf_15 (by decide) ?_
      refine gw_topi (y := 2) (by decide) ?_
      refine lv_iconst (v := 3) hx hb dX9_manyOf_16 (by decide) ?_
      refine lv_icmp_ne (tgt := 24) hx hb dX9_manyOf_17 (by decide) (fun _ => ?_) (fun c => absurd c (by decide))
      refine lv_iconst (v := 0) hx hb dX9_manyOf_24 (by decide) ?_
      refine lv_istore (lv' := [(5, .int 0), (4, .int 14), (2, .long 0), (6, .int 1), (0, .ref m0), (1, .int p1)]) hx hb dX9_manyOf_25 hl (by decide) rfl (fun ls hl => ?_)
      refine lv_iload hx hb dX9_manyOf_27 (lv_at hl 1 rfl) ?_
      refine lv_iconst (v := 4) hx hb dX9_manyOf_29 (by decide) ?_
      refine lv_idiv hx hb dX9_manyOf_30 (by decide) ?_
      refine gw_topi (y := 3) (by decide) ?_
      refine lv_iconst (v := 3) hx hb dX9_manyOf_31 (by decide) ?_
      refine lv_icmp_ne (tgt := 39) hx hb dX9_manyOf_32 (by decide) (fun c => absurd (by decide) c) (fun _ => ?_)
      refine lv_iconst (v := 1) hx hb dX9_manyOf_35 (by decide) ?_
      refine lv_goto (tgt := 40) hx hb dX9_manyOf_36 (by decide) ?_
      refine lv_istore (lv' := [(6, .int 1), (5, .int 0), (4, .int 14), (2, .long 0), (0, .ref m0), (1, .int p1)]) hx hb dX9_manyOf_40 hl (by decide) rfl (fun ls hl => ?_)
      refine lv_lload_n hx hb dX9_manyOf_42 rfl (lv_at hl 3 rfl) ?_
      refine lv_iload_n hx hb dX9_manyOf_43 rfl (lv_at hl 5 rfl) ?_
      refine lv_if_ne (tgt := 55) hx hb dX9_manyOf_44 (by decide) (fun _ => ?_) (fun c => absurd c c_1)
      refine lv_iload_n hx hb dX9_manyOf_55 rfl (lv_at hl 5 rfl) ?_
      refine lv_iconst (v := 1) hx hb dX9_manyOf_56 (by decide) ?_
      refine lv_icmp_ne (tgt := 68) hx hb dX9_manyOf_57 (by decide) (fun c => absurd c_2 c) (fun _ => ?_)
      refine lv_iload hx hb dX9_manyOf_60 (lv_at hl 0 rfl) ?_
      refine lv_if_eq (tgt := 88) hx hb dX9_manyOf_62 (by decide) (fun c => absurd c (by decide)) (fun _ => ?_)
      refine lv_goto (tgt := 78) hx hb dX9_manyOf_65 (by decide) ?_
      refine lv_aload_n hx hb dX9_manyOf_78 rfl (lv_at hl 4 rfl) ?_
      refine va_get (D := G) (ci := 9) (v := .ref (r 41)) (C := RX9) (T := TX9) (N := 53) hx hb hts iX9 hown hK hP 0 rfl rfl 41 (by decide) (hts _ m_243) (fun _ h9 => h9) rfl dX9_manyOf_79 ?_
      refine lv_iload hx hb dX9_manyOf_82 (lv_at hl 2 rfl) ?_
      refine gw_lald (x := 0) hx hb hK hP 1 1 14 rfl rfl rfl (by decide) (by decide) rfl dX9_manyOf_84 ?_
      refine lv_goto (tgt := 89) hx hb dX9_manyOf_85 (by decide) ?_
      refine lv_ladd hx hb dX9_manyOf_89 ?_
      refine gw_topl (y := 0) (by decide) ?_
      refine lv_lstore_n (lv' := [(2, .long 0), (6, .int 1), (5, .int 0), (4, .int 14), (0, .ref m0), (1, .int p1)]) hx hb dX9_manyOf_90 rfl hl (by decide) rfl (fun ls hl => ?_)
      refine lv_iinc (v := 15) (lv' := [(4, .int 15), (2, .long 0), (6, .int 1), (5, .int 0), (0, .ref m0), (1, .int p1)]) hx hb dX9_manyOf_91 hl (k := 3) rfl (by decide) (by decide) rfl (fun ls hl => ?_)
      refine lv_goto (tgt := 5) hx hb dX9_manyOf_94 (by decide) ?_
      refine lv_iload hx hb dX9_manyOf_5 (lv_at hl 0 rfl) ?_
      refine lv_bipush (v := 16) hx hb dX9_manyOf_7 (by decide) ?_
      refine lv_icmp_ge (tgt := 97) hx hb dX9_manyOf_9 (by decide) (fun c => absurd c (by decide)) (fun _ => ?_)
      refine lv_iload hx hb dX9_manyOf_12 (lv_at hl 0 rfl) ?_
      refine lv_iconst (v := 4) hx hb dX9_manyOf_14 (by decide) ?_
      refine lv_irem hx hb dX9_manyOf_15 (by decide) ?_
      refine gw_topi (y := 3) (by decide) ?_
      refine lv_iconst (v := 3) hx hb dX9_manyOf_16 (by decide) ?_
      refine lv_icmp_ne (tgt := 24) hx hb dX9_manyOf_17 (by decide) (fun c => absurd (by decide) c) (fun _ => ?_)
      refine lv_iconst (v := 1) hx hb dX9_manyOf_20 (by decide) ?_
      refine lv_goto (tgt := 25) hx hb dX9_manyOf_21 (by decide) ?_
      refine lv_istore (lv' := [(5, .int 1), (4, .int 15), (2, .long 0), (6, .int 1), (0, .ref m0), (1, .int p1)]) hx hb dX9_manyOf_25 hl (by decide) rfl (fun ls hl => ?_)
      refine lv_iload hx hb dX9_manyOf_27 (lv_at hl 1 rfl) ?_
      refine lv_iconst (v := 4) hx hb dX9_manyOf_29 (by decide) ?_
      refine lv_idiv hx hb dX9_manyOf_30 (by decide) ?_
      refine gw_topi (y := 3) (by decide) ?_
      refine lv_iconst (v := 3) hx hb dX9_manyOf_31 (by decide) ?_
      refine lv_icmp_ne (tgt := 39) hx hb dX9_manyOf_32 (by decide) (fun c => absurd (by decide) c) (fun _ => ?_)
      refine lv_iconst (v := 1) hx hb dX9_manyOf_35 (by decide) ?_
      refine lv_goto (tgt := 40) hx hb dX9_manyOf_36 (by decide) ?_
      refine lv_istore (lv' := [(6, .int 1), (5, .int 1), (4, .int 15), (2, .long 0), (0, .ref m0), (1, .int p1)]) hx hb dX9_manyOf_40 hl (by decide) rfl (fun ls hl => ?_)
      refine lv_lload_n hx hb dX9_manyOf_42 rfl (lv_at hl 3 rfl) ?_
      refine lv_iload_n hx hb dX9_manyOf_43 rfl (lv_at hl 5 rfl) ?_
      refine lv_if_ne (tgt := 55) hx hb dX9_manyOf_44 (by decide) (fun _ => ?_) (fun c => absurd c c_1)
      refine lv_iload_n hx hb dX9_manyOf_55 rfl (lv_at hl 5 rfl) ?_
      refine lv_iconst (v := 1) hx hb dX9_manyOf_56 (by decide) ?_
      refine lv_icmp_ne (tgt := 68) hx hb dX9_manyOf_57 (by decide) (fun c => absurd c_2 c) (fun _ => ?_)
      refine lv_iload hx hb dX9_manyOf_60 (lv_at hl 0 rfl) ?_
      refine lv_if_eq (tgt := 88) hx hb dX9_manyOf_62 (by decide) (fun c => absurd c (by decide)) (fun _ => ?_)
      refine lv_goto (tgt := 78) hx hb dX9_manyOf_65 (by decide) ?_
      refine lv_aload_n hx hb dX9_manyOf_78 rfl (lv_at hl 4 rfl) ?_
      refine va_get (D := G) (ci := 9) (v := .ref (r 41)) (C := RX9) (T := TX9) (N := 53) hx hb hts iX9 hown hK hP 0 rfl rfl 41 (by decide) (hts _ m_243) (fun _ h9 => h9) rfl dX9_manyOf_79 ?_
      refine lv_iload hx hb dX9_manyOf_82 (lv_at hl 2 rfl) ?_
      refine gw_lald (x := 0) hx hb hK hP 1 1 15 rfl rfl rfl (by decide) (by decide) rfl dX9_manyOf_84 ?_
      refine lv_goto (tgt := 89) hx hb dX9_manyOf_85 (by decide) ?_
      refine lv_ladd hx hb dX9_manyOf_89 ?_
      refine gw_topl (y := 0) (by decide) ?_
      refine lv_lstore_n (lv' := [(2, .long 0), (6, .int 1), (5, .int 1), (4, .int 15), (0, .ref m0), (1, .int p1)]) hx hb dX9_manyOf_90 rfl hl (by decide) rfl (fun ls hl => ?_)
      refine lv_iinc (v := 16) (lv' := [(4, .int 16), (2, .long 0), (6, .int 1), (5, .int 1), (0, .ref m0), (1, .int p1)]) hx hb dX9_manyOf_91 hl (k := 3) rfl (by decide) (by decide) rfl (fun ls hl => ?_)
      refine lv_goto (tgt := 5) hx hb dX9_manyOf_94 (by decide) ?_
      refine lv_iload hx hb dX9_manyOf_5 (lv_at hl 0 rfl) ?_
      refine lv_bipush (v := 16) hx hb dX9_manyOf_7 (by decide) ?_
      refine lv_icmp_ge (tgt := 97) hx hb dX9_manyOf_9 (by decide) (fun _ => ?_) (fun c => absurd (by decide) c)
      refine lv_lload_n hx hb dX9_manyOf_97 rfl (lv_at hl 1 rfl) ?_
      exact gw_lret () hx hb hr hlocks hP hD hS rfl dX9_manyOf_98
  · refine lv_iload hx hb dX9_manyOf_47 (lv_at hl 1 rfl) ?_
    refine lv_if_eq (tgt := 88) hx hb dX9_manyOf_49 (by decide) (fun _ => ?_) (fun c => absurd (by decide) c)
    refine lv_lconst (v := 0) hx hb dX9_manyOf_88 (by decide) ?_
    refine lv_ladd hx hb dX9_manyOf_89 ?_
    refine gw_topl (y := 0) (by decide) ?_
    refine lv_lstore_n (lv' := [(2, .long 0), (6, .int 0), (5, .int 0), (4, .int 0), (0, .ref m0), (1, .int p1)]) hx hb dX9_manyOf_90 rfl hl (by decide) rfl (fun ls hl => ?_)
    refine lv_iinc (v := 1) (lv' := [(4, .int 1), (2, .long 0), (6, .int 0), (5, .int 0), (0, .ref m0), (1, .int p1)]) hx hb dX9_manyOf_91 hl (k := 3) rfl (by decide) (by decide) rfl (fun ls hl => ?_)
    refine lv_goto (tgt := 5) hx hb dX9_manyOf_94 (by decide) ?_
    refine lv_iload hx hb dX9_manyOf_5 (lv_at hl 0 rfl) ?_
    refine lv_bipush (v := 16) hx hb dX9_manyOf_7 (by decide) ?_
    refine lv_icmp_ge (tgt := 97) hx hb dX9_manyOf_9 (by decide) (fun c => absurd c (by decide)) (fun _ => ?_)
    refine lv_iload hx hb dX9_manyOf_12 (lv_at hl 0 rfl) ?_
    refine lv_iconst (v := 4) hx hb dX9_manyOf_14 (by decide) ?_
    refine lv_irem hx hb dX9_manyOf_15 (by decide) ?_
    refine gw_topi (y := 1) (by decide) ?_
    refine lv_iconst (v := 3) hx hb dX9_manyOf_16 (by decide) ?_
    refine lv_icmp_ne (tgt := 24) hx hb dX9_manyOf_17 (by decide) (fun _ => ?_) (fun c => absurd c (by decide))
    refine lv_iconst (v := 0) hx hb dX9_manyOf_24 (by decide) ?_
    refine lv_istore (lv' := [(5, .int 0), (4, .int 1), (2, .long 0), (6, .int 0), (0, .ref m0), (1, .int p1)]) hx hb dX9_manyOf_25 hl (by decide) rfl (fun ls hl => ?_)
    refine lv_iload hx hb dX9_manyOf_27 (lv_at hl 1 rfl) ?_
    refine lv_iconst (v := 4) hx hb dX9_manyOf_29 (by decide) ?_
    refine lv_idiv hx hb dX9_manyOf_30 (by decide) ?_
    refine gw_topi (y := 0) (by decide) ?_
    refine lv_iconst (v := 3) hx hb dX9_manyOf_31 (by decide) ?_
    refine lv_icmp_ne (tgt := 39) hx hb dX9_manyOf_32 (by decide) (fun _ => ?_) (fun c => absurd c (by decide))
    refine lv_iconst (v := 0) hx hb dX9_manyOf_39 (by decide) ?_
    refine lv_istore (lv' := [(6, .int 0), (5, .int 0), (4, .int 1), (2, .long 0), (0, .ref m0), (1, .int p1)]) hx hb dX9_manyOf_40 hl (by decide) rfl (fun ls hl => ?_)
    refine lv_lload_n hx hb dX9_manyOf_42 rfl (lv_at hl 3 rfl) ?_
    refine lv_iload_n hx hb dX9_manyOf_43 rfl (lv_at hl 5 rfl) ?_
    refine lv_if_ne (tgt := 55) hx hb dX9_manyOf_44 (by decide) (fun c => absurd c_1 c) (fun _ => ?_)
    refine lv_iload hx hb dX9_manyOf_47 (lv_at hl 1 rfl) ?_
    refine lv_if_eq (tgt := 88) hx hb dX9_manyOf_49 (by decide) (fun _ => ?_) (fun c => absurd (by decide) c)
    refine lv_lconst (v := 0) hx hb dX9_manyOf_88 (by decide) ?_
    refine lv_ladd hx hb dX9_manyOf_89 ?_
    refine gw_topl (y := 0) (by decide) ?_
    refine lv_lstore_n (lv' := [(2, .long 0), (6, .int 0), (5, .int 0), (4, .int 1), (0, .ref m0), (1, .int p1)]) hx hb dX9_manyOf_90 rfl hl (by decide) rfl (fun ls hl => ?_)
    refine lv_iinc (v := 2) (lv' := [(4, .int 2), (2, .long 0), (6, .int 0), (5, .int 0), (0, .ref m0), (1, .int p1)]) hx hb dX9_manyOf_91 hl (k := 3) rfl (by decide) (by decide) rfl (fun ls hl => ?_)
    refine lv_goto (tgt := 5) hx hb dX9_manyOf_94 (by decide) ?_
    refine lv_iload hx hb dX9_manyOf_5 (lv_at hl 0 rfl) ?_
    refine lv_bipush (v := 16) hx hb dX9_manyOf_7 (by decide) ?_
    refine lv_icmp_ge (tgt := 97) hx hb dX9_manyOf_9 (by decide) (fun c => absurd c (by decide)) (fun _ => ?_)
    refine lv_iload hx hb dX9_manyOf_12 (lv_at hl 0 rfl) ?_
    refine lv_iconst (v := 4) hx hb dX9_manyOf_14 (by decide) ?_
    refine lv_irem hx hb dX9_manyOf_15 (by decide) ?_
    refine gw_topi (y := 2) (by decide) ?_
    refine lv_iconst (v := 3) hx hb dX9_manyOf_16 (by decide) ?_
    refine lv_icmp_ne (tgt := 24) hx hb dX9_manyOf_17 (by decide) (fun _ => ?_) (fun c => absurd c (by decide))
    refine lv_iconst (v := 0) hx hb dX9_manyOf_24 (by decide) ?_
    refine lv_istore (lv' := [(5, .int 0), (4, .int 2), (2, .long 0), (6, .int 0), (0, .ref m0), (1, .int p1)]) hx hb dX9_manyOf_25 hl (by decide) rfl (fun ls hl => ?_)
    refine lv_iload hx hb dX9_manyOf_27 (lv_at hl 1 rfl) ?_
    refine lv_iconst (v := 4) hx hb dX9_manyOf_29 (by decide) ?_
    refine lv_idiv hx hb dX9_manyOf_30 (by decide) ?_
    refine gw_topi (y := 0) (by decide) ?_
    refine lv_iconst (v := 3) hx hb dX9_manyOf_31 (by decide) ?_
    refine lv_icmp_ne (tgt := 39) hx hb dX9_manyOf_32 (by decide) (fun _ => ?_) (fun c => absurd c (by decide))
    refine lv_iconst (v := 0) hx hb dX9_manyOf_39 (by decide) ?_
    refine lv_istore (lv' := [(6, .int 0), (5, .int 0), (4, .int 2), (2, .long 0), (0, .ref m0), (1, .int p1)]) hx hb dX9_manyOf_40 hl (by decide) rfl (fun ls hl => ?_)
    refine lv_lload_n hx hb dX9_manyOf_42 rfl (lv_at hl 3 rfl) ?_
    refine lv_iload_n hx hb dX9_manyOf_43 rfl (lv_at hl 5 rfl) ?_
    refine lv_if_ne (tgt := 55) hx hb dX9_manyOf_44 (by decide) (fun c => absurd c_1 c) (fun _ => ?_)
    refine lv_iload hx hb dX9_manyOf_47 (lv_at hl 1 rfl) ?_
    refine lv_if_eq (tgt := 88) hx hb dX9_manyOf_49 (by decide) (fun _ => ?_) (fun c => absurd (by decide) c)
    refine lv_lconst (v := 0) hx hb dX9_manyOf_88 (by decide) ?_
    refine lv_ladd hx hb dX9_manyOf_89 ?_
    refine gw_topl (y := 0) (by decide) ?_
    refine lv_lstore_n (lv' := [(2, .long 0), (6, .int 0), (5, .int 0), (4, .int 2), (0, .ref m0), (1, .int p1)]) hx hb dX9_manyOf_90 rfl hl (by decide) rfl (fun ls hl => ?_)
    refine lv_iinc (v := 3) (lv' := [(4, .int 3), (2, .long 0), (6, .int 0), (5, .int 0), (0, .ref m0), (1, .int p1)]) hx hb dX9_manyOf_91 hl (k := 3) rfl (by decide) (by decide) rfl (fun ls hl => ?_)
    refine lv_goto (tgt := 5) hx hb dX9_manyOf_94 (by decide) ?_
    refine lv_iload hx hb dX9_manyOf_5 (lv_at hl 0 rfl) ?_
    refine lv_bipush (v := 16) hx hb dX9_manyOf_7 (by decide) ?_
    refine lv_icmp_ge (tgt := 97) hx hb dX9_manyOf_9 (by decide) (fun c => absurd c (by decide)) (fun _ => ?_)
    refine lv_iload hx hb dX9_manyOf_12 (lv_at hl 0 rfl) ?_
    refine lv_iconst (v := 4) hx hb dX9_manyOf_14 (by decide) ?_
    refine lv_irem hx hb dX9_manyOf_15 (by decide) ?_
    refine gw_topi (y := 3) (by decide) ?_
    refine lv_iconst (v := 3) hx hb dX9_manyOf_16 (by decide) ?_
    refine lv_icmp_ne (tgt := 24) hx hb dX9_manyOf_17 (by decide) (fun c => absurd (by decide) c) (fun _ => ?_)
    refine lv_iconst (v := 1) hx hb dX9_manyOf_20 (by decide) ?_
    refine lv_goto (tgt := 25) hx hb dX9_manyOf_21 (by decide) ?_
    refine lv_istore (lv' := [(5, .int 1), (4, .int 3), (2, .long 0), (6, .int 0), (0, .ref m0), (1, .int p1)]) hx hb dX9_manyOf_25 hl (by decide) rfl (fun ls hl => ?_)
    refine lv_iload hx hb dX9_manyOf_27 (lv_at hl 1 rfl) ?_
    refine lv_iconst (v := 4) hx hb dX9_manyOf_29 (by decide) ?_
    refine lv_idiv hx hb dX9_manyOf_30 (by decide) ?_
    refine gw_topi (y := 0) (by decide) ?_
    refine lv_iconst (v := 3) hx hb dX9_manyOf_31 (by decide) ?_
    refine lv_icmp_ne (tgt := 39) hx hb dX9_manyOf_32 (by decide) (fun _ => ?_) (fun c => absurd c (by decide))
    refine lv_iconst (v := 0) hx hb dX9_manyOf_39 (by decide) ?_
    refine lv_istore (lv' := [(6, .int 0), (5, .int 1), (4, .int 3), (2, .long 0), (0, .ref m0), (1, .int p1)]) hx hb dX9_manyOf_40 hl (by decide) rfl (fun ls hl => ?_)
    refine lv_lload_n hx hb dX9_manyOf_42 rfl (lv_at hl 3 rfl) ?_
    refine lv_iload_n hx hb dX9_manyOf_43 rfl (lv_at hl 5 rfl) ?_
    refine lv_if_ne (tgt := 55) hx hb dX9_manyOf_44 (by decide) (fun c => absurd c_1 c) (fun _ => ?_)
    refine lv_iload hx hb dX9_manyOf_47 (lv_at hl 1 rfl) ?_
    refine lv_if_eq (tgt := 88) hx hb dX9_manyOf_49 (by decide) (fun c => absurd c (by decide)) (fun _ => ?_)
    refine lv_goto (tgt := 78) hx hb dX9_manyOf_52 (by decide) ?_
    refine lv_aload_n hx hb dX9_manyOf_78 rfl (lv_at hl 4 rfl) ?_
    refine va_get (D := G) (ci := 9) (v := .ref (r 41)) (C := RX9) (T := TX9) (N := 53) hx hb hts iX9 hown hK hP 0 rfl rfl 41 (by decide) (hts _ m_243) (fun _ h9 => h9) rfl dX9_manyOf_79 ?_
    refine lv_iload hx hb dX9_manyOf_82 (lv_at hl 2 rfl) ?_
    refine gw_lald (x := 0) hx hb hK hP 1 1 3 rfl rfl rfl (by decide) (by decide) rfl dX9_manyOf_84 ?_
    refine lv_goto (tgt := 89) hx hb dX9_manyOf_85 (by decide) ?_
    refine lv_ladd hx hb dX9_manyOf_89 ?_
    refine gw_topl (y := 0) (by decide) ?_
    refine lv_lstore_n (lv' := [(2, .long 0), (6, .int 0), (5, .int 1), (4, .int 3), (0, .ref m0), (1, .int p1)]) hx hb dX9_manyOf_90 rfl hl (by decide) rfl (fun ls hl => ?_)
    refine lv_iinc (v := 4) (lv' := [(4, .int 4), (2, .long 0), (6, .int 0), (5, .int 1), (0, .ref m0), (1, .int p1)]) hx hb dX9_manyOf_91 hl (k := 3) rfl (by decide) (by decide) rfl (fun ls hl => ?_)
    refine lv_goto (tgt := 5) hx hb dX9_manyOf_94 (by decide) ?_
    refine lv_iload hx hb dX9_manyOf_5 (lv_at hl 0 rfl) ?_
    refine lv_bipush (v := 16) hx hb dX9_manyOf_7 (by decide) ?_
    refine lv_icmp_ge (tgt := 97) hx hb dX9_manyOf_9 (by decide) (fun c => absurd c (by decide)) (fun _ => ?_)
    refine lv_iload hx hb dX9_manyOf_12 (lv_at hl 0 rfl) ?_
    refine lv_iconst (v := 4) hx hb dX9_manyOf_14 (by decide) ?_
    refine lv_irem hx hb dX9_manyOf_15 (by decide) ?_
    refine gw_topi (y := 0) (by decide) ?_
    refine lv_iconst (v := 3) hx hb dX9_manyOf_16 (by decide) ?_
    refine lv_icmp_ne (tgt := 24) hx hb dX9_manyOf_17 (by decide) (fun _ => ?_) (fun c => absurd c (by decide))
    refine lv_iconst (v := 0) hx hb dX9_manyOf_24 (by decide) ?_
    refine lv_istore (lv' := [(5, .int 0), (4, .int 4), (2, .long 0), (6, .int 0), (0, .ref m0), (1, .int p1)]) hx hb dX9_manyOf_25 hl (by decide) rfl (fun ls hl => ?_)
    refine lv_iload hx hb dX9_manyOf_27 (lv_at hl 1 rfl) ?_
    refine lv_iconst (v := 4) hx hb dX9_manyOf_29 (by decide) ?_
    refine lv_idiv hx hb dX9_manyOf_30 (by decide) ?_
    refine gw_topi (y := 1) (by decide) ?_
    refine lv_iconst (v := 3) hx hb dX9_manyOf_31 (by decide) ?_
    refine lv_icmp_ne (tgt := 39) hx hb dX9_manyOf_32 (by decide) (fun _ => ?_) (fun c => absurd c (by decide))
    refine lv_iconst (v := 0) hx hb dX9_manyOf_39 (by decide) ?_
    refine lv_istore (lv' := [(6, .int 0), (5, .int 0), (4, .int 4), (2, .long 0), (0, .ref m0), (1, .int p1)]) hx hb dX9_manyOf_40 hl (by decide) rfl (fun ls hl => ?_)
    refine lv_lload_n hx hb dX9_manyOf_42 rfl (lv_at hl 3 rfl) ?_
    refine lv_iload_n hx hb dX9_manyOf_43 rfl (lv_at hl 5 rfl) ?_
    refine lv_if_ne (tgt := 55) hx hb dX9_manyOf_44 (by decide) (fun c => absurd c_1 c) (fun _ => ?_)
    refine lv_iload hx hb dX9_manyOf_47 (lv_at hl 1 rfl) ?_
    refine lv_if_eq (tgt := 88) hx hb dX9_manyOf_49 (by decide) (fun _ => ?_) (fun c => absurd (by decide) c)
    refine lv_lconst (v := 0) hx hb dX9_manyOf_88 (by decide) ?_
    refine lv_ladd hx hb dX9_manyOf_89 ?_
    refine gw_topl (y := 0) (by decide) ?_
    refine lv_lstore_n (lv' := [(2, .long 0), (6, .int 0), (5, .int 0), (4, .int 4), (0, .ref m0), (1, .int p1)]) hx hb dX9_manyOf_90 rfl hl (by decide) rfl (fun ls hl => ?_)
    refine lv_iinc (v := 5) (lv' := [(4, .int 5), (2, .long 0), (6, .int 0), (5, .int 0), (0, .ref m0), (1, .int p1)]) hx hb dX9_manyOf_91 hl (k := 3) rfl (by decide) (by decide) rfl (fun ls hl => ?_)
    refine lv_goto (tgt := 5) hx hb dX9_manyOf_94 (by decide) ?_
    refine lv_iload hx hb dX9_manyOf_5 (lv_at hl 0 rfl) ?_
    refine lv_bipush (v := 16) hx hb dX9_manyOf_7 (by decide) ?_
    refine lv_icmp_ge (tgt := 97) hx hb dX9_manyOf_9 (by decide) (fun c => absurd c (by decide)) (fun _ => ?_)
    refine lv_iload hx hb dX9_manyOf_12 (lv_at hl 0 rfl) ?_
    refine lv_iconst (v := 4) hx hb dX9_manyOf_14 (by decide) ?_
    refine lv_irem hx hb dX9_manyOf_15 (by decide) ?_
    refine gw_topi (y := 1) (by decide) ?_
    refine lv_iconst (v := 3) hx hb dX9_manyOf_16 (by decide) ?_
    refine lv_icmp_ne (tgt := 24) hx hb dX9_manyOf_17 (by decide) (fun _ => ?_) (fun c => absurd c (by decide))
    refine lv_iconst (v := 0) hx hb dX9_manyOf_24 (by decide) ?_
    refine lv_istore (lv' := [(5, .int 0), (4, .int 5), (2, .long 0), (6, .int 0), (0, .ref m0), (1, .int p1)]) hx hb dX9_manyOf_25 hl (by decide) rfl (fun ls hl => ?_)
    refine lv_iload hx hb dX9_manyOf_27 (lv_at hl 1 rfl) ?_
    refine lv_iconst (v := 4) hx hb dX9_manyOf_29 (by decide) ?_
    refine lv_idiv hx hb dX9_manyOf_30 (by decide) ?_
    refine gw_topi (y := 1) (by decide) ?_
    refine lv_iconst (v := 3) hx hb dX9_manyOf_31 (by decide) ?_
    refine lv_icmp_ne (tgt := 39) hx hb dX9_manyOf_32 (by decide) (fun _ => ?_) (fun c => absurd c (by decide))
    refine lv_iconst (v := 0) hx hb dX9_manyOf_39 (by decide) ?_
    refine lv_istore (lv' := [(6, .int 0), (5, .int 0), (4, .int 5), (2, .long 0), (0, .ref m0), (1, .int p1)]) hx hb dX9_manyOf_40 hl (by decide) rfl (fun ls hl => ?_)
    refine lv_lload_n hx hb dX9_manyOf_42 rfl (lv_at hl 3 rfl) ?_
    refine lv_iload_n hx hb dX9_manyOf_43 rfl (lv_at hl 5 rfl) ?_
    refine lv_if_ne (tgt := 55) hx hb dX9_manyOf_44 (by decide) (fun c => absurd c_1 c) (fun _ => ?_)
    refine lv_iload hx hb dX9_manyOf_47 (lv_at hl 1 rfl) ?_
    refine lv_if_eq (tgt := 88) hx hb dX9_manyOf_49 (by decide) (fun _ => ?_) (fun c => absurd (by decide) c)
    refine lv_lconst (v := 0) hx hb dX9_manyOf_88 (by decide) ?_
    refine lv_ladd hx hb dX9_manyOf_89 ?_
    refine gw_topl (y := 0) (by decide) ?_
    refine lv_lstore_n (lv' := [(2, .long 0), (6, .int 0), (5, .int 0), (4, .int 5), (0, .ref m0), (1, .int p1)]) hx hb dX9_manyOf_90 rfl hl (by decide) rfl (fun ls hl => ?_)
    refine lv_iinc (v := 6) (lv' := [(4, .int 6), (2, .long 0), (6, .int 0), (5, .int 0), (0, .ref m0), (1, .int p1)]) hx hb dX9_manyOf_91 hl (k := 3) rfl (by decide) (by decide) rfl (fun ls hl => ?_)
    refine lv_goto (tgt := 5) hx hb dX9_manyOf_94 (by decide) ?_
    refine lv_iload hx hb dX9_manyOf_5 (lv_at hl 0 rfl) ?_
    refine lv_bipush (v := 16) hx hb dX9_manyOf_7 (by decide) ?_
    refine lv_icmp_ge (tgt := 97) hx hb dX9_manyOf_9 (by decide) (fun c => absurd c (by decide)) (fun _ => ?_)
    refine lv_iload hx hb dX9_manyOf_12 (lv_at hl 0 rfl) ?_
    refine lv_iconst (v := 4) hx hb dX9_manyOf_14 (by decide) ?_
    refine lv_irem hx hb dX9_manyOf_15 (by decide) ?_
    refine gw_topi (y := 2) (by decide) ?_
    refine lv_iconst (v := 3) hx hb dX9_manyOf_16 (by decide) ?_
    refine lv_icmp_ne (tgt := 24) hx hb dX9_manyOf_17 (by decide) (fun _ => ?_) (fun c => absurd c (by decide))
    refine lv_iconst (v := 0) hx hb dX9_manyOf_24 (by decide) ?_
    refine lv_istore (lv' := [(5, .int 0), (4, .int 6), (2, .long 0), (6, .int 0), (0, .ref m0), (1, .int p1)]) hx hb dX9_manyOf_25 hl (by decide) rfl (fun ls hl => ?_)
    refine lv_iload hx hb dX9_manyOf_27 (lv_at hl 1 rfl) ?_
    refine lv_iconst (v := 4) hx hb dX9_manyOf_29 (by decide) ?_
    refine lv_idiv hx hb dX9_manyOf_30 (by decide) ?_
    refine gw_topi (y := 1) (by decide) ?_
    refine lv_iconst (v := 3) hx hb dX9_manyOf_31 (by decide) ?_
    refine lv_icmp_ne (tgt := 39) hx hb dX9_manyOf_32 (by decide) (fun _ => ?_) (fun c => absurd c (by decide))
    refine lv_iconst (v := 0) hx hb dX9_manyOf_39 (by decide) ?_
    refine lv_istore (lv' := [(6, .int 0), (5, .int 0), (4, .int 6), (2, .long 0), (0, .ref m0), (1, .int p1)]) hx hb dX9_manyOf_40 hl (by decide) rfl (fun ls hl => ?_)
    refine lv_lload_n hx hb dX9_manyOf_42 rfl (lv_at hl 3 rfl) ?_
    refine lv_iload_n hx hb dX9_manyOf_43 rfl (lv_at hl 5 rfl) ?_
    refine lv_if_ne (tgt := 55) hx hb dX9_manyOf_44 (by decide) (fun c => absurd c_1 c) (fun _ => ?_)
    refine lv_iload hx hb dX9_manyOf_47 (lv_at hl 1 rfl) ?_
    refine lv_if_eq (tgt := 88) hx hb dX9_manyOf_49 (by decide) (fun _ => ?_) (fun c => absurd (by decide) c)
    refine lv_lconst (v := 0) hx hb dX9_manyOf_88 (by decide) ?_
    refine lv_ladd hx hb dX9_manyOf_89 ?_
    refine gw_topl (y := 0) (by decide) ?_
    refine lv_lstore_n (lv' := [(2, .long 0), (6, .int 0), (5, .int 0), (4, .int 6), (0, .ref m0), (1, .int p1)]) hx hb dX9_manyOf_90 rfl hl (by decide) rfl (fun ls hl => ?_)
    refine lv_iinc (v := 7) (lv' := [(4, .int 7), (2, .long 0), (6, .int 0), (5, .int 0), (0, .ref m0), (1, .int p1)]) hx hb dX9_manyOf_91 hl (k := 3) rfl (by decide) (by decide) rfl (fun ls hl => ?_)
    refine lv_goto (tgt := 5) hx hb dX9_manyOf_94 (by decide) ?_
    refine lv_iload hx hb dX9_manyOf_5 (lv_at hl 0 rfl) ?_
    refine lv_bipush (v := 16) hx hb dX9_manyOf_7 (by decide) ?_
    refine lv_icmp_ge (tgt := 97) hx hb dX9_manyOf_9 (by decide) (fun c => absurd c (by decide)) (fun _ => ?_)
    refine lv_iload hx hb dX9_manyOf_12 (lv_at hl 0 rfl) ?_
    refine lv_iconst (v := 4) hx hb dX9_manyOf_14 (by decide) ?_
    refine lv_irem hx hb dX9_manyOf_15 (by decide) ?_
    refine gw_topi (y := 3) (by decide) ?_
    refine lv_iconst (v := 3) hx hb dX9_manyOf_16 (by decide) ?_
    refine lv_icmp_ne (tgt := 24) hx hb dX9_manyOf_17 (by decide) (fun c => absurd (by decide) c) (fun _ => ?_)
    refine lv_iconst (v := 1) hx hb dX9_manyOf_20 (by decide) ?_
    refine lv_goto (tgt := 25) hx hb dX9_manyOf_21 (by decide) ?_
    refine lv_istore (lv' := [(5, .int 1), (4, .int 7), (2, .long 0), (6, .int 0), (0, .ref m0), (1, .int p1)]) hx hb dX9_manyOf_25 hl (by decide) rfl (fun ls hl => ?_)
    refine lv_iload hx hb dX9_manyOf_27 (lv_at hl 1 rfl) ?_
    refine lv_iconst (v := 4) hx hb dX9_manyOf_29 (by decide) ?_
    refine lv_idiv hx hb dX9_manyOf_30 (by decide) ?_
    refine gw_topi (y := 1) (by decide) ?_
    refine lv_iconst (v := 3) hx hb dX9_manyOf_31 (by decide) ?_
    refine lv_icmp_ne (tgt := 39) hx hb dX9_manyOf_32 (by decide) (fun _ => ?_) (fun c => absurd c (by decide))
    refine lv_iconst (v := 0) hx hb dX9_manyOf_39 (by decide) ?_
    refine lv_istore (lv' := [(6, .int 0), (5, .int 1), (4, .int 7), (2, .long 0), (0, .ref m0), (1, .int p1)]) hx hb dX9_manyOf_40 hl (by decide) rfl (fun ls hl => ?_)
    refine lv_lload_n hx hb dX9_manyOf_42 rfl (lv_at hl 3 rfl) ?_
    refine lv_iload_n hx hb dX9_manyOf_43 rfl (lv_at hl 5 rfl) ?_
    refine lv_if_ne (tgt := 55) hx hb dX9_manyOf_44 (by decide) (fun c => absurd c_1 c) (fun _ => ?_)
    refine lv_iload hx hb dX9_manyOf_47 (lv_at hl 1 rfl) ?_
    refine lv_if_eq (tgt := 88) hx hb dX9_manyOf_49 (by decide) (fun c => absurd c (by decide)) (fun _ => ?_)
    refine lv_goto (tgt := 78) hx hb dX9_manyOf_52 (by decide) ?_
    refine lv_aload_n hx hb dX9_manyOf_78 rfl (lv_at hl 4 rfl) ?_
    refine va_get (D := G) (ci := 9) (v := .ref (r 41)) (C := RX9) (T := TX9) (N := 53) hx hb hts iX9 hown hK hP 0 rfl rfl 41 (by decide) (hts _ m_243) (fun _ h9 => h9) rfl dX9_manyOf_79 ?_
    refine lv_iload hx hb dX9_manyOf_82 (lv_at hl 2 rfl) ?_
    refine gw_lald (x := 0) hx hb hK hP 1 1 7 rfl rfl rfl (by decide) (by decide) rfl dX9_manyOf_84 ?_
    refine lv_goto (tgt := 89) hx hb dX9_manyOf_85 (by decide) ?_
    refine lv_ladd hx hb dX9_manyOf_89 ?_
    refine gw_topl (y := 0) (by decide) ?_
    refine lv_lstore_n (lv' := [(2, .long 0), (6, .int 0), (5, .int 1), (4, .int 7), (0, .ref m0), (1, .int p1)]) hx hb dX9_manyOf_90 rfl hl (by decide) rfl (fun ls hl => ?_)
    refine lv_iinc (v := 8) (lv' := [(4, .int 8), (2, .long 0), (6, .int 0), (5, .int 1), (0, .ref m0), (1, .int p1)]) hx hb dX9_manyOf_91 hl (k := 3) rfl (by decide) (by decide) rfl (fun ls hl => ?_)
    refine lv_goto (tgt := 5) hx hb dX9_manyOf_94 (by decide) ?_
    refine lv_iload hx hb dX9_manyOf_5 (lv_at hl 0 rfl) ?_
    refine lv_bipush (v := 16) hx hb dX9_manyOf_7 (by decide) ?_
    refine lv_icmp_ge (tgt := 97) hx hb dX9_manyOf_9 (by decide) (fun c => absurd c (by decide)) (fun _ => ?_)
    refine lv_iload hx hb dX9_manyOf_12 (lv_at hl 0 rfl) ?_
    refine lv_iconst (v := 4) hx hb dX9_manyOf_14 (by decide) ?_
    refine lv_irem hx hb dX9_manyOf_15 (by decide) ?_
    refine gw_topi (y := 0) (by decide) ?_
    refine lv_iconst (v := 3) hx hb dX9_manyOf_16 (by decide) ?_
    refine lv_icmp_ne (tgt := 24) hx hb dX9_manyOf_17 (by decide) (fun _ => ?_) (fun c => absurd c (by decide))
    refine lv_iconst (v := 0) hx hb dX9_manyOf_24 (by decide) ?_
    refine lv_istore (lv' := [(5, .int 0), (4, .int 8), (2, .long 0), (6, .int 0), (0, .ref m0), (1, .int p1)]) hx hb dX9_manyOf_25 hl (by decide) rfl (fun ls hl => ?_)
    refine lv_iload hx hb dX9_manyOf_27 (lv_at hl 1 rfl) ?_
    refine lv_iconst (v := 4) hx hb dX9_manyOf_29 (by decide) ?_
    refine lv_idiv hx hb dX9_manyOf_30 (by decide) ?_
    refine gw_topi (y := 2) (by decide) ?_
    refine lv_iconst (v := 3) hx hb dX9_manyOf_31 (by decide) ?_
    refine lv_icmp_ne (tgt := 39) hx hb dX9_manyOf_32 (by decide) (fun _ => ?_) (fun c => absurd c (by decide))
    refine lv_iconst (v := 0) hx hb dX9_manyOf_39 (by decide) ?_
    refine lv_istore (lv' := [(6, .int 0), (5, .int 0), (4, .int 8), (2, .long 0), (0, .ref m0), (1, .int p1)]) hx hb dX9_manyOf_40 hl (by decide) rfl (fun ls hl => ?_)
    refine lv_lload_n hx hb dX9_manyOf_42 rfl (lv_at hl 3 rfl) ?_
    refine lv_iload_n hx hb dX9_manyOf_43 rfl (lv_at hl 5 rfl) ?_
    refine lv_if_ne (tgt := 55) hx hb dX9_manyOf_44 (by decide) (fun c => absurd c_1 c) (fun _ => ?_)
    refine lv_iload hx hb dX9_manyOf_47 (lv_at hl 1 rfl) ?_
    refine lv_if_eq (tgt := 88) hx hb dX9_manyOf_49 (by decide) (fun _ => ?_) (fun c => absurd (by decide) c)
    refine lv_lconst (v := 0) hx hb dX9_manyOf_88 (by decide) ?_
    refine lv_ladd hx hb dX9_manyOf_89 ?_
    refine gw_topl (y := 0) (by decide) ?_
    refine lv_lstore_n (lv' := [(2, .long 0), (6, .int 0), (5, .int 0), (4, .int 8), (0, .ref m0), (1, .int p1)]) hx hb dX9_manyOf_90 rfl hl (by decide) rfl (fun ls hl => ?_)
    refine lv_iinc (v := 9) (lv' := [(4, .int 9), (2, .long 0), (6, .int 0), (5, .int 0), (0, .ref m0), (1, .int p1)]) hx hb dX9_manyOf_91 hl (k := 3) rfl (by decide) (by decide) rfl (fun ls hl => ?_)
    refine lv_goto (tgt := 5) hx hb dX9_manyOf_94 (by decide) ?_
    refine lv_iload hx hb dX9_manyOf_5 (lv_at hl 0 rfl) ?_
    refine lv_bipush (v := 16) hx hb dX9_manyOf_7 (by decide) ?_
    refine lv_icmp_ge (tgt := 97) hx hb dX9_manyOf_9 (by decide) (fun c => absurd c (by decide)) (fun _ => ?_)
    refine lv_iload hx hb dX9_manyOf_12 (lv_at hl 0 rfl) ?_
    refine lv_iconst (v := 4) hx hb dX9_manyOf_14 (by decide) ?_
    refine lv_irem hx hb dX9_manyOf_15 (by decide) ?_
    refine gw_topi (y := 1) (by decide) ?_
    refine lv_iconst (v := 3) hx hb dX9_manyOf_16 (by decide) ?_
    refine lv_icmp_ne (tgt := 24) hx hb dX9_manyOf_17 (by decide) (fun _ => ?_) (fun c => absurd c (by decide))
    refine lv_iconst (v := 0) hx hb dX9_manyOf_24 (by decide) ?_
    refine lv_istore (lv' := [(5, .int 0), (4, .int 9), (2, .long 0), (6, .int 0), (0, .ref m0), (1, .int p1)]) hx hb dX9_manyOf_25 hl (by decide) rfl (fun ls hl => ?_)
    refine lv_iload hx hb dX9_manyOf_27 (lv_at hl 1 rfl) ?_
    refine lv_iconst (v := 4) hx hb dX9_manyOf_29 (by decide) ?_
    refine lv_idiv hx hb dX9_manyOf_30 (by decide) ?_
    refine gw_topi (y := 2) (by decide) ?_
    refine lv_iconst (v := 3) hx hb dX9_manyOf_31 (by decide) ?_
    refine lv_icmp_ne (tgt := 39) hx hb dX9_manyOf_32 (by decide) (fun _ => ?_) (fun c => absurd c (by decide))
    refine lv_iconst (v := 0) hx hb dX9_manyOf_39 (by decide) ?_
    refine lv_istore (lv' := [(6, .int 0), (5, .int 0), (4, .int 9), (2, .long 0), (0, .ref m0), (1, .int p1)]) hx hb dX9_manyOf_40 hl (by decide) rfl (fun ls hl => ?_)
    refine lv_lload_n hx hb dX9_manyOf_42 rfl (lv_at hl 3 rfl) ?_
    refine lv_iload_n hx hb dX9_manyOf_43 rfl (lv_at hl 5 rfl) ?_
    refine lv_if_ne (tgt := 55) hx hb dX9_manyOf_44 (by decide) (fun c => absurd c_1 c) (fun _ => ?_)
    refine lv_iload hx hb dX9_manyOf_47 (lv_at hl 1 rfl) ?_
    refine lv_if_eq (tgt := 88) hx hb dX9_manyOf_49 (by decide) (fun _ => ?_) (fun c => absurd (by decide) c)
    refine lv_lconst (v := 0) hx hb dX9_manyOf_88 (by decide) ?_
    refine lv_ladd hx hb dX9_manyOf_89 ?_
    refine gw_topl (y := 0) (by decide) ?_
    refine lv_lstore_n (lv' := [(2, .long 0), (6, .int 0), (5, .int 0), (4, .int 9), (0, .ref m0), (1, .int p1)]) hx hb dX9_manyOf_90 rfl hl (by decide) rfl (fun ls hl => ?_)
    refine lv_iinc (v := 10) (lv' := [(4, .int 10), (2, .long 0), (6, .int 0), (5, .int 0), (0, .ref m0), (1, .int p1)]) hx hb dX9_manyOf_91 hl (k := 3) rfl (by decide) (by decide) rfl (fun ls hl => ?_)
    refine lv_goto (tgt := 5) hx hb dX9_manyOf_94 (by decide) ?_
    refine lv_iload hx hb dX9_manyOf_5 (lv_at hl 0 rfl) ?_
    refine lv_bipush (v := 16) hx hb dX9_manyOf_7 (by decide) ?_
    refine lv_icmp_ge (tgt := 97) hx hb dX9_manyOf_9 (by decide) (fun c => absurd c (by decide)) (fun _ => ?_)
    refine lv_iload hx hb dX9_manyOf_12 (lv_at hl 0 rfl) ?_
    refine lv_iconst (v := 4) hx hb dX9_manyOf_14 (by decide) ?_
    refine lv_irem hx hb dX9_manyOf_15 (by decide) ?_
    refine gw_topi (y := 2) (by decide) ?_
    refine lv_iconst (v := 3) hx hb dX9_manyOf_16 (by decide) ?_
    refine lv_icmp_ne (tgt := 24) hx hb dX9_manyOf_17 (by decide) (fun _ => ?_) (fun c => absurd c (by decide))
    refine lv_iconst (v := 0) hx hb dX9_manyOf_24 (by decide) ?_
    refine lv_istore (lv' := [(5, .int 0), (4, .int 10), (2, .long 0), (6, .int 0), (0, .ref m0), (1, .int p1)]) hx hb dX9_manyOf_25 hl (by decide) rfl (fun ls hl => ?_)
    refine lv_iload hx hb dX9_manyOf_27 (lv_at hl 1 rfl) ?_
    refine lv_iconst (v := 4) hx hb dX9_manyOf_29 (by decide) ?_
    refine lv_idiv hx hb dX9_manyOf_30 (by decide) ?_
    refine gw_topi (y := 2) (by decide) ?_
    refine lv_iconst (v := 3) hx hb dX9_manyOf_31 (by decide) ?_
    refine lv_icmp_ne (tgt := 39) hx hb dX9_manyOf_32 (by decide) (fun _ => ?_) (fun c => absurd c (by decide))
    refine lv_iconst (v := 0) hx hb dX9_manyOf_39 (by decide) ?_
    refine lv_istore (lv' := [(6, .int 0), (5, .int 0), (4, .int 10), (2, .long 0), (0, .ref m0), (1, .int p1)]) hx hb dX9_manyOf_40 hl (by decide) rfl (fun ls hl => ?_)
    refine lv_lload_n hx hb dX9_manyOf_42 rfl (lv_at hl 3 rfl) ?_
    refine lv_iload_n hx hb dX9_manyOf_43 rfl (lv_at hl 5 rfl) ?_
    refine lv_if_ne (tgt := 55) hx hb dX9_manyOf_44 (by decide) (fun c => absurd c_1 c) (fun _ => ?_)
    refine lv_iload hx hb dX9_manyOf_47 (lv_at hl 1 rfl) ?_
    refine lv_if_eq (tgt := 88) hx hb dX9_manyOf_49 (by decide) (fun _ => ?_) (fun c => absurd (by decide) c)
    refine lv_lconst (v := 0) hx hb dX9_manyOf_88 (by decide) ?_
    refine lv_ladd hx hb dX9_manyOf_89 ?_
    refine gw_topl (y := 0) (by decide) ?_
    refine lv_lstore_n (lv' := [(2, .long 0), (6, .int 0), (5, .int 0), (4, .int 10), (0, .ref m0), (1, .int p1)]) hx hb dX9_manyOf_90 rfl hl (by decide) rfl (fun ls hl => ?_)
    refine lv_iinc (v := 11) (lv' := [(4, .int 11), (2, .long 0), (6, .int 0), (5, .int 0), (0, .ref m0), (1, .int p1)]) hx hb dX9_manyOf_91 hl (k := 3) rfl (by decide) (by decide) rfl (fun ls hl => ?_)
    refine lv_goto (tgt := 5) hx hb dX9_manyOf_94 (by decide) ?_
    refine lv_iload hx hb dX9_manyOf_5 (lv_at hl 0 rfl) ?_
    refine lv_bipush (v := 16) hx hb dX9_manyOf_7 (by decide) ?_
    refine lv_icmp_ge (tgt := 97) hx hb dX9_manyOf_9 (by decide) (fun c => absurd c (by decide)) (fun _ => ?_)
    refine lv_iload hx hb dX9_manyOf_12 (lv_at hl 0 rfl) ?_
    refine lv_iconst (v := 4) hx hb dX9_manyOf_14 (by decide) ?_
    refine lv_irem hx hb dX9_manyOf_15 (by decide) ?_
    refine gw_topi (y := 3) (by decide) ?_
    refine lv_iconst (v := 3) hx hb dX9_manyOf_16 (by decide) ?_
    refine lv_icmp_ne (tgt := 24) hx hb dX9_manyOf_17 (by decide) (fun c => absurd (by decide) c) (fun _ => ?_)
    refine lv_iconst (v := 1) hx hb dX9_manyOf_20 (by decide) ?_
    refine lv_goto (tgt := 25) hx hb dX9_manyOf_21 (by decide) ?_
    refine lv_istore (lv' := [(5, .int 1), (4, .int 11), (2, .long 0), (6, .int 0), (0, .ref m0), (1, .int p1)]) hx hb dX9_manyOf_25 hl (by decide) rfl (fun ls hl => ?_)
    refine lv_iload hx hb dX9_manyOf_27 (lv_at hl 1 rfl) ?_
    refine lv_iconst (v := 4) hx hb dX9_manyOf_29 (by decide) ?_
    refine lv_idiv hx hb dX9_manyOf_30 (by decide) ?_
    refine gw_topi (y := 2) (by decide) ?_
    refine lv_iconst (v := 3) hx hb dX9_manyOf_31 (by decide) ?_
    refine lv_icmp_ne (tgt := 39) hx hb dX9_manyOf_32 (by decide) (fun _ => ?_) (fun c => absurd c (by decide))
    refine lv_iconst (v := 0) hx hb dX9_manyOf_39 (by decide) ?_
    refine lv_istore (lv' := [(6, .int 0), (5, .int 1), (4, .int 11), (2, .long 0), (0, .ref m0), (1, .int p1)]) hx hb dX9_manyOf_40 hl (by decide) rfl (fun ls hl => ?_)
    refine lv_lload_n hx hb dX9_manyOf_42 rfl (lv_at hl 3 rfl) ?_
    refine lv_iload_n hx hb dX9_manyOf_43 rfl (lv_at hl 5 rfl) ?_
    refine lv_if_ne (tgt := 55) hx hb dX9_manyOf_44 (by decide) (fun c => absurd c_1 c) (fun _ => ?_)
    refine lv_iload hx hb dX9_manyOf_47 (lv_at hl 1 rfl) ?_
    refine lv_if_eq (tgt := 88) hx hb dX9_manyOf_49 (by decide) (fun c => absurd c (by decide)) (fun _ => ?_)
    refine lv_goto (tgt := 78) hx hb dX9_manyOf_52 (by decide) ?_
    refine lv_aload_n hx hb dX9_manyOf_78 rfl (lv_at hl 4 rfl) ?_
    refine va_get (D := G) (ci := 9) (v := .ref (r 41)) (C := RX9) (T := TX9) (N := 53) hx hb hts iX9 hown hK hP 0 rfl rfl 41 (by decide) (hts _ m_243) (fun _ h9 => h9) rfl dX9_manyOf_79 ?_
    refine lv_iload hx hb dX9_manyOf_82 (lv_at hl 2 rfl) ?_
    refine gw_lald (x := 0) hx hb hK hP 1 1 11 rfl rfl rfl (by decide) (by decide) rfl dX9_manyOf_84 ?_
    refine lv_goto (tgt := 89) hx hb dX9_manyOf_85 (by decide) ?_
    refine lv_ladd hx hb dX9_manyOf_89 ?_
    refine gw_topl (y := 0) (by decide) ?_
    refine lv_lstore_n (lv' := [(2, .long 0), (6, .int 0), (5, .int 1), (4, .int 11), (0, .ref m0), (1, .int p1)]) hx hb dX9_manyOf_90 rfl hl (by decide) rfl (fun ls hl => ?_)
    refine lv_iinc (v := 12) (lv' := [(4, .int 12), (2, .long 0), (6, .int 0), (5, .int 1), (0, .ref m0), (1, .int p1)]) hx hb dX9_manyOf_91 hl (k := 3) rfl (by decide) (by decide) rfl (fun ls hl => ?_)
    refine lv_goto (tgt := 5) hx hb dX9_manyOf_94 (by decide) ?_
    refine lv_iload hx hb dX9_manyOf_5 (lv_at hl 0 rfl) ?_
    refine lv_bipush (v := 16) hx hb dX9_manyOf_7 (by decide) ?_
    refine lv_icmp_ge (tgt := 97) hx hb dX9_manyOf_9 (by decide) (fun c => absurd c (by decide)) (fun _ => ?_)
    refine lv_iload hx hb dX9_manyOf_12 (lv_at hl 0 rfl) ?_
    refine lv_iconst (v := 4) hx hb dX9_manyOf_14 (by decide) ?_
    refine lv_irem hx hb dX9_manyOf_15 (by decide) ?_
    refine gw_topi (y := 0) (by decide) ?_
    refine lv_iconst (v := 3) hx hb dX9_manyOf_16 (by decide) ?_
    refine lv_icmp_ne (tgt := 24) hx hb dX9_manyOf_17 (by decide) (fun _ => ?_) (fun c => absurd c (by decide))
    refine lv_iconst (v := 0) hx hb dX9_manyOf_24 (by decide) ?_
    refine lv_istore (lv' := [(5, .int 0), (4, .int 12), (2, .long 0), (6, .int 0), (0, .ref m0), (1, .int p1)]) hx hb dX9_manyOf_25 hl (by decide) rfl (fun ls hl => ?_)
    refine lv_iload hx hb dX9_manyOf_27 (lv_at hl 1 rfl) ?_
    refine lv_iconst (v := 4) hx hb dX9_manyOf_29 (by decide) ?_
    refine lv_idiv hx hb dX9_manyOf_30 (by decide) ?_
    refine gw_topi (y := 3) (by decide) ?_
    refine lv_iconst (v := 3) hx hb dX9_manyOf_31 (by decide) ?_
    refine lv_icmp_ne (tgt := 39) hx hb dX9_manyOf_32 (by decide) (fun c => absurd (by decide) c) (fun _ => ?_)
    refine lv_iconst (v := 1) hx hb dX9_manyOf_35 (by decide) ?_
    refine lv_goto (tgt := 40) hx hb dX9_manyOf_36 (by decide) ?_
    refine lv_istore (lv' := [(6, .int 1), (5, .int 0), (4, .int 12), (2, .long 0), (0, .ref m0), (1, .int p1)]) hx hb dX9_manyOf_40 hl (by decide) rfl (fun ls hl => ?_)
    refine lv_lload_n hx hb dX9_manyOf_42 rfl (lv_at hl 3 rfl) ?_
    refine lv_iload_n hx hb dX9_manyOf_43 rfl (lv_at hl 5 rfl) ?_
    refine lv_if_ne (tgt := 55) hx hb dX9_manyOf_44 (by decide) (fun c => absurd c_1 c) (fun _ => ?_)
    refine lv_iload hx hb dX9_manyOf_47 (lv_at hl 1 rfl) ?_
    refine lv_if_eq (tgt := 88) hx hb dX9_manyOf_49 (by decide) (fun _ => ?_) (fun c => absurd (by decide) c)
    refine lv_lconst (v := 0) hx hb dX9_manyOf_88 (by decide) ?_
    refine lv_ladd hx hb dX9_manyOf_89 ?_
    refine gw_topl (y := 0) (by decide) ?_
    refine lv_lstore_n (lv' := [(2, .long 0), (6, .int 1), (5, .int 0), (4, .int 12), (0, .ref m0), (1, .int p1)]) hx hb dX9_manyOf_90 rfl hl (by decide) rfl (fun ls hl => ?_)
    refine lv_iinc (v := 13) (lv' := [(4, .int 13), (2, .long 0), (6, .int 1), (5, .int 0), (0, .ref m0), (1, .int p1)]) hx hb dX9_manyOf_91 hl (k := 3) rfl (by decide) (by decide) rfl (fun ls hl => ?_)
    refine lv_goto (tgt := 5) hx hb dX9_manyOf_94 (by decide) ?_
    refine lv_iload hx hb dX9_manyOf_5 (lv_at hl 0 rfl) ?_
    refine lv_bipush (v := 16) hx hb dX9_manyOf_7 (by decide) ?_
    refine lv_icmp_ge (tgt := 97) hx hb dX9_manyOf_9 (by decide) (fun c => absurd c (by decide)) (fun _ => ?_)
    refine lv_iload hx hb dX9_manyOf_12 (lv_at hl 0 rfl) ?_
    refine lv_iconst (v := 4) hx hb dX9_manyOf_14 (by decide) ?_
    refine lv_irem hx hb dX9_manyOf_15 (by decide) ?_
    refine gw_topi (y := 1) (by decide) ?_
    refine lv_iconst (v := 3) hx hb dX9_manyOf_16 (by decide) ?_
    refine lv_icmp_ne (tgt := 24) hx hb dX9_manyOf_17 (by decide) (fun _ => ?_) (fun c => absurd c (by decide))
    refine lv_iconst (v := 0) hx hb dX9_manyOf_24 (by decide) ?_
    refine lv_istore (lv' := [(5, .int 0), (4, .int 13), (2, .long 0), (6, .int 1), (0, .ref m0), (1, .int p1)]) hx hb dX9_manyOf_25 hl (by decide) rfl (fun ls hl => ?_)
    refine lv_iload hx hb dX9_manyOf_27 (lv_at hl 1 rfl) ?_
    refine lv_iconst (v := 4) hx hb dX9_manyOf_29 (by decide) ?_
    refine lv_idiv hx hb dX9_manyOf_30 (by decide) ?_
    refine gw_topi (y := 3) (by decide) ?_
    refine lv_iconst (v := 3) hx hb dX9_manyOf_31 (by decide) ?_
    refine lv_icmp_ne (tgt := 39) hx hb dX9_manyOf_32 (by decide) (fun c => absurd (by decide) c) (fun _ => ?_)
    refine lv_iconst (v := 1) hx hb dX9_manyOf_35 (by decide) ?_
    refine lv_goto (tgt := 40) hx hb dX9_manyOf_36 (by decide) ?_
    refine lv_istore (lv' := [(6, .int 1), (5, .int 0), (4, .int 13), (2, .long 0), (0, .ref m0), (1, .int p1)]) hx hb dX9_manyOf_40 hl (by decide) rfl (fun ls hl => ?_)
    refine lv_lload_n hx hb dX9_manyOf_42 rfl (lv_at hl 3 rfl) ?_
    refine lv_iload_n hx hb dX9_manyOf_43 rfl (lv_at hl 5 rfl) ?_
    refine lv_if_ne (tgt := 55) hx hb dX9_manyOf_44 (by decide) (fun c => absurd c_1 c) (fun _ => ?_)
    refine lv_iload hx hb dX9_manyOf_47 (lv_at hl 1 rfl) ?_
    refine lv_if_eq (tgt := 88) hx hb dX9_manyOf_49 (by decide) (fun _ => ?_) (fun c => absurd (by decide) c)
    refine lv_lconst (v := 0) hx hb dX9_manyOf_88 (by decide) ?_
    refine lv_ladd hx hb dX9_manyOf_89 ?_
    refine gw_topl (y := 0) (by decide) ?_
    refine lv_lstore_n (lv' := [(2, .long 0), (6, .int 1), (5, .int 0), (4, .int 13), (0, .ref m0), (1, .int p1)]) hx hb dX9_manyOf_90 rfl hl (by decide) rfl (fun ls hl => ?_)
    refine lv_iinc (v := 14) (lv' := [(4, .int 14), (2, .long 0), (6, .int 1), (5, .int 0), (0, .ref m0), (1, .int p1)]) hx hb dX9_manyOf_91 hl (k := 3) rfl (by decide) (by decide) rfl (fun ls hl => ?_)
    refine lv_goto (tgt := 5) hx hb dX9_manyOf_94 (by decide) ?_
    refine lv_iload hx hb dX9_manyOf_5 (lv_at hl 0 rfl) ?_
    refine lv_bipush (v := 16) hx hb dX9_manyOf_7 (by decide) ?_
    refine lv_icmp_ge (tgt := 97) hx hb dX9_manyOf_9 (by decide) (fun c => absurd c (by decide)) (fun _ => ?_)
    refine lv_iload hx hb dX9_manyOf_12 (lv_at hl 0 rfl) ?_
    refine lv_iconst (v := 4) hx hb dX9_manyOf_14 (by decide) ?_
    refine lv_irem hx hb dX9_manyOf_15 (by decide) ?_
    refine gw_topi (y := 2) (by decide) ?_
    refine lv_iconst (v := 3) hx hb dX9_manyOf_16 (by decide) ?_
    refine lv_icmp_ne (tgt := 24) hx hb dX9_manyOf_17 (by decide) (fun _ => ?_) (fun c => absurd c (by decide))
    refine lv_iconst (v := 0) hx hb dX9_manyOf_24 (by decide) ?_
    refine lv_istore (lv' := [(5, .int 0), (4, .int 14), (2, .long 0), (6, .int 1), (0, .ref m0), (1, .int p1)]) hx hb dX9_manyOf_25 hl (by decide) rfl (fun ls hl => ?_)
    refine lv_iload hx hb dX9_manyOf_27 (lv_at hl 1 rfl) ?_
    refine lv_iconst (v := 4) hx hb dX9_manyOf_29 (by decide) ?_
    refine lv_idiv hx hb dX9_manyOf_30 (by decide) ?_
    refine gw_topi (y := 3) (by decide) ?_
    refine lv_iconst (v := 3) hx hb dX9_manyOf_31 (by decide) ?_
    refine lv_icmp_ne (tgt := 39) hx hb dX9_manyOf_32 (by decide) (fun c => absurd (by decide) c) (fun _ => ?_)
    refine lv_iconst (v := 1) hx hb dX9_manyOf_35 (by decide) ?_
    refine lv_goto (tgt := 40) hx hb dX9_manyOf_36 (by decide) ?_
    refine lv_istore (lv' := [(6, .int 1), (5, .int 0), (4, .int 14), (2, .long 0), (0, .ref m0), (1, .int p1)]) hx hb dX9_manyOf_40 hl (by decide) rfl (fun ls hl => ?_)
    refine lv_lload_n hx hb dX9_manyOf_42 rfl (lv_at hl 3 rfl) ?_
    refine lv_iload_n hx hb dX9_manyOf_43 rfl (lv_at hl 5 rfl) ?_
    refine lv_if_ne (tgt := 55) hx hb dX9_manyOf_44 (by decide) (fun c => absurd c_1 c) (fun _ => ?_)
    refine lv_iload hx hb dX9_manyOf_47 (lv_at hl 1 rfl) ?_
    refine lv_if_eq (tgt := 88) hx hb dX9_manyOf_49 (by decide) (fun _ => ?_) (fun c => absurd (by decide) c)
    refine lv_lconst (v := 0) hx hb dX9_manyOf_88 (by decide) ?_
    refine lv_ladd hx hb dX9_manyOf_89 ?_
    refine gw_topl (y := 0) (by decide) ?_
    refine lv_lstore_n (lv' := [(2, .long 0), (6, .int 1), (5, .int 0), (4, .int 14), (0, .ref m0), (1, .int p1)]) hx hb dX9_manyOf_90 rfl hl (by decide) rfl (fun ls hl => ?_)
    refine lv_iinc (v := 15) (lv' := [(4, .int 15), (2, .long 0), (6, .int 1), (5, .int 0), (0, .ref m0), (1, .int p1)]) hx hb dX9_manyOf_91 hl (k := 3) rfl (by decide) (by decide) rfl (fun ls hl => ?_)
    refine lv_goto (tgt := 5) hx hb dX9_manyOf_94 (by decide) ?_
    refine lv_iload hx hb dX9_manyOf_5 (lv_at hl 0 rfl) ?_
    refine lv_bipush (v := 16) hx hb dX9_manyOf_7 (by decide) ?_
    refine lv_icmp_ge (tgt := 97) hx hb dX9_manyOf_9 (by decide) (fun c => absurd c (by decide)) (fun _ => ?_)
    refine lv_iload hx hb dX9_manyOf_12 (lv_at hl 0 rfl) ?_
    refine lv_iconst (v := 4) hx hb dX9_manyOf_14 (by decide) ?_
    refine lv_irem hx hb dX9_manyOf_15 (by decide) ?_
    refine gw_topi (y := 3) (by decide) ?_
    refine lv_iconst (v := 3) hx hb dX9_manyOf_16 (by decide) ?_
    refine lv_icmp_ne (tgt := 24) hx hb dX9_manyOf_17 (by decide) (fun c => absurd (by decide) c) (fun _ => ?_)
    refine lv_iconst (v := 1) hx hb dX9_manyOf_20 (by decide) ?_
    refine lv_goto (tgt := 25) hx hb dX9_manyOf_21 (by decide) ?_
    refine lv_istore (lv' := [(5, .int 1), (4, .int 15), (2, .long 0), (6, .int 1), (0, .ref m0), (1, .int p1)]) hx hb dX9_manyOf_25 hl (by decide) rfl (fun ls hl => ?_)
    refine lv_iload hx hb dX9_manyOf_27 (lv_at hl 1 rfl) ?_
    refine lv_iconst (v := 4) hx hb dX9_manyOf_29 (by decide) ?_
    refine lv_idiv hx hb dX9_manyOf_30 (by decide) ?_
    refine gw_topi (y := 3) (by decide) ?_
    refine lv_iconst (v := 3) hx hb dX9_manyOf_31 (by decide) ?_
    refine lv_icmp_ne (tgt := 39) hx hb dX9_manyOf_32 (by decide) (fun c => absurd (by decide) c) (fun _ => ?_)
    refine lv_iconst (v := 1) hx hb dX9_manyOf_35 (by decide) ?_
    refine lv_goto (tgt := 40) hx hb dX9_manyOf_36 (by decide) ?_
    refine lv_istore (lv' := [(6, .int 1), (5, .int 1), (4, .int 15), (2, .long 0), (0, .ref m0), (1, .int p1)]) hx hb dX9_manyOf_40 hl (by decide) rfl (fun ls hl => ?_)
    refine lv_lload_n hx hb dX9_manyOf_42 rfl (lv_at hl 3 rfl) ?_
    refine lv_iload_n hx hb dX9_manyOf_43 rfl (lv_at hl 5 rfl) ?_
    refine lv_if_ne (tgt := 55) hx hb dX9_manyOf_44 (by decide) (fun c => absurd c_1 c) (fun _ => ?_)
    refine lv_iload hx hb dX9_manyOf_47 (lv_at hl 1 rfl) ?_
    refine lv_if_eq (tgt := 88) hx hb dX9_manyOf_49 (by decide) (fun c => absurd c (by decide)) (fun _ => ?_)
    refine lv_goto (tgt := 78) hx hb dX9_manyOf_52 (by decide) ?_
    refine lv_aload_n hx hb dX9_manyOf_78 rfl (lv_at hl 4 rfl) ?_
    refine va_get (D := G) (ci := 9) (v := .ref (r 41)) (C := RX9) (T := TX9) (N := 53) hx hb hts iX9 hown hK hP 0 rfl rfl 41 (by decide) (hts _ m_243) (fun _ h9 => h9) rfl dX9_manyOf_79 ?_
    refine lv_iload hx hb dX9_manyOf_82 (lv_at hl 2 rfl) ?_
    refine gw_lald (x := 0) hx hb hK hP 1 1 15 rfl rfl rfl (by decide) (by decide) rfl dX9_manyOf_84 ?_
    refine lv_goto (tgt := 89) hx hb dX9_manyOf_85 (by decide) ?_
    refine lv_ladd hx hb dX9_manyOf_89 ?_
    refine gw_topl (y := 0) (by decide) ?_
    refine lv_lstore_n (lv' := [(2, .long 0), (6, .int 1), (5, .int 1), (4, .int 15), (0, .ref m0), (1, .int p1)]) hx hb dX9_manyOf_90 rfl hl (by decide) rfl (fun ls hl => ?_)
    refine lv_iinc (v := 16) (lv' := [(4, .int 16), (2, .long 0), (6, .int 1), (5, .int 1), (0, .ref m0), (1, .int p1)]) hx hb dX9_manyOf_91 hl (k := 3) rfl (by decide) (by decide) rfl (fun ls hl => ?_)
    refine lv_goto (tgt := 5) hx hb dX9_manyOf_94 (by decide) ?_
    refine lv_iload hx hb dX9_manyOf_5 (lv_at hl 0 rfl) ?_
    refine lv_bipush (v := 16) hx hb dX9_manyOf_7 (by decide) ?_
    refine lv_icmp_ge (tgt := 97) hx hb dX9_manyOf_9 (by decide) (fun _ => ?_) (fun c => absurd (by decide) c)
    refine lv_lload_n hx hb dX9_manyOf_97 rfl (lv_at hl 1 rfl) ?_
    exact gw_lret () hx hb hr hlocks hP hD hS rfl dX9_manyOf_98
def v_X9_odds (p1 : Int32) (p2 : Int32) (p3 : Int32) : Int64 := (if (v_X9_in p1 0 5) = 0 then (-1) else (if (v_X9_in p2 0 2) = 0 then (-1) else (if p3 = 0 then 0 else 1)))
theorem e_X9_manyOf : yX9_manyOf.cls = RX9 ∧ yX9_manyOf.cls ≠ "java/lang/invoke/MethodHandle" ∧ yX9_manyOf.cls ≠ "java/lang/invoke/VarHandle" ∧ (parseMethodDescriptor yX9_manyOf.desc).map (fun d => d.parameters.length) = some 1 := by decide +kernel
theorem e_X9_startsMany : yX9_startsMany.cls = RX9 ∧ yX9_startsMany.cls ≠ "java/lang/invoke/MethodHandle" ∧ yX9_startsMany.cls ≠ "java/lang/invoke/VarHandle" ∧ (parseMethodDescriptor yX9_startsMany.desc).map (fun d => d.parameters.length) = some 2 := by decide +kernel
set_option maxHeartbeats 4000000 in
set_option maxRecDepth 100000 in
theorem c_X9_odds (l : Launch) (G : va_G) (cI cJ cZ cB cT : ClassId) (m0 : Nat) (r : Nat → Nat) (p1 : Int32) (p2 : Int32) (p3 : Int32)  : gMl l yX9_odds (gws yX9_odds cX9_odds 15 (some .long)) 3 G (gT cI cJ cZ cB cT) [.ref m0, .int p1, .int p2, .int p3] [(m0, .inr (9, [.ref (r 0), .ref (r 1), .ref (r 2), .int 0, .int (-1), .int (-1), .ref (r 6), .ref (r 7), .ref (r 8), .ref (r 9), .ref (r 10), .ref (r 11), .ref (r 12), .ref (r 13), .int 0, .int 0, .int 0, .int 0, .int 0, .int 0, .int 0, .int 0, .int 0, .ref (r 23), .ref (r 24), .int 0, .ref (r 26), .ref (r 27), .int 0, .int 0, .int 0, .ref (r 31), .ref (r 32), .ref (r 33), .ref (r 34), .ref (r 35), .int 0, .ref (r 37), .ref (r 38), .ref (r 39), .ref (r 40), .ref (r 41), .ref (r 42), .ref (r 43), .ref (r 44), .ref (r 45), .ref (r 46), .int 0, .ref (r 48), .ref (r 49), .ref (r 50), .ref (r 51), .long 0])), ((r 0), .inl (cI, 1990, .inl (upd (upd (fun _ => 0) 4 (-1)) 122 9))), ((r 41), .inl (cJ, 16, .inr (.inl (fun _ => 0))))] (fun r (_ : Unit) => r = (v_X9_odds p1 p2 p3)) (fun (_ : Unit) => ([] : va_W)) := by
  intro sz
  refine gM_start (y := yX9_odds) (av := [.ref m0, .int p1, .int p2, .int p3]) (ws := [(m0, .inr (9, [.ref (r 0), .ref (r 1), .ref (r 2), .int 0, .int (-1), .int (-1), .ref (r 6), .ref (r 7), .ref (r 8), .ref (r 9), .ref (r 10), .ref (r 11), .ref (r 12), .ref (r 13), .int 0, .int 0, .int 0, .int 0, .int 0, .int 0, .int 0, .int 0, .int 0, .ref (r 23), .ref (r 24), .int 0, .ref (r 26), .ref (r 27), .int 0, .int 0, .int 0, .ref (r 31), .ref (r 32), .ref (r 33), .ref (r 34), .ref (r 35), .int 0, .ref (r 37), .ref (r 38), .ref (r 39), .ref (r 40), .ref (r 41), .ref (r 42), .ref (r 43), .ref (r 44), .ref (r 45), .ref (r 46), .int 0, .ref (r 48), .ref (r 49), .ref (r 50), .ref (r 51), .long 0])), ((r 0), .inl (cI, 1990, .inl (upd (upd (fun _ => 0) 4 (-1)) 122 9))), ((r 41), .inl (cJ, 16, .inr (.inl (fun _ => 0))))]) (Qf := fun A => va_Ql (fun r (_ : Unit) => r = (v_X9_odds p1 p2 p3)) (gB G (fun (_ : Unit) => ([] : va_W)) A) A) (cc := cX9_odds) (maxL := 15) (ret := (some .long)) (by decide) (Nat.le_of_ble_eq_true rfl) ?_
  intro p e s m args below meth c A ls H hx hb hr hts hown hin hlocks hml hP hK hD hA hS hl
  have hl : lv_has ls 15 [(0, .ref m0), (1, .int p1), (2, .int p2), (3, .int p3)] := hl
  refine lv_iload_n hx hb dX9_odds_0 rfl (lv_at hl 1 rfl) ?_
  refine gw_calli (gw_runS (As := [.int p1]) (rest := []) ⟨hx, hb, hml, hown, hts⟩ (c_X9_isLetterNumber l G cI cJ cZ cB cT p1  H.size) (gG_S m_140 m_141 m_100 m_139) rfl e_X9_isLetterNumber ⟨Nat.le_of_ble_eq_true rfl, Nat.le_of_ble_eq_true rfl⟩ hK hP hD [] rfl (by decide) rfl rfl hl.1 rfl (Nat.le_of_ble_eq_true rfl) dX9_odds_1 ⟨Nat.le_of_ble_eq_true rfl, Nat.le_of_ble_eq_true rfl⟩) hP hD hS hA [] [0, 1, 2] rfl rfl (by decide) (by decide) (fun r_1 u_1 H locs hw_1 hP hD hS => ?_)
  subst hw_1
  have hP : va_P G vwCl [(m0, .inr (9, [.ref (r 0), .ref (r 1), .ref (r 2), .int 0, .int (-1), .int (-1), .ref (r 6), .ref (r 7), .ref (r 8), .ref (r 9), .ref (r 10), .ref (r 11), .ref (r 12), .ref (r 13), .int 0, .int 0, .int 0, .int 0, .int 0, .int 0, .int 0, .int 0, .int 0, .ref (r 23), .ref (r 24), .int 0, .ref (r 26), .ref (r 27), .int 0, .int 0, .int 0, .ref (r 31), .ref (r 32), .ref (r 33), .ref (r 34), .ref (r 35), .int 0, .ref (r 37), .ref (r 38), .ref (r 39), .ref (r 40), .ref (r 41), .ref (r 42), .ref (r 43), .ref (r 44), .ref (r 45), .ref (r 46), .int 0, .ref (r 48), .ref (r 49), .ref (r 50), .ref (r 51), .long 0])), ((r 0), .inl (cI, 1990, .inl (upd (upd (fun _ => 0) 4 (-1)) 122 9))), ((r 41), .inl (cJ, 16, .inr (.inl (fun _ => 0))))] H := hP
  have hD : va_D A [(m0, .inr (9, [.ref (r 0), .ref (r 1), .ref (r 2), .int 0, .int (-1), .int (-1), .ref (r 6), .ref (r 7), .ref (r 8), .ref (r 9), .ref (r 10), .ref (r 11), .ref (r 12), .ref (r 13), .int 0, .int 0, .int 0, .int 0, .int 0, .int 0, .int 0, .int 0, .int 0, .ref (r 23), .ref (r 24), .int 0, .ref (r 26), .ref (r 27), .int 0, .int 0, .int 0, .ref (r 31), .ref (r 32), .ref (r 33), .ref (r 34), .ref (r 35), .int 0, .ref (r 37), .ref (r 38), .ref (r 39), .ref (r 40), .ref (r 41), .ref (r 42), .ref (r 43), .ref (r 44), .ref (r 45), .ref (r 46), .int 0, .ref (r 48), .ref (r 49), .ref (r 50), .ref (r 51), .long 0])), ((r 0), .inl (cI, 1990, .inl (upd (upd (fun _ => 0) 4 (-1)) 122 9))), ((r 41), .inl (cJ, 16, .inr (.inl (fun _ => 0))))] := hD
  refine lv_if_eq (tgt := 16) hx hb dX9_odds_4 (by decide) (fun c_2 => ?_) (fun c_2 => ?_)
  · refine lv_ldc2 (v := (-1)) hx hb hown (hts _ m_244) dX9_odds_16 ?_
    exact gw_lret () hx hb hr hlocks (hP.sub [] rfl) (hD.sub [] (by decide) rfl) hS (by rw [v_X9_odds, if_pos c_2]) dX9_odds_19
  · refine lv_iload_n hx hb dX9_odds_7 rfl (lv_at hl 2 rfl) ?_
    refine lv_iconst (v := 0) hx hb dX9_odds_8 (by decide) ?_
    refine lv_iconst (v := 2) hx hb dX9_odds_9 (by decide) ?_
    refine gw_calli (gw_runS (As := [.int p2, .int 0, .int 2]) (rest := []) ⟨hx, hb, hml, hown, hts⟩ (c_X9_in l G cI cJ cZ cB cT p2 0 2  H.size) (gG_S m_98 m_99 m_100 m_97) rfl e_X9_in ⟨Nat.le_of_ble_eq_true rfl, Nat.le_of_ble_eq_true rfl⟩ hK hP hD [] rfl (by decide) rfl rfl hl.1 rfl (Nat.le_of_ble_eq_true rfl) dX9_odds_10 ⟨Nat.le_of_ble_eq_true rfl, Nat.le_of_ble_eq_true rfl⟩) hP hD hS hA [] [0, 1, 2] rfl rfl (by decide) (by decide) (fun r_3 u_3 H locs hw_3 hP hD hS => ?_)
    subst hw_3
    have hP : va_P G vwCl [(m0, .inr (9, [.ref (r 0), .ref (r 1), .ref (r 2), .int 0, .int (-1), .int (-1), .ref (r 6), .ref (r 7), .ref (r 8), .ref (r 9), .ref (r 10), .ref (r 11), .ref (r 12), .ref (r 13), .int 0, .int 0, .int 0, .int 0, .int 0, .int 0, .int 0, .int 0, .int 0, .ref (r 23), .ref (r 24), .int 0, .ref (r 26), .ref (r 27), .int 0, .int 0, .int 0, .ref (r 31), .ref (r 32), .ref (r 33), .ref (r 34), .ref (r 35), .int 0, .ref (r 37), .ref (r 38), .ref (r 39), .ref (r 40), .ref (r 41), .ref (r 42), .ref (r 43), .ref (r 44), .ref (r 45), .ref (r 46), .int 0, .ref (r 48), .ref (r 49), .ref (r 50), .ref (r 51), .long 0])), ((r 0), .inl (cI, 1990, .inl (upd (upd (fun _ => 0) 4 (-1)) 122 9))), ((r 41), .inl (cJ, 16, .inr (.inl (fun _ => 0))))] H := hP
    have hD : va_D A [(m0, .inr (9, [.ref (r 0), .ref (r 1), .ref (r 2), .int 0, .int (-1), .int (-1), .ref (r 6), .ref (r 7), .ref (r 8), .ref (r 9), .ref (r 10), .ref (r 11), .ref (r 12), .ref (r 13), .int 0, .int 0, .int 0, .int 0, .int 0, .int 0, .int 0, .int 0, .int 0, .ref (r 23), .ref (r 24), .int 0, .ref (r 26), .ref (r 27), .int 0, .int 0, .int 0, .ref (r 31), .ref (r 32), .ref (r 33), .ref (r 34), .ref (r 35), .int 0, .ref (r 37), .ref (r 38), .ref (r 39), .ref (r 40), .ref (r 41), .ref (r 42), .ref (r 43), .ref (r 44), .ref (r 45), .ref (r 46), .int 0, .ref (r 48), .ref (r 49), .ref (r 50), .ref (r 51), .long 0])), ((r 0), .inl (cI, 1990, .inl (upd (upd (fun _ => 0) 4 (-1)) 122 9))), ((r 41), .inl (cJ, 16, .inr (.inl (fun _ => 0))))] := hD
    refine lv_if_ne (tgt := 20) hx hb dX9_odds_13 (by decide) (fun c_4 => ?_) (fun c_4 => ?_)
    · refine lv_aload_n hx hb dX9_odds_20 rfl (lv_at hl 0 rfl) ?_
      refine lv_aload_n hx hb dX9_odds_21 rfl (lv_at hl 0 rfl) ?_
      refine lv_iload_n hx hb dX9_odds_22 rfl (lv_at hl 1 rfl) ?_
      refine lv_sipush (v := 999) hx hb dX9_odds_23 (by decide) ?_
      refine lv_iconst (v := 0) hx hb dX9_odds_26 (by decide) ?_
      refine gw_calli (gw_runV (As := [.int p1, .int 999, .int 0]) (rest := [.ref m0]) ⟨hx, hb, hml, hown, hts⟩ (c_knownBy0 l G cI cJ cZ cB cT m0 r p1 999 0  H.size) (gG_V m_143 m_144 m_145 m_100 m_142) rfl e_X9_knownBy ⟨Nat.le_of_ble_eq_true rfl, Nat.le_of_ble_eq_true rfl⟩ hK hP hD [0, 1] rfl (by decide) rfl 0 rfl rfl rfl hl.1 rfl (Nat.le_of_ble_eq_true rfl) dX9_odds_27 ⟨Nat.le_of_ble_eq_true rfl, Nat.le_of_ble_eq_true rfl⟩) hP hD hS hA [0, 1] [2] rfl rfl (by decide) (by decide) (fun r_5 u_5 H locs hw_5 hP hD hS => ?_)
      subst hw_5
      have hP : va_P G vwCl [((r 41), .inl (cJ, 16, .inr (.inl (fun _ => 0)))), (m0, .inr (9, [.ref (r 0), .ref (r 1), .ref (r 2), .int 0, .int (-1), .int (-1), .ref (r 6), .ref (r 7), .ref (r 8), .ref (r 9), .ref (r 10), .ref (r 11), .ref (r 12), .ref (r 13), .int 0, .int 0, .int 0, .int 0, .int 0, .int 0, .int 0, .int 0, .int 0, .ref (r 23), .ref (r 24), .int 0, .ref (r 26), .ref (r 27), .int 0, .int 0, .int 0, .ref (r 31), .ref (r 32), .ref (r 33), .ref (r 34), .ref (r 35), .int 0, .ref (r 37), .ref (r 38), .ref (r 39), .ref (r 40), .ref (r 41), .ref (r 42), .ref (r 43), .ref (r 44), .ref (r 45), .ref (r 46), .int 0, .ref (r 48), .ref (r 49), .ref (r 50), .ref (r 51), .long 0])), ((r 0), .inl (cI, 1990, .inl (upd (upd (fun _ => 0) 4 (-1)) 122 9)))] H := hP
      have hD : va_D A [((r 41), .inl (cJ, 16, .inr (.inl (fun _ => 0)))), (m0, .inr (9, [.ref (r 0), .ref (r 1), .ref (r 2), .int 0, .int (-1), .int (-1), .ref (r 6), .ref (r 7), .ref (r 8), .ref (r 9), .ref (r 10), .ref (r 11), .ref (r 12), .ref (r 13), .int 0, .int 0, .int 0, .int 0, .int 0, .int 0, .int 0, .int 0, .int 0, .ref (r 23), .ref (r 24), .int 0, .ref (r 26), .ref (r 27), .int 0, .int 0, .int 0, .ref (r 31), .ref (r 32), .ref (r 33), .ref (r 34), .ref (r 35), .int 0, .ref (r 37), .ref (r 38), .ref (r 39), .ref (r 40), .ref (r 41), .ref (r 42), .ref (r 43), .ref (r 44), .ref (r 45), .ref (r 46), .int 0, .ref (r 48), .ref (r 49), .ref (r 50), .ref (r 51), .long 0])), ((r 0), .inl (cI, 1990, .inl (upd (upd (fun _ => 0) 4 (-1)) 122 9)))] := hD
      refine lv_aload_n hx hb dX9_odds_30 rfl (lv_at hl 0 rfl) ?_
      refine lv_iload_n hx hb dX9_odds_31 rfl (lv_at hl 1 rfl) ?_
      refine lv_sipush (v := 999) hx hb dX9_odds_32 (by decide) ?_
      refine lv_iconst (v := 1) hx hb dX9_odds_35 (by decide) ?_
      refine gw_calli (gw_runV (As := [.int p1, .int 999, .int 1]) (rest := [.int 0, .ref m0]) ⟨hx, hb, hml, hown, hts⟩ (c_knownBy0 l G cI cJ cZ cB cT m0 r p1 999 1  H.size) (gG_V m_143 m_144 m_145 m_100 m_142) rfl e_X9_knownBy ⟨Nat.le_of_ble_eq_true rfl, Nat.le_of_ble_eq_true rfl⟩ hK hP hD [1, 2] rfl (by decide) rfl 0 rfl rfl rfl hl.1 rfl (Nat.le_of_ble_eq_true rfl) dX9_odds_36 ⟨Nat.le_of_ble_eq_true rfl, Nat.le_of_ble_eq_true rfl⟩) hP hD hS hA [1, 2] [0] rfl rfl (by decide) (by decide) (fun r_6 u_6 H locs hw_6 hP hD hS => ?_)
      subst hw_6
      have hP : va_P G vwCl [((r 41), .inl (cJ, 16, .inr (.inl (fun _ => 0)))), (m0, .inr (9, [.ref (r 0), .ref (r 1), .ref (r 2), .int 0, .int (-1), .int (-1), .ref (r 6), .ref (r 7), .ref (r 8), .ref (r 9), .ref (r 10), .ref (r 11), .ref (r 12), .ref (r 13), .int 0, .int 0, .int 0, .int 0, .int 0, .int 0, .int 0, .int 0, .int 0, .ref (r 23), .ref (r 24), .int 0, .ref (r 26), .ref (r 27), .int 0, .int 0, .int 0, .ref (r 31), .ref (r 32), .ref (r 33), .ref (r 34), .ref (r 35), .int 0, .ref (r 37), .ref (r 38), .ref (r 39), .ref (r 40), .ref (r 41), .ref (r 42), .ref (r 43), .ref (r 44), .ref (r 45), .ref (r 46), .int 0, .ref (r 48), .ref (r 49), .ref (r 50), .ref (r 51), .long 0])), ((r 0), .inl (cI, 1990, .inl (upd (upd (fun _ => 0) 4 (-1)) 122 9)))] H := hP
      have hD : va_D A [((r 41), .inl (cJ, 16, .inr (.inl (fun _ => 0)))), (m0, .inr (9, [.ref (r 0), .ref (r 1), .ref (r 2), .int 0, .int (-1), .int (-1), .ref (r 6), .ref (r 7), .ref (r 8), .ref (r 9), .ref (r 10), .ref (r 11), .ref (r 12), .ref (r 13), .int 0, .int 0, .int 0, .int 0, .int 0, .int 0, .int 0, .int 0, .int 0, .ref (r 23), .ref (r 24), .int 0, .ref (r 26), .ref (r 27), .int 0, .int 0, .int 0, .ref (r 31), .ref (r 32), .ref (r 33), .ref (r 34), .ref (r 35), .int 0, .ref (r 37), .ref (r 38), .ref (r 39), .ref (r 40), .ref (r 41), .ref (r 42), .ref (r 43), .ref (r 44), .ref (r 45), .ref (r 46), .int 0, .ref (r 48), .ref (r 49), .ref (r 50), .ref (r 51), .long 0])), ((r 0), .inl (cI, 1990, .inl (upd (upd (fun _ => 0) 4 (-1)) 122 9)))] := hD
      refine gw_callv (gw_runV (As := [.int 0, .int 0]) (rest := []) ⟨hx, hb, hml, hown, hts⟩ (c_startsMany0 l G cI cJ cZ cB cT m0 r  H.size) (gG_V m_246 m_247 m_248 m_100 m_245) rfl e_X9_startsMany ⟨Nat.le_of_ble_eq_true rfl, Nat.le_of_ble_eq_true rfl⟩ hK hP hD [1, 0] rfl (by decide) rfl 0 rfl rfl rfl hl.1 rfl (Nat.le_of_ble_eq_true rfl) dX9_odds_39 ⟨Nat.le_of_ble_eq_true rfl, Nat.le_of_ble_eq_true rfl⟩) hP hD hS hA [1, 0] [2] rfl rfl (by decide) (by decide) (fun u_7 H locs hw_7 hP hD hS => ?_)
      have hP : va_P G vwCl [((r 0), .inl (cI, 1990, .inl (upd (upd (fun _ => 0) 4 (-1)) 122 9))), (m0, .inr (9, [.ref (r 0), .ref (r 1), .ref (r 2), .int 0, .int (-1), .int (-1), .ref (r 6), .ref (r 7), .ref (r 8), .ref (r 9), .ref (r 10), .ref (r 11), .ref (r 12), .ref (r 13), .int 0, .int 0, .int 0, .int 0, .int 0, .int 0, .int 0, .int 0, .int 0, .ref (r 23), .ref (r 24), .int 0, .ref (r 26), .ref (r 27), .int 0, .int 0, .int 0, .ref (r 31), .ref (r 32), .ref (r 33), .ref (r 34), .ref (r 35), .int 0, .ref (r 37), .ref (r 38), .ref (r 39), .ref (r 40), .ref (r 41), .ref (r 42), .ref (r 43), .ref (r 44), .ref (r 45), .ref (r 46), .int 0, .ref (r 48), .ref (r 49), .ref (r 50), .ref (r 51), .long 0])), ((r 41), .inl (cJ, 16, .inr (.inl (vp_updL (vp_updL (vp_updL (vp_updL (vp_updL (vp_updL (vp_updL (vp_updL (vp_updL (vp_updL (vp_updL (vp_updL (vp_updL (vp_updL (vp_updL (vp_updL (fun _ => 0) 0 1) 1 0) 2 0) 3 0) 4 0) 5 0) 6 0) 7 0) 8 0) 9 0) 10 0) 11 0) 12 0) 13 0) 14 0) 15 0))))] H := hP
      have hD : va_D A [((r 0), .inl (cI, 1990, .inl (upd (upd (fun _ => 0) 4 (-1)) 122 9))), (m0, .inr (9, [.ref (r 0), .ref (r 1), .ref (r 2), .int 0, .int (-1), .int (-1), .ref (r 6), .ref (r 7), .ref (r 8), .ref (r 9), .ref (r 10), .ref (r 11), .ref (r 12), .ref (r 13), .int 0, .int 0, .int 0, .int 0, .int 0, .int 0, .int 0, .int 0, .int 0, .ref (r 23), .ref (r 24), .int 0, .ref (r 26), .ref (r 27), .int 0, .int 0, .int 0, .ref (r 31), .ref (r 32), .ref (r 33), .ref (r 34), .ref (r 35), .int 0, .ref (r 37), .ref (r 38), .ref (r 39), .ref (r 40), .ref (r 41), .ref (r 42), .ref (r 43), .ref (r 44), .ref (r 45), .ref (r 46), .int 0, .ref (r 48), .ref (r 49), .ref (r 50), .ref (r 51), .long 0])), ((r 41), .inl (cJ, 16, .inr (.inl (vp_updL (vp_updL (vp_updL (vp_updL (vp_updL (vp_updL (vp_updL (vp_updL (vp_updL (vp_updL (vp_updL (vp_updL (vp_updL (vp_updL (vp_updL (vp_updL (fun _ => 0) 0 1) 1 0) 2 0) 3 0) 4 0) 5 0) 6 0) 7 0) 8 0) 9 0) 10 0) 11 0) 12 0) 13 0) 14 0) 15 0))))] := hD
      refine lv_iconst (v := 0) hx hb dX9_odds_42 (by decide) ?_
      refine lv_istore (lv' := [(4, .int 0), (0, .ref m0), (1, .int p1), (2, .int p2), (3, .int p3)]) hx hb dX9_odds_43 hl (by decide) rfl (fun ls hl => ?_)
      refine lv_lconst (v := 1) hx hb dX9_odds_45 (by decide) ?_
      refine lv_lstore (lv' := [(5, .long 1), (4, .int 0), (0, .ref m0), (1, .int p1), (2, .int p2), (3, .int p3)]) hx hb dX9_odds_46 hl (by decide) rfl (fun ls hl => ?_)
      refine lv_iconst (v := 0) hx hb dX9_odds_48 (by decide) ?_
      refine lv_istore (lv' := [(7, .int 0), (5, .long 1), (4, .int 0), (0, .ref m0), (1, .int p1), (2, .int p2), (3, .int p3)]) hx hb dX9_odds_49 hl (by decide) rfl (fun ls hl => ?_)
      refine lv_iload hx hb dX9_odds_51 (lv_at hl 0 rfl) ?_
      refine lv_aload_n hx hb dX9_odds_53 rfl (lv_at hl 3 rfl) ?_
      refine va_get (D := G) (ci := 9) (v := .ref (r 0)) (C := RX9) (T := TX9) (N := 53) hx hb hts iX9 hown hK hP 1 rfl rfl 0 (by decide) (hts _ m_101) (fun _ h9 => h9) rfl dX9_odds_54 ?_
      refine lv_iconst (v := 1) hx hb dX9_odds_57 (by decide) ?_
      refine gw_iald (x := 0) hx hb hK hP 0 0 1 rfl rfl rfl (by decide) (by decide) rfl dX9_odds_58 ?_
      refine lv_icmp_ge (tgt := 155) hx hb dX9_odds_59 (by decide) (fun _ => ?_) (fun c => absurd (by decide) c)
      refine lv_aload_n hx hb dX9_odds_155 rfl (lv_at hl 3 rfl) ?_
      refine lv_iload_n hx hb dX9_odds_156 rfl (lv_at hl 5 rfl) ?_
      refine gw_calll (gw_runV (As := [.int p2]) (rest := []) ⟨hx, hb, hml, hown, hts⟩ (c_manyOf0 l G cI cJ cZ cB cT m0 r p2  H.size) (gG_V m_250 m_251 m_252 m_100 m_249) rfl e_X9_manyOf ⟨Nat.le_of_ble_eq_true rfl, Nat.le_of_ble_eq_true rfl⟩ hK hP hD [1, 2] rfl (by decide) rfl 0 rfl rfl rfl hl.1 rfl (Nat.le_of_ble_eq_true rfl) dX9_odds_157 ⟨Nat.le_of_ble_eq_true rfl, Nat.le_of_ble_eq_true rfl⟩) hP hD hS hA [1, 2] [0] rfl rfl (by decide) (by decide) (fun r_8 u_8 H locs hw_8 hP hD hS => ?_)
      subst hw_8
      have hP : va_P G vwCl [((r 0), .inl (cI, 1990, .inl (upd (upd (fun _ => 0) 4 (-1)) 122 9))), (m0, .inr (9, [.ref (r 0), .ref (r 1), .ref (r 2), .int 0, .int (-1), .int (-1), .ref (r 6), .ref (r 7), .ref (r 8), .ref (r 9), .ref (r 10), .ref (r 11), .ref (r 12), .ref (r 13), .int 0, .int 0, .int 0, .int 0, .int 0, .int 0, .int 0, .int 0, .int 0, .ref (r 23), .ref (r 24), .int 0, .ref (r 26), .ref (r 27), .int 0, .int 0, .int 0, .ref (r 31), .ref (r 32), .ref (r 33), .ref (r 34), .ref (r 35), .int 0, .ref (r 37), .ref (r 38), .ref (r 39), .ref (r 40), .ref (r 41), .ref (r 42), .ref (r 43), .ref (r 44), .ref (r 45), .ref (r 46), .int 0, .ref (r 48), .ref (r 49), .ref (r 50), .ref (r 51), .long 0])), ((r 41), .inl (cJ, 16, .inr (.inl (vp_updL (vp_updL (vp_updL (vp_updL (vp_updL (vp_updL (vp_updL (vp_updL (vp_updL (vp_updL (vp_updL (vp_updL (vp_updL (vp_updL (vp_updL (vp_updL (fun _ => 0) 0 1) 1 0) 2 0) 3 0) 4 0) 5 0) 6 0) 7 0) 8 0) 9 0) 10 0) 11 0) 12 0) 13 0) 14 0) 15 0))))] H := hP
      have hD : va_D A [((r 0), .inl (cI, 1990, .inl (upd (upd (fun _ => 0) 4 (-1)) 122 9))), (m0, .inr (9, [.ref (r 0), .ref (r 1), .ref (r 2), .int 0, .int (-1), .int (-1), .ref (r 6), .ref (r 7), .ref (r 8), .ref (r 9), .ref (r 10), .ref (r 11), .ref (r 12), .ref (r 13), .int 0, .int 0, .int 0, .int 0, .int 0, .int 0, .int 0, .int 0, .int 0, .ref (r 23), .ref (r 24), .int 0, .ref (r 26), .ref (r 27), .int 0, .int 0, .int 0, .ref (r 31), .ref (r 32), .ref (r 33), .ref (r 34), .ref (r 35), .int 0, .ref (r 37), .ref (r 38), .ref (r 39), .ref (r 40), .ref (r 41), .ref (r 42), .ref (r 43), .ref (r 44), .ref (r 45), .ref (r 46), .int 0, .ref (r 48), .ref (r 49), .ref (r 50), .ref (r 51), .long 0])), ((r 41), .inl (cJ, 16, .inr (.inl (vp_updL (vp_updL (vp_updL (vp_updL (vp_updL (vp_updL (vp_updL (vp_updL (vp_updL (vp_updL (vp_updL (vp_updL (vp_updL (vp_updL (vp_updL (vp_updL (fun _ => 0) 0 1) 1 0) 2 0) 3 0) 4 0) 5 0) 6 0) 7 0) 8 0) 9 0) 10 0) 11 0) 12 0) 13 0) 14 0) 15 0))))] := hD
      refine lv_lstore (lv' := [(7, .long 0), (5, .long 1), (4, .int 0), (0, .ref m0), (1, .int p1), (2, .int p2), (3, .int p3)]) hx hb dX9_odds_160 hl (by decide) rfl (fun ls hl => ?_)
      refine lv_lload hx hb dX9_odds_162 (lv_at hl 1 rfl) ?_
      refine lv_lstore (lv' := [(9, .long 1), (7, .long 0), (5, .long 1), (4, .int 0), (0, .ref m0), (1, .int p1), (2, .int p2), (3, .int p3)]) hx hb dX9_odds_164 hl (by decide) rfl (fun ls hl => ?_)
      refine lv_lload hx hb dX9_odds_166 (lv_at hl 1 rfl) ?_
      refine lv_lstore (lv' := [(11, .long 0), (9, .long 1), (7, .long 0), (5, .long 1), (4, .int 0), (0, .ref m0), (1, .int p1), (2, .int p2), (3, .int p3)]) hx hb dX9_odds_168 hl (by decide) rfl (fun ls hl => ?_)
      refine lv_lload hx hb dX9_odds_170 (lv_at hl 0 rfl) ?_
      refine lv_lconst (v := 0) hx hb dX9_odds_172 (by decide) ?_
      refine W.lcmp hx hb dX9_odds_173 ?_
      refine gw_topi (y := 0) (by decide) ?_
      refine lv_if_eq (tgt := 195) hx hb dX9_odds_174 (by decide) (fun _ => ?_) (fun c => absurd (by decide) c)
      refine lv_iload_n hx hb dX9_odds_195 rfl (lv_at hl 8 rfl) ?_
      refine lv_if_eq (tgt := 207) hx hb dX9_odds_196 (by decide) (fun c_9 => ?_) (fun c_9 => ?_)
      · refine lv_lload hx hb dX9_odds_207 (lv_at hl 2 rfl) ?_
        refine lv_lload hx hb dX9_odds_209 (lv_at hl 1 rfl) ?_
        refine lv_ldiv hx hb dX9_odds_211 (by decide) ?_
        refine gw_topl (y := 0) (by decide) ?_
        exact gw_lret () hx hb hr hlocks (hP.sub [] rfl) (hD.sub [] (by decide) rfl) hS (by rw [v_X9_odds, if_neg c_2, if_neg c_4, if_pos c_9]) dX9_odds_212
      · refine lv_lload hx hb dX9_odds_199 (lv_at hl 3 rfl) ?_
        refine lv_lload hx hb dX9_odds_201 (lv_at hl 1 rfl) ?_
        refine lv_ldiv hx hb dX9_odds_203 (by decide) ?_
        refine gw_topl (y := 1) (by decide) ?_
        refine lv_goto (tgt := 212) hx hb dX9_odds_204 (by decide) ?_
        exact gw_lret () hx hb hr hlocks (hP.sub [] rfl) (hD.sub [] (by decide) rfl) hS (by rw [v_X9_odds, if_neg c_2, if_neg c_4, if_neg c_9]) dX9_odds_212
    · refine lv_ldc2 (v := (-1)) hx hb hown (hts _ m_244) dX9_odds_16 ?_
      exact gw_lret () hx hb hr hlocks (hP.sub [] rfl) (hD.sub [] (by decide) rfl) hS (by rw [v_X9_odds, if_neg c_2, if_pos c_4]) dX9_odds_19
