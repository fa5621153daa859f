def v_hasGoose (gc : Int32) (p1 : Int32) : Int32 := (if p1 < 0 then 0 else (if gc ≤ p1 then 0 else (if 10 ≤ p1 then 0 else 1)))
theorem vz_hasGoose (gc : Int32) (p1 : Int32) : v_hasGoose gc p1 = 0 ∨ v_hasGoose gc p1 = 1 := by
  unfold v_hasGoose
  (repeat' split) <;> first | exact Or.inl rfl | exact Or.inr rfl
set_option maxHeartbeats 4000000 in
set_option maxRecDepth 100000 in
/-- is it one of them -/
theorem c_hasGoose (l : Launch) (G : va_G) (cI cJ cZ cB cT : ClassId) (h : Nat) (g : Nat) (mk : Nat) (stp : Nat) (gc : Int32) (mc : Int32) (gr : Int32) (mo : Int32) (dy : Int32) (xx : Int32) (tc : Int32) (ru : Int32) (fi : Int32) (sc : Int32) (fg : Nat → Int32) (fm : Nat → Int32) (fs : Nat → Int32) (p1 : Int32)  : gMi l yX4_hasGoose (gws yX4_hasGoose cX4_hasGoose 2 (some .boolean)) 1 G (gT cI cJ cZ cB cT) [.ref h, .int p1] [(h, .inr (4, [.ref g, .ref mk, .ref stp, .int gc, .int mc, .int gr, .int mo, .int dy, .int xx, .int tc, .int ru, .int fi, .int sc])), (g, .inl (cI, 90, .inl fg)), (mk, .inl (cI, 12, .inl fm)), (stp, .inl (cI, 1880, .inl fs))] (fun r (_ : Unit) => r = (v_hasGoose gc p1)) (fun (_ : Unit) => ([(h, .inr (4, [.ref g, .ref mk, .ref stp, .int gc, .int mc, .int gr, .int mo, .int dy, .int xx, .int tc, .int ru, .int fi, .int sc])), (g, .inl (cI, 90, .inl fg)), (mk, .inl (cI, 12, .inl fm)), (stp, .inl (cI, 1880, .inl fs))] : va_W)) := by
  intro sz
  refine gM_start (y := yX4_hasGoose) (av := [.ref h, .int p1]) (ws := [(h, .inr (4, [.ref g, .ref mk, .ref stp, .int gc, .int mc, .int gr, .int mo, .int dy, .int xx, .int tc, .int ru, .int fi, .int sc])), (g, .inl (cI, 90, .inl fg)), (mk, .inl (cI, 12, .inl fm)), (stp, .inl (cI, 1880, .inl fs))]) (Qf := fun A => va_Qi (fun r (_ : Unit) => r = (v_hasGoose gc p1)) (gB G (fun (_ : Unit) => ([(h, .inr (4, [.ref g, .ref mk, .ref stp, .int gc, .int mc, .int gr, .int mo, .int dy, .int xx, .int tc, .int ru, .int fi, .int sc])), (g, .inl (cI, 90, .inl fg)), (mk, .inl (cI, 12, .inl fm)), (stp, .inl (cI, 1880, .inl fs))] : va_W)) A) A) (cc := cX4_hasGoose) (maxL := 2) (ret := (some .boolean)) (by decide) (Nat.le_of_ble_eq_true rfl) ?_
  intro p e s m args below meth c A ls H hx hb hr hts hown hin hlocks hml hP hK hD hA hS hl
  have hl : lv_has ls 2 [(0, .ref h), (1, .int p1)] := hl
  refine lv_iload_n hx hb dX4_hasGoose_0 rfl (lv_at hl 1 rfl) ?_
  refine lv_if_lt (tgt := 22) hx hb dX4_hasGoose_1 (by decide) (fun c_1 => ?_) (fun c_1 => ?_)
  · refine lv_iconst (v := 0) hx hb dX4_hasGoose_22 (by decide) ?_
    exact gw_zret () hx hb hr hlocks rfl hP hD hS (by rw [v_hasGoose, if_pos c_1]) dX4_hasGoose_23
  · refine lv_iload_n hx hb dX4_hasGoose_4 rfl (lv_at hl 1 rfl) ?_
    refine lv_aload_n hx hb dX4_hasGoose_5 rfl (lv_at hl 0 rfl) ?_
    refine va_get (D := G) (ci := 4) (v := .int gc) (C := RX4) (T := TX4) (N := 13) hx hb hts iX4 hown hK hP 0 rfl rfl 3 (by decide) (hts _ m_0) (fun _ h9 => h9) rfl dX4_hasGoose_6 ?_
    refine lv_icmp_ge (tgt := 22) hx hb dX4_hasGoose_9 (by decide) (fun c_2 => ?_) (fun c_2 => ?_)
    · refine lv_iconst (v := 0) hx hb dX4_hasGoose_22 (by decide) ?_
      exact gw_zret () hx hb hr hlocks rfl hP hD hS (by rw [v_hasGoose, if_neg c_1, if_pos c_2]) dX4_hasGoose_23
    · refine lv_iload_n hx hb dX4_hasGoose_12 rfl (lv_at hl 1 rfl) ?_
      refine lv_bipush (v := 10) hx hb dX4_hasGoose_13 (by decide) ?_
      refine lv_icmp_ge (tgt := 22) hx hb dX4_hasGoose_15 (by decide) (fun c_3 => ?_) (fun c_3 => ?_)
      · refine lv_iconst (v := 0) hx hb dX4_hasGoose_22 (by decide) ?_
        exact gw_zret () hx hb hr hlocks rfl hP hD hS (by rw [v_hasGoose, if_neg c_1, if_neg c_2, if_pos c_3]) dX4_hasGoose_23
      · refine lv_iconst (v := 1) hx hb dX4_hasGoose_18 (by decide) ?_
        refine lv_goto (tgt := 23) hx hb dX4_hasGoose_19 (by decide) ?_
        exact gw_zret () hx hb hr hlocks rfl hP hD hS (by rw [v_hasGoose, if_neg c_1, if_neg c_2, if_neg c_3]) dX4_hasGoose_23
theorem hasGoose_yes {gc p1 : Int32} (h : ¬ v_hasGoose gc p1 = 0) : 0 ≤ p1.toInt ∧ p1.toInt < 10 := by
  unfold v_hasGoose at h
  split at h
  · exact absurd rfl h
  · rename_i c1
    split at h
    · exact absurd rfl h
    · split at h
      · exact absurd rfl h
      · rename_i c3
        have := gi_of_nlt c1
        have := gi_of_nle c3
        have : (0 : Int32).toInt = 0 := by decide
        have : (10 : Int32).toInt = 10 := by decide
        omega
theorem e_X4_hasGoose : yX4_hasGoose.cls = RX4 ∧ yX4_hasGoose.cls ≠ "java/lang/invoke/MethodHandle" ∧ yX4_hasGoose.cls ≠ "java/lang/invoke/VarHandle" ∧ (parseMethodDescriptor yX4_hasGoose.desc).map (fun d => d.parameters.length) = some 1 := by decide +kernel
set_option maxHeartbeats 4000000 in
set_option maxRecDepth 100000 in
/-- only the geese's row changes -/
theorem c_setGoose (l : Launch) (G : va_G) (cI cJ cZ cB cT : ClassId) (h : Nat) (g : Nat) (mk : Nat) (stp : Nat) (gc : Int32) (mc : Int32) (gr : Int32) (mo : Int32) (dy : Int32) (xx : Int32) (tc : Int32) (ru : Int32) (fi : Int32) (sc : Int32) (fg : Nat → Int32) (fm : Nat → Int32) (fs : Nat → Int32) (p1 : Int32) (p2 : Int32) (p3 : Int32)  : gMv l yX4_setGoose (gws yX4_setGoose cX4_setGoose 4 none) 2 G (gT cI cJ cZ cB cT) [.ref h, .int p1, .int p2, .int p3] [(h, .inr (4, [.ref g, .ref mk, .ref stp, .int gc, .int mc, .int gr, .int mo, .int dy, .int xx, .int tc, .int ru, .int fi, .int sc])), (g, .inl (cI, 90, .inl fg)), (mk, .inl (cI, 12, .inl fm)), (stp, .inl (cI, 1880, .inl fs))] (fun (_ : Nat → Int32) => True) (fun (u : Nat → Int32) => ([(h, .inr (4, [.ref g, .ref mk, .ref stp, .int gc, .int mc, .int gr, .int mo, .int dy, .int xx, .int tc, .int ru, .int fi, .int sc])), (g, .inl (cI, 90, .inl u)), (mk, .inl (cI, 12, .inl fm)), (stp, .inl (cI, 1880, .inl fs))] : va_W)) := by
  intro sz
  refine gM_start (y := yX4_setGoose) (av := [.ref h, .int p1, .int p2, .int p3]) (ws := [(h, .inr (4, [.ref g, .ref mk, .ref stp, .int gc, .int mc, .int gr, .int mo, .int dy, .int xx, .int tc, .int ru, .int fi, .int sc])), (g, .inl (cI, 90, .inl fg)), (mk, .inl (cI, 12, .inl fm)), (stp, .inl (cI, 1880, .inl fs))]) (Qf := fun A => va_Qv (fun (_ : Nat → Int32) => True) (gB G (fun (u : Nat → Int32) => ([(h, .inr (4, [.ref g, .ref mk, .ref stp, .int gc, .int mc, .int gr, .int mo, .int dy, .int xx, .int tc, .int ru, .int fi, .int sc])), (g, .inl (cI, 90, .inl u)), (mk, .inl (cI, 12, .inl fm)), (stp, .inl (cI, 1880, .inl fs))] : va_W)) A) A) (cc := cX4_setGoose) (maxL := 4) (ret := none) (by decide) (Nat.le_of_ble_eq_true rfl) ?_
  intro p e s m args below meth c A ls H hx hb hr hts hown hin hlocks hml hP hK hD hA hS hl
  have hl : lv_has ls 4 [(0, .ref h), (1, .int p1), (2, .int p2), (3, .int p3)] := hl
  refine lv_aload_n hx hb dX4_setGoose_0 rfl (lv_at hl 0 rfl) ?_
  refine lv_iload_n hx hb dX4_setGoose_1 rfl (lv_at hl 1 rfl) ?_
  refine gw_calli (gw_runV (As := [.int p1]) (rest := []) ⟨hx, hb, hml, hown, hts⟩ (c_hasGoose l G cI cJ cZ cB cT h g mk stp gc mc gr mo dy xx tc ru fi sc fg fm fs p1  H.size) (gG_V m_25 m_26 m_27 m_6 m_24) rfl e_X4_hasGoose ⟨Nat.le_of_ble_eq_true rfl, Nat.le_of_ble_eq_true rfl⟩ hK hP hD [0, 1, 2, 3] rfl (by decide) rfl 0 rfl rfl rfl hl.1 rfl (Nat.le_of_ble_eq_true rfl) dX4_setGoose_2 ⟨Nat.le_of_ble_eq_true rfl, Nat.le_of_ble_eq_true rfl⟩) hP hD hS hA [0, 1, 2, 3] [] rfl rfl (by decide) (by decide) (fun r_1 u_1 H locs hw_1 hP hD hS => ?_)
  subst hw_1
  have hP : va_P G vwCl [(h, .inr (4, [.ref g, .ref mk, .ref stp, .int gc, .int mc, .int gr, .int mo, .int dy, .int xx, .int tc, .int ru, .int fi, .int sc])), (g, .inl (cI, 90, .inl fg)), (mk, .inl (cI, 12, .inl fm)), (stp, .inl (cI, 1880, .inl fs))] H := hP
  have hD : va_D A [(h, .inr (4, [.ref g, .ref mk, .ref stp, .int gc, .int mc, .int gr, .int mo, .int dy, .int xx, .int tc, .int ru, .int fi, .int sc])), (g, .inl (cI, 90, .inl fg)), (mk, .inl (cI, 12, .inl fm)), (stp, .inl (cI, 1880, .inl fs))] := hD
  refine lv_if_eq (tgt := 30) hx hb dX4_setGoose_5 (by decide) (fun c_2 => ?_) (fun c_2 => ?_)
  · exact gw_vret fg hx hb hr hlocks hP hD hS trivial dX4_setGoose_30
  · refine lv_iload_n hx hb dX4_setGoose_8 rfl (lv_at hl 2 rfl) ?_
    refine lv_if_lt (tgt := 30) hx hb dX4_setGoose_9 (by decide) (fun c_3 => ?_) (fun c_3 => ?_)
    · exact gw_vret fg hx hb hr hlocks hP hD hS trivial dX4_setGoose_30
    · refine lv_iload_n hx hb dX4_setGoose_12 rfl (lv_at hl 2 rfl) ?_
      refine lv_bipush (v := 9) hx hb dX4_setGoose_13 (by decide) ?_
      refine lv_icmp_ge (tgt := 30) hx hb dX4_setGoose_15 (by decide) (fun c_4 => ?_) (fun c_4 => ?_)
      · exact gw_vret fg hx hb hr hlocks hP hD hS trivial dX4_setGoose_30
      · obtain ⟨k1, hk1, ek1⟩ := gi_nat (x := p1) 10 (hasGoose_yes c_2).1 (hasGoose_yes c_2).2
        subst ek1
        obtain ⟨k2, hk2, ek2⟩ := gi_nat (x := p2) 9 (by have := gi_of_nlt c_3; have := gi_of_nle c_4; have : (0 : Int32).toInt = 0 := (by decide); have : (9 : Int32).toInt = 9 := (by decide); omega) (by have := gi_of_nlt c_3; have := gi_of_nle c_4; have : (0 : Int32).toInt = 0 := (by decide); have : (9 : Int32).toInt = 9 := (by decide); omega)
        subst ek2
        refine lv_aload_n hx hb dX4_setGoose_18 rfl (lv_at hl 0 rfl) ?_
        refine va_get (D := G) (ci := 4) (v := .ref g) (C := RX4) (T := TX4) (N := 13) hx hb hts iX4 hown hK hP 0 rfl rfl 0 (by decide) (hts _ m_28) (fun _ h9 => h9) rfl dX4_setGoose_19 ?_
        refine lv_iload_n hx hb dX4_setGoose_22 rfl (lv_at hl 1 rfl) ?_
        refine lv_bipush (v := 9) hx hb dX4_setGoose_23 (by decide) ?_
        refine lv_imul hx hb dX4_setGoose_25 ?_
        refine gw_topi (y := (nI (k1 * 9))) (pk_mul k1 9) ?_
        refine lv_iload_n hx hb dX4_setGoose_26 rfl (lv_at hl 2 rfl) ?_
        refine lv_iadd hx hb dX4_setGoose_27 ?_
        refine gw_topi (y := (nI ((k1 * 9) + k2))) (nI_add (k1 * 9) k2) ?_
        refine lv_iload_n hx hb dX4_setGoose_28 rfl (lv_at hl 3 rfl) ?_
        refine gw_iast hx hb hK hP hD hS 1 0 ((k1 * 9) + k2) rfl rfl rfl (by omega) (by decide) dX4_setGoose_29 (fun H locs hP hD hS => ?_)
        have hP : va_P G vwCl [(h, .inr (4, [.ref g, .ref mk, .ref stp, .int gc, .int mc, .int gr, .int mo, .int dy, .int xx, .int tc, .int ru, .int fi, .int sc])), (g, .inl (cI, 90, .inl (upd fg (((k1 * 9) + k2)) p3))), (mk, .inl (cI, 12, .inl fm)), (stp, .inl (cI, 1880, .inl fs))] H := hP
        have hD : va_D A [(h, .inr (4, [.ref g, .ref mk, .ref stp, .int gc, .int mc, .int gr, .int mo, .int dy, .int xx, .int tc, .int ru, .int fi, .int sc])), (g, .inl (cI, 90, .inl (upd fg (((k1 * 9) + k2)) p3))), (mk, .inl (cI, 12, .inl fm)), (stp, .inl (cI, 1880, .inl fs))] := hD
        exact gw_vret (upd fg (((k1 * 9) + k2)) p3) hx hb hr hlocks hP hD hS trivial dX4_setGoose_30
theorem e_X4_setGoose : yX4_setGoose.cls = RX4 ∧ yX4_setGoose.cls ≠ "java/lang/invoke/MethodHandle" ∧ yX4_setGoose.cls ≠ "java/lang/invoke/VarHandle" ∧ (parseMethodDescriptor yX4_setGoose.desc).map (fun d => d.parameters.length) = some 3 := by decide +kernel
set_option maxHeartbeats 4000000 in
set_option maxRecDepth 100000 in
/-- the first goose: 0 -/
theorem c_addGoose0 (l : Launch) (G : va_G) (cI cJ cZ cB cT : ClassId) (h : Nat) (g : Nat) (mk : Nat) (stp : Nat) (fg : Nat → Int32) (fm : Nat → Int32) (fs : Nat → Int32) (p1 : Int32) (p2 : Int32)  : gMi l yX4_addGoose (gws yX4_addGoose cX4_addGoose 4 (some .int)) 3 G (gT cI cJ cZ cB cT) [.ref h, .int p1, .int p2] [(h, .inr (4, [.ref g, .ref mk, .ref stp, .int 0, .int 0, .int 0, .int 0, .int 0, .int 9, .int 0, .int (-1), .int 0, .int 0])), (g, .inl (cI, 90, .inl fg)), (mk, .inl (cI, 12, .inl fm)), (stp, .inl (cI, 1880, .inl fs))] (fun r (_ : Unit) => r = 0) (fun (_ : Unit) => ([] : va_W)) := by
  intro sz
  refine gM_start (y := yX4_addGoose) (av := [.ref h, .int p1, .int p2]) (ws := [(h, .inr (4, [.ref g, .ref mk, .ref stp, .int 0, .int 0, .int 0, .int 0, .int 0, .int 9, .int 0, .int (-1), .int 0, .int 0])), (g, .inl (cI, 90, .inl fg)), (mk, .inl (cI, 12, .inl fm)), (stp, .inl (cI, 1880, .inl fs))]) (Qf := fun A => va_Qi (fun r (_ : Unit) => r = 0) (gB G (fun (_ : Unit) => ([] : va_W)) A) A) (cc := cX4_addGoose) (maxL := 4) (ret := (some .int)) (by decide) (Nat.le_of_ble_eq_true rfl) ?_
  intro p e s m args below meth c A ls H hx hb hr hts hown hin hlocks hml hP hK hD hA hS hl
  have hl : lv_has ls 4 [(0, .ref h), (1, .int p1), (2, .int p2)] := hl
  refine lv_aload_n hx hb dX4_addGoose_0 rfl (lv_at hl 0 rfl) ?_
  refine va_get (D := G) (ci := 4) (v := .int 0) (C := RX4) (T := TX4) (N := 13) hx hb hts iX4 hown hK hP 0 rfl rfl 3 (by decide) (hts _ m_0) (fun _ h9 => h9) rfl dX4_addGoose_1 ?_
  refine lv_bipush (v := 10) hx hb dX4_addGoose_4 (by decide) ?_
  refine lv_icmp_lt (tgt := 11) hx hb dX4_addGoose_6 (by decide) (fun _ => ?_) (fun c => absurd (by decide) c)
  refine lv_aload_n hx hb dX4_addGoose_11 rfl (lv_at hl 0 rfl) ?_
  refine va_get (D := G) (ci := 4) (v := .int 0) (C := RX4) (T := TX4) (N := 13) hx hb hts iX4 hown hK hP 0 rfl rfl 3 (by decide) (hts _ m_0) (fun _ h9 => h9) rfl dX4_addGoose_12 ?_
  refine lv_istore_n (lv' := [(3, .int 0), (0, .ref h), (1, .int p1), (2, .int p2)]) hx hb dX4_addGoose_15 rfl hl (by decide) rfl (fun ls hl => ?_)
  refine lv_aload_n hx hb dX4_addGoose_16 rfl (lv_at hl 1 rfl) ?_
  refine lv_dup hx hb dX4_addGoose_17 rfl ?_
  refine va_get (D := G) (ci := 4) (v := .int 0) (C := RX4) (T := TX4) (N := 13) hx hb hts iX4 hown hK hP 0 rfl rfl 3 (by decide) (hts _ m_0) (fun _ h9 => h9) rfl dX4_addGoose_18 ?_
  refine lv_iconst (v := 1) hx hb dX4_addGoose_21 (by decide) ?_
  refine lv_iadd hx hb dX4_addGoose_22 ?_
  refine gw_topi (y := 1) (by decide) ?_
  refine va_put (D := G) (ci := 4) (v := .int 1) (ty := .int) (C := RX4) (T := TX4) (N := 13) hx hb hts iX4 tyX4 tyX4_ok nmX4 hown hK hP hD hS 0 rfl rfl 3 (by decide) (hts _ m_0) (fun _ h9 => h9) rfl (tyX4_ok 3 (by decide)) rfl rfl (Nat.le_of_ble_eq_true rfl) dX4_addGoose_23 (fun H locs hP hD hS => ?_)
  have hP : va_P G vwCl [(h, .inr (4, [.ref g, .ref mk, .ref stp, .int 1, .int 0, .int 0, .int 0, .int 0, .int 9, .int 0, .int (-1), .int 0, .int 0])), (g, .inl (cI, 90, .inl fg)), (mk, .inl (cI, 12, .inl fm)), (stp, .inl (cI, 1880, .inl fs))] H := hP
  have hD : va_D A [(h, .inr (4, [.ref g, .ref mk, .ref stp, .int 1, .int 0, .int 0, .int 0, .int 0, .int 9, .int 0, .int (-1), .int 0, .int 0])), (g, .inl (cI, 90, .inl fg)), (mk, .inl (cI, 12, .inl fm)), (stp, .inl (cI, 1880, .inl fs))] := hD
  refine lv_aload_n hx hb dX4_addGoose_26 rfl (lv_at hl 1 rfl) ?_
  refine lv_iload_n hx hb dX4_addGoose_27 rfl (lv_at hl 0 rfl) ?_
  refine lv_iconst (v := 0) hx hb dX4_addGoose_28 (by decide) ?_
  refine lv_iload_n hx hb dX4_addGoose_29 rfl (lv_at hl 2 rfl) ?_
  refine gw_callv (gw_runV (As := [.int 0, .int 0, .int p1]) (rest := []) ⟨hx, hb, hml, hown, hts⟩ (c_setGoose l G cI cJ cZ cB cT h g mk stp 1 0 0 0 0 9 0 (-1) 0 0 fg fm fs 0 0 p1  H.size) (gG_V m_30 m_31 m_32 m_6 m_29) rfl e_X4_setGoose ⟨Nat.le_of_ble_eq_true rfl, Nat.le_of_ble_eq_true rfl⟩ hK hP hD [0, 1, 2, 3] rfl (by decide) rfl 0 rfl rfl rfl hl.1 rfl (Nat.le_of_ble_eq_true rfl) dX4_addGoose_30 ⟨Nat.le_of_ble_eq_true rfl, Nat.le_of_ble_eq_true rfl⟩) hP hD hS hA [0, 1, 2, 3] [] rfl rfl (by decide) (by decide) (fun u_1 H locs hw_1 hP hD hS => ?_)
  have hP : va_P G vwCl [(h, .inr (4, [.ref g, .ref mk, .ref stp, .int 1, .int 0, .int 0, .int 0, .int 0, .int 9, .int 0, .int (-1), .int 0, .int 0])), (g, .inl (cI, 90, .inl u_1)), (mk, .inl (cI, 12, .inl fm)), (stp, .inl (cI, 1880, .inl fs))] H := hP
  have hD : va_D A [(h, .inr (4, [.ref g, .ref mk, .ref stp, .int 1, .int 0, .int 0, .int 0, .int 0, .int 9, .int 0, .int (-1), .int 0, .int 0])), (g, .inl (cI, 90, .inl u_1)), (mk, .inl (cI, 12, .inl fm)), (stp, .inl (cI, 1880, .inl fs))] := hD
  refine lv_aload_n hx hb dX4_addGoose_33 rfl (lv_at hl 1 rfl) ?_
  refine lv_iload_n hx hb dX4_addGoose_34 rfl (lv_at hl 0 rfl) ?_
  refine lv_iconst (v := 1) hx hb dX4_addGoose_35 (by decide) ?_
  refine lv_iload_n hx hb dX4_addGoose_36 rfl (lv_at hl 3 rfl) ?_
  refine gw_callv (gw_runV (As := [.int 0, .int 1, .int p2]) (rest := []) ⟨hx, hb, hml, hown, hts⟩ (c_setGoose l G cI cJ cZ cB cT h g mk stp 1 0 0 0 0 9 0 (-1) 0 0 u_1 fm fs 0 1 p2  H.size) (gG_V m_30 m_31 m_32 m_6 m_29) rfl e_X4_setGoose ⟨Nat.le_of_ble_eq_true rfl, Nat.le_of_ble_eq_true rfl⟩ hK hP hD [0, 1, 2, 3] rfl (by decide) rfl 0 rfl rfl rfl hl.1 rfl (Nat.le_of_ble_eq_true rfl) dX4_addGoose_37 ⟨Nat.le_of_ble_eq_true rfl, Nat.le_of_ble_eq_true rfl⟩) hP hD hS hA [0, 1, 2, 3] [] rfl rfl (by decide) (by decide) (fun u_2 H locs hw_2 hP hD hS => ?_)
  have hP : va_P G vwCl [(h, .inr (4, [.ref g, .ref mk, .ref stp, .int 1, .int 0, .int 0, .int 0, .int 0, .int 9, .int 0, .int (-1), .int 0, .int 0])), (g, .inl (cI, 90, .inl u_2)), (mk, .inl (cI, 12, .inl fm)), (stp, .inl (cI, 1880, .inl fs))] H := hP
  have hD : va_D A [(h, .inr (4, [.ref g, .ref mk, .ref stp, .int 1, .int 0, .int 0, .int 0, .int 0, .int 9, .int 0, .int (-1), .int 0, .int 0])), (g, .inl (cI, 90, .inl u_2)), (mk, .inl (cI, 12, .inl fm)), (stp, .inl (cI, 1880, .inl fs))] := hD
  refine lv_aload_n hx hb dX4_addGoose_40 rfl (lv_at hl 1 rfl) ?_
  refine lv_iload_n hx hb dX4_addGoose_41 rfl (lv_at hl 0 rfl) ?_
  refine lv_iconst (v := 2) hx hb dX4_addGoose_42 (by decide) ?_
  refine lv_iconst (v := (-1)) hx hb dX4_addGoose_43 (by decide) ?_
  refine gw_callv (gw_runV (As := [.int 0, .int 2, .int (-1)]) (rest := []) ⟨hx, hb, hml, hown, hts⟩ (c_setGoose l G cI cJ cZ cB cT h g mk stp 1 0 0 0 0 9 0 (-1) 0 0 u_2 fm fs 0 2 (-1)  H.size) (gG_V m_30 m_31 m_32 m_6 m_29) rfl e_X4_setGoose ⟨Nat.le_of_ble_eq_true rfl, Nat.le_of_ble_eq_true rfl⟩ hK hP hD [0, 1, 2, 3] rfl (by decide) rfl 0 rfl rfl rfl hl.1 rfl (Nat.le_of_ble_eq_true rfl) dX4_addGoose_44 ⟨Nat.le_of_ble_eq_true rfl, Nat.le_of_ble_eq_true rfl⟩) hP hD hS hA [0, 1, 2, 3] [] rfl rfl (by decide) (by decide) (fun u_3 H locs hw_3 hP hD hS => ?_)
  have hP : va_P G vwCl [(h, .inr (4, [.ref g, .ref mk, .ref stp, .int 1, .int 0, .int 0, .int 0, .int 0, .int 9, .int 0, .int (-1), .int 0, .int 0])), (g, .inl (cI, 90, .inl u_3)), (mk, .inl (cI, 12, .inl fm)), (stp, .inl (cI, 1880, .inl fs))] H := hP
  have hD : va_D A [(h, .inr (4, [.ref g, .ref mk, .ref stp, .int 1, .int 0, .int 0, .int 0, .int 0, .int 9, .int 0, .int (-1), .int 0, .int 0])), (g, .inl (cI, 90, .inl u_3)), (mk, .inl (cI, 12, .inl fm)), (stp, .inl (cI, 1880, .inl fs))] := hD
  refine lv_aload_n hx hb dX4_addGoose_47 rfl (lv_at hl 1 rfl) ?_
  refine lv_iload_n hx hb dX4_addGoose_48 rfl (lv_at hl 0 rfl) ?_
  refine lv_iconst (v := 3) hx hb dX4_addGoose_49 (by decide) ?_
  refine lv_iconst (v := (-1)) hx hb dX4_addGoose_50 (by decide) ?_
  refine gw_callv (gw_runV (As := [.int 0, .int 3, .int (-1)]) (rest := []) ⟨hx, hb, hml, hown, hts⟩ (c_setGoose l G cI cJ cZ cB cT h g mk stp 1 0 0 0 0 9 0 (-1) 0 0 u_3 fm fs 0 3 (-1)  H.size) (gG_V m_30 m_31 m_32 m_6 m_29) rfl e_X4_setGoose ⟨Nat.le_of_ble_eq_true rfl, Nat.le_of_ble_eq_true rfl⟩ hK hP hD [0, 1, 2, 3] rfl (by decide) rfl 0 rfl rfl rfl hl.1 rfl (Nat.le_of_ble_eq_true rfl) dX4_addGoose_51 ⟨Nat.le_of_ble_eq_true rfl, Nat.le_of_ble_eq_true rfl⟩) hP hD hS hA [0, 1, 2, 3] [] rfl rfl (by decide) (by decide) (fun u_4 H locs hw_4 hP hD hS => ?_)
  have hP : va_P G vwCl [(h, .inr (4, [.ref g, .ref mk, .ref stp, .int 1, .int 0, .int 0, .int 0, .int 0, .int 9, .int 0, .int (-1), .int 0, .int 0])), (g, .inl (cI, 90, .inl u_4)), (mk, .inl (cI, 12, .inl fm)), (stp, .inl (cI, 1880, .inl fs))] H := hP
  have hD : va_D A [(h, .inr (4, [.ref g, .ref mk, .ref stp, .int 1, .int 0, .int 0, .int 0, .int 0, .int 9, .int 0, .int (-1), .int 0, .int 0])), (g, .inl (cI, 90, .inl u_4)), (mk, .inl (cI, 12, .inl fm)), (stp, .inl (cI, 1880, .inl fs))] := hD
  refine lv_aload_n hx hb dX4_addGoose_54 rfl (lv_at hl 1 rfl) ?_
  refine lv_iload_n hx hb dX4_addGoose_55 rfl (lv_at hl 0 rfl) ?_
  refine lv_iconst (v := 4) hx hb dX4_addGoose_56 (by decide) ?_
  refine lv_iconst (v := 0) hx hb dX4_addGoose_57 (by decide) ?_
  refine gw_callv (gw_runV (As := [.int 0, .int 4, .int 0]) (rest := []) ⟨hx, hb, hml, hown, hts⟩ (c_setGoose l G cI cJ cZ cB cT h g mk stp 1 0 0 0 0 9 0 (-1) 0 0 u_4 fm fs 0 4 0  H.size) (gG_V m_30 m_31 m_32 m_6 m_29) rfl e_X4_setGoose ⟨Nat.le_of_ble_eq_true rfl, Nat.le_of_ble_eq_true rfl⟩ hK hP hD [0, 1, 2, 3] rfl (by decide) rfl 0 rfl rfl rfl hl.1 rfl (Nat.le_of_ble_eq_true rfl) dX4_addGoose_58 ⟨Nat.le_of_ble_eq_true rfl, Nat.le_of_ble_eq_true rfl⟩) hP hD hS hA [0, 1, 2, 3] [] rfl rfl (by decide) (by decide) (fun u_5 H locs hw_5 hP hD hS => ?_)
  have hP : va_P G vwCl [(h, .inr (4, [.ref g, .ref mk, .ref stp, .int 1, .int 0, .int 0, .int 0, .int 0, .int 9, .int 0, .int (-1), .int 0, .int 0])), (g, .inl (cI, 90, .inl u_5)), (mk, .inl (cI, 12, .inl fm)), (stp, .inl (cI, 1880, .inl fs))] H := hP
  have hD : va_D A [(h, .inr (4, [.ref g, .ref mk, .ref stp, .int 1, .int 0, .int 0, .int 0, .int 0, .int 9, .int 0, .int (-1), .int 0, .int 0])), (g, .inl (cI, 90, .inl u_5)), (mk, .inl (cI, 12, .inl fm)), (stp, .inl (cI, 1880, .inl fs))] := hD
  refine lv_aload_n hx hb dX4_addGoose_61 rfl (lv_at hl 1 rfl) ?_
  refine lv_iload_n hx hb dX4_addGoose_62 rfl (lv_at hl 0 rfl) ?_
  refine lv_iconst (v := 5) hx hb dX4_addGoose_63 (by decide) ?_
  refine lv_iconst (v := (-1)) hx hb dX4_addGoose_64 (by decide) ?_
  refine gw_callv (gw_runV (As := [.int 0, .int 5, .int (-1)]) (rest := []) ⟨hx, hb, hml, hown, hts⟩ (c_setGoose l G cI cJ cZ cB cT h g mk stp 1 0 0 0 0 9 0 (-1) 0 0 u_5 fm fs 0 5 (-1)  H.size) (gG_V m_30 m_31 m_32 m_6 m_29) rfl e_X4_setGoose ⟨Nat.le_of_ble_eq_true rfl, Nat.le_of_ble_eq_true rfl⟩ hK hP hD [0, 1, 2, 3] rfl (by decide) rfl 0 rfl rfl rfl hl.1 rfl (Nat.le_of_ble_eq_true rfl) dX4_addGoose_65 ⟨Nat.le_of_ble_eq_true rfl, Nat.le_of_ble_eq_true rfl⟩) hP hD hS hA [0, 1, 2, 3] [] rfl rfl (by decide) (by decide) (fun u_6 H locs hw_6 hP hD hS => ?_)
  have hP : va_P G vwCl [(h, .inr (4, [.ref g, .ref mk, .ref stp, .int 1, .int 0, .int 0, .int 0, .int 0, .int 9, .int 0, .int (-1), .int 0, .int 0])), (g, .inl (cI, 90, .inl u_6)), (mk, .inl (cI, 12, .inl fm)), (stp, .inl (cI, 1880, .inl fs))] H := hP
  have hD : va_D A [(h, .inr (4, [.ref g, .ref mk, .ref stp, .int 1, .int 0, .int 0, .int 0, .int 0, .int 9, .int 0, .int (-1), .int 0, .int 0])), (g, .inl (cI, 90, .inl u_6)), (mk, .inl (cI, 12, .inl fm)), (stp, .inl (cI, 1880, .inl fs))] := hD
  refine lv_aload_n hx hb dX4_addGoose_68 rfl (lv_at hl 1 rfl) ?_
  refine lv_iload_n hx hb dX4_addGoose_69 rfl (lv_at hl 0 rfl) ?_
  refine lv_bipush (v := 6) hx hb dX4_addGoose_70 (by decide) ?_
  refine lv_iconst (v := (-1)) hx hb dX4_addGoose_72 (by decide) ?_
  refine gw_callv (gw_runV (As := [.int 0, .int 6, .int (-1)]) (rest := []) ⟨hx, hb, hml, hown, hts⟩ (c_setGoose l G cI cJ cZ cB cT h g mk stp 1 0 0 0 0 9 0 (-1) 0 0 u_6 fm fs 0 6 (-1)  H.size) (gG_V m_30 m_31 m_32 m_6 m_29) rfl e_X4_setGoose ⟨Nat.le_of_ble_eq_true rfl, Nat.le_of_ble_eq_true rfl⟩ hK hP hD [0, 1, 2, 3] rfl (by decide) rfl 0 rfl rfl rfl hl.1 rfl (Nat.le_of_ble_eq_true rfl) dX4_addGoose_73 ⟨Nat.le_of_ble_eq_true rfl, Nat.le_of_ble_eq_true rfl⟩) hP hD hS hA [0, 1, 2, 3] [] rfl rfl (by decide) (by decide) (fun u_7 H locs hw_7 hP hD hS => ?_)
  have hP : va_P G vwCl [(h, .inr (4, [.ref g, .ref mk, .ref stp, .int 1, .int 0, .int 0, .int 0, .int 0, .int 9, .int 0, .int (-1), .int 0, .int 0])), (g, .inl (cI, 90, .inl u_7)), (mk, .inl (cI, 12, .inl fm)), (stp, .inl (cI, 1880, .inl fs))] H := hP
  have hD : va_D A [(h, .inr (4, [.ref g, .ref mk, .ref stp, .int 1, .int 0, .int 0, .int 0, .int 0, .int 9, .int 0, .int (-1), .int 0, .int 0])), (g, .inl (cI, 90, .inl u_7)), (mk, .inl (cI, 12, .inl fm)), (stp, .inl (cI, 1880, .inl fs))] := hD
  refine lv_aload_n hx hb dX4_addGoose_76 rfl (lv_at hl 1 rfl) ?_
  refine lv_iload_n hx hb dX4_addGoose_77 rfl (lv_at hl 0 rfl) ?_
  refine lv_bipush (v := 7) hx hb dX4_addGoose_78 (by decide) ?_
  refine lv_iconst (v := (-1)) hx hb dX4_addGoose_80 (by decide) ?_
  refine gw_callv (gw_runV (As := [.int 0, .int 7, .int (-1)]) (rest := []) ⟨hx, hb, hml, hown, hts⟩ (c_setGoose l G cI cJ cZ cB cT h g mk stp 1 0 0 0 0 9 0 (-1) 0 0 u_7 fm fs 0 7 (-1)  H.size) (gG_V m_30 m_31 m_32 m_6 m_29) rfl e_X4_setGoose ⟨Nat.le_of_ble_eq_true rfl, Nat.le_of_ble_eq_true rfl⟩ hK hP hD [0, 1, 2, 3] rfl (by decide) rfl 0 rfl rfl rfl hl.1 rfl (Nat.le_of_ble_eq_true rfl) dX4_addGoose_81 ⟨Nat.le_of_ble_eq_true rfl, Nat.le_of_ble_eq_true rfl⟩) hP hD hS hA [0, 1, 2, 3] [] rfl rfl (by decide) (by decide) (fun u_8 H locs hw_8 hP hD hS => ?_)
  have hP : va_P G vwCl [(h, .inr (4, [.ref g, .ref mk, .ref stp, .int 1, .int 0, .int 0, .int 0, .int 0, .int 9, .int 0, .int (-1), .int 0, .int 0])), (g, .inl (cI, 90, .inl u_8)), (mk, .inl (cI, 12, .inl fm)), (stp, .inl (cI, 1880, .inl fs))] H := hP
  have hD : va_D A [(h, .inr (4, [.ref g, .ref mk, .ref stp, .int 1, .int 0, .int 0, .int 0, .int 0, .int 9, .int 0, .int (-1), .int 0, .int 0])), (g, .inl (cI, 90, .inl u_8)), (mk, .inl (cI, 12, .inl fm)), (stp, .inl (cI, 1880, .inl fs))] := hD
  refine lv_aload_n hx hb dX4_addGoose_84 rfl (lv_at hl 1 rfl) ?_
  refine lv_iload_n hx hb dX4_addGoose_85 rfl (lv_at hl 0 rfl) ?_
  refine lv_bipush (v := 8) hx hb dX4_addGoose_86 (by decide) ?_
  refine lv_iconst (v := 0) hx hb dX4_addGoose_88 (by decide) ?_
  refine gw_callv (gw_runV (As := [.int 0, .int 8, .int 0]) (rest := []) ⟨hx, hb, hml, hown, hts⟩ (c_setGoose l G cI cJ cZ cB cT h g mk stp 1 0 0 0 0 9 0 (-1) 0 0 u_8 fm fs 0 8 0  H.size) (gG_V m_30 m_31 m_32 m_6 m_29) rfl e_X4_setGoose ⟨Nat.le_of_ble_eq_true rfl, Nat.le_of_ble_eq_true rfl⟩ hK hP hD [0, 1, 2, 3] rfl (by decide) rfl 0 rfl rfl rfl hl.1 rfl (Nat.le_of_ble_eq_true rfl) dX4_addGoose_89 ⟨Nat.le_of_ble_eq_true rfl, Nat.le_of_ble_eq_true rfl⟩) hP hD hS hA [0, 1, 2, 3] [] rfl rfl (by decide) (by decide) (fun u_9 H locs hw_9 hP hD hS => ?_)
  have hP : va_P G vwCl [(h, .inr (4, [.ref g, .ref mk, .ref stp, .int 1, .int 0, .int 0, .int 0, .int 0, .int 9, .int 0, .int (-1), .int 0, .int 0])), (g, .inl (cI, 90, .inl u_9)), (mk, .inl (cI, 12, .inl fm)), (stp, .inl (cI, 1880, .inl fs))] H := hP
  have hD : va_D A [(h, .inr (4, [.ref g, .ref mk, .ref stp, .int 1, .int 0, .int 0, .int 0, .int 0, .int 9, .int 0, .int (-1), .int 0, .int 0])), (g, .inl (cI, 90, .inl u_9)), (mk, .inl (cI, 12, .inl fm)), (stp, .inl (cI, 1880, .inl fs))] := hD
  refine lv_iload_n hx hb dX4_addGoose_92 rfl (lv_at hl 0 rfl) ?_
  exact gw_iret () hx hb hr hlocks (hP.sub [] rfl) (hD.sub [] (by decide) rfl) hS rfl dX4_addGoose_93
set_option maxHeartbeats 4000000 in
set_option maxRecDepth 100000 in
/-- the first step is kept -/
theorem c_keepStep0 (l : Launch) (G : va_G) (cI cJ cZ cB cT : ClassId) (h : Nat) (g : Nat) (mk : Nat) (stp : Nat) (fg : Nat → Int32) (fm : Nat → Int32) (fs : Nat → Int32)  : gMv l yX4_keepStep (gws yX4_keepStep cX4_keepStep 2 none) 1 G (gT cI cJ cZ cB cT) [.ref h] [(h, .inr (4, [.ref g, .ref mk, .ref stp, .int 0, .int 0, .int 0, .int 0, .int 0, .int 9, .int 0, .int (-1), .int 0, .int 0])), (g, .inl (cI, 90, .inl fg)), (mk, .inl (cI, 12, .inl fm)), (stp, .inl (cI, 1880, .inl fs))] (fun (_ : Nat → Int32) => True) (fun (u : Nat → Int32) => ([(h, .inr (4, [.ref g, .ref mk, .ref stp, .int 0, .int 0, .int 0, .int 0, .int 0, .int 9, .int 0, .int (-1), .int 0, .int 1])), (g, .inl (cI, 90, .inl fg)), (mk, .inl (cI, 12, .inl fm)), (stp, .inl (cI, 1880, .inl u))] : va_W)) := by
  intro sz
  refine gM_start (y := yX4_keepStep) (av := [.ref h]) (ws := [(h, .inr (4, [.ref g, .ref mk, .ref stp, .int 0, .int 0, .int 0, .int 0, .int 0, .int 9, .int 0, .int (-1), .int 0, .int 0])), (g, .inl (cI, 90, .inl fg)), (mk, .inl (cI, 12, .inl fm)), (stp, .inl (cI, 1880, .inl fs))]) (Qf := fun A => va_Qv (fun (_ : Nat → Int32) => True) (gB G (fun (u : Nat → Int32) => ([(h, .inr (4, [.ref g, .ref mk, .ref stp, .int 0, .int 0, .int 0, .int 0, .int 0, .int 9, .int 0, .int (-1), .int 0, .int 1])), (g, .inl (cI, 90, .inl fg)), (mk, .inl (cI, 12, .inl fm)), (stp, .inl (cI, 1880, .inl u))] : va_W)) A) A) (cc := cX4_keepStep) (maxL := 2) (ret := none) (by decide) (Nat.le_of_ble_eq_true rfl) ?_
  intro p e s m args below meth c A ls H hx hb hr hts hown hin hlocks hml hP hK hD hA hS hl
  have hl : lv_has ls 2 [(0, .ref h)] := hl
  refine lv_aload_n hx hb dX4_keepStep_0 rfl (lv_at hl 0 rfl) ?_
  refine va_get (D := G) (ci := 4) (v := .int 0) (C := RX4) (T := TX4) (N := 13) hx hb hts iX4 hown hK hP 0 rfl rfl 12 (by decide) (hts _ m_23) (fun _ h9 => h9) rfl dX4_keepStep_1 ?_
  refine lv_bipush (v := 20) hx hb dX4_keepStep_4 (by decide) ?_
  refine lv_icmp_ge (tgt := 22) hx hb dX4_keepStep_6 (by decide) (fun c => absurd c (by decide)) (fun _ => ?_)
  refine lv_aload_n hx hb dX4_keepStep_9 rfl (lv_at hl 0 rfl) ?_
  refine lv_dup hx hb dX4_keepStep_10 rfl ?_
  refine va_get (D := G) (ci := 4) (v := .int 0) (C := RX4) (T := TX4) (N := 13) hx hb hts iX4 hown hK hP 0 rfl rfl 12 (by decide) (hts _ m_23) (fun _ h9 => h9) rfl dX4_keepStep_11 ?_
  refine lv_iconst (v := 1) hx hb dX4_keepStep_14 (by decide) ?_
  refine lv_iadd hx hb dX4_keepStep_15 ?_
  refine gw_topi (y := 1) (by decide) ?_
  refine va_put (D := G) (ci := 4) (v := .int 1) (ty := .int) (C := RX4) (T := TX4) (N := 13) hx hb hts iX4 tyX4 tyX4_ok nmX4 hown hK hP hD hS 0 rfl rfl 12 (by decide) (hts _ m_23) (fun _ h9 => h9) rfl (tyX4_ok 12 (by decide)) rfl rfl (Nat.le_of_ble_eq_true rfl) dX4_keepStep_16 (fun H locs hP hD hS => ?_)
  have hP : va_P G vwCl [(h, .inr (4, [.ref g, .ref mk, .ref stp, .int 0, .int 0, .int 0, .int 0, .int 0, .int 9, .int 0, .int (-1), .int 0, .int 1])), (g, .inl (cI, 90, .inl fg)), (mk, .inl (cI, 12, .inl fm)), (stp, .inl (cI, 1880, .inl fs))] H := hP
  have hD : va_D A [(h, .inr (4, [.ref g, .ref mk, .ref stp, .int 0, .int 0, .int 0, .int 0, .int 0, .int 9, .int 0, .int (-1), .int 0, .int 1])), (g, .inl (cI, 90, .inl fg)), (mk, .inl (cI, 12, .inl fm)), (stp, .inl (cI, 1880, .inl fs))] := hD
  refine lv_goto (tgt := 35) hx hb dX4_keepStep_19 (by decide) ?_
  refine lv_aload_n hx hb dX4_keepStep_35 rfl (lv_at hl 0 rfl) ?_
  refine va_get (D := G) (ci := 4) (v := .int 0) (C := RX4) (T := TX4) (N := 13) hx hb hts iX4 hown hK hP 0 rfl rfl 11 (by decide) (hts _ m_22) (fun _ h9 => h9) rfl dX4_keepStep_36 ?_
  refine lv_aload_n hx hb dX4_keepStep_39 rfl (lv_at hl 0 rfl) ?_
  refine va_get (D := G) (ci := 4) (v := .int 1) (C := RX4) (T := TX4) (N := 13) hx hb hts iX4 hown hK hP 0 rfl rfl 12 (by decide) (hts _ m_23) (fun _ h9 => h9) rfl dX4_keepStep_40 ?_
  refine lv_iadd hx hb dX4_keepStep_43 ?_
  refine gw_topi (y := 1) (by decide) ?_
  refine lv_iconst (v := 1) hx hb dX4_keepStep_44 (by decide) ?_
  refine lv_isub hx hb dX4_keepStep_45 ?_
  refine gw_topi (y := 0) (by decide) ?_
  refine lv_bipush (v := 20) hx hb dX4_keepStep_46 (by decide) ?_
  refine lv_irem hx hb dX4_keepStep_48 (by decide) ?_
  refine gw_topi (y := 0) (by decide) ?_
  refine lv_bipush (v := 94) hx hb dX4_keepStep_49 (by decide) ?_
  refine lv_imul hx hb dX4_keepStep_51 ?_
  refine gw_topi (y := 0) (by decide) ?_
  refine lv_istore_n (lv' := [(1, .int 0), (0, .ref h)]) hx hb dX4_keepStep_52 rfl hl (by decide) rfl (fun ls hl => ?_)
  refine lv_iload_n hx hb dX4_keepStep_53 rfl (lv_at hl 0 rfl) ?_
  refine lv_if_lt (tgt := 69) hx hb dX4_keepStep_54 (by decide) (fun c => absurd c (by decide)) (fun _ => ?_)
  refine lv_iload_n hx hb dX4_keepStep_57 rfl (lv_at hl 0 rfl) ?_
  refine lv_bipush (v := 94) hx hb dX4_keepStep_58 (by decide) ?_
  refine lv_iadd hx hb dX4_keepStep_60 ?_
  refine gw_topi (y := 94) (by decide) ?_
  refine lv_aload_n hx hb dX4_keepStep_61 rfl (lv_at hl 1 rfl) ?_
  refine va_get (D := G) (ci := 4) (v := .ref stp) (C := RX4) (T := TX4) (N := 13) hx hb hts iX4 hown hK hP 0 rfl rfl 2 (by decide) (hts _ m_33) (fun _ h9 => h9) rfl dX4_keepStep_62 ?_
  refine va_alen (D := G) hx hb hK hP 3 0 rfl rfl (v := 1880) rfl dX4_keepStep_65 ?_
  refine lv_icmp_le (tgt := 70) hx hb dX4_keepStep_66 (by decide) (fun _ => ?_) (fun c => absurd (by decide) c)
  refine lv_aload_n hx hb dX4_keepStep_70 rfl (lv_at hl 1 rfl) ?_
  refine va_get (D := G) (ci := 4) (v := .ref g) (C := RX4) (T := TX4) (N := 13) hx hb hts iX4 hown hK hP 0 rfl rfl 0 (by decide) (hts _ m_28) (fun _ h9 => h9) rfl dX4_keepStep_71 ?_
  refine lv_iconst (v := 0) hx hb dX4_keepStep_74 (by decide) ?_
  refine lv_aload_n hx hb dX4_keepStep_75 rfl (lv_at hl 1 rfl) ?_
  refine va_get (D := G) (ci := 4) (v := .ref stp) (C := RX4) (T := TX4) (N := 13) hx hb hts iX4 hown hK hP 0 rfl rfl 2 (by decide) (hts _ m_33) (fun _ h9 => h9) rfl dX4_keepStep_76 ?_
  refine lv_iload_n hx hb dX4_keepStep_79 rfl (lv_at hl 0 rfl) ?_
  refine lv_bipush (v := 90) hx hb dX4_keepStep_80 (by decide) ?_
  refine va_copyi (D := G) hx hb (by rw [hml]; exact hl.1.symm) hown (hts _ m_34) (hts _ m_35) (hts _ m_36) (hts _ m_37) hK hP hD hS 1 3 0 0 rfl rfl rfl rfl rfl (by decide) (by decide) (by decide) (by decide) (by decide) (fun _ _ => rfl) (Nat.le_of_ble_eq_true rfl) (Nat.le_of_ble_eq_true rfl) dX4_keepStep_82 (fun H locs hP hD hS => ?_)
  have hP : va_P G vwCl [(h, .inr (4, [.ref g, .ref mk, .ref stp, .int 0, .int 0, .int 0, .int 0, .int 0, .int 9, .int 0, .int (-1), .int 0, .int 1])), (g, .inl (cI, 90, .inl fg)), (mk, .inl (cI, 12, .inl fm)), (stp, .inl (cI, 1880, .inl (va_cpy fg fs 0 0 90)))] H := hP
  have hD : va_D A [(h, .inr (4, [.ref g, .ref mk, .ref stp, .int 0, .int 0, .int 0, .int 0, .int 0, .int 9, .int 0, .int (-1), .int 0, .int 1])), (g, .inl (cI, 90, .inl fg)), (mk, .inl (cI, 12, .inl fm)), (stp, .inl (cI, 1880, .inl (va_cpy fg fs 0 0 90)))] := hD
  refine lv_aload_n hx hb dX4_keepStep_85 rfl (lv_at hl 1 rfl) ?_
  refine va_get (D := G) (ci := 4) (v := .ref stp) (C := RX4) (T := TX4) (N := 13) hx hb hts iX4 hown hK hP 0 rfl rfl 2 (by decide) (hts _ m_33) (fun _ h9 => h9) rfl dX4_keepStep_86 ?_
  refine lv_iload_n hx hb dX4_keepStep_89 rfl (lv_at hl 0 rfl) ?_
  refine lv_bipush (v := 90) hx hb dX4_keepStep_90 (by decide) ?_
  refine lv_iadd hx hb dX4_keepStep_92 ?_
  refine gw_topi (y := 90) (by decide) ?_
  refine lv_aload_n hx hb dX4_keepStep_93 rfl (lv_at hl 1 rfl) ?_
  refine va_get (D := G) (ci := 4) (v := .int 0) (C := RX4) (T := TX4) (N := 13) hx hb hts iX4 hown hK hP 0 rfl rfl 3 (by decide) (hts _ m_0) (fun _ h9 => h9) rfl dX4_keepStep_94 ?_
  refine gw_iast hx hb hK hP hD hS 3 0 90 rfl rfl rfl (by decide) (by decide) dX4_keepStep_97 (fun H locs hP hD hS => ?_)
  have hP : va_P G vwCl [(h, .inr (4, [.ref g, .ref mk, .ref stp, .int 0, .int 0, .int 0, .int 0, .int 0, .int 9, .int 0, .int (-1), .int 0, .int 1])), (g, .inl (cI, 90, .inl fg)), (mk, .inl (cI, 12, .inl fm)), (stp, .inl (cI, 1880, .inl (upd (va_cpy fg fs 0 0 90) 90 0)))] H := hP
  have hD : va_D A [(h, .inr (4, [.ref g, .ref mk, .ref stp, .int 0, .int 0, .int 0, .int 0, .int 0, .int 9, .int 0, .int (-1), .int 0, .int 1])), (g, .inl (cI, 90, .inl fg)), (mk, .inl (cI, 12, .inl fm)), (stp, .inl (cI, 1880, .inl (upd (va_cpy fg fs 0 0 90) 90 0)))] := hD
  refine lv_aload_n hx hb dX4_keepStep_98 rfl (lv_at hl 1 rfl) ?_
  refine va_get (D := G) (ci := 4) (v := .ref stp) (C := RX4) (T := TX4) (N := 13) hx hb hts iX4 hown hK hP 0 rfl rfl 2 (by decide) (hts _ m_33) (fun _ h9 => h9) rfl dX4_keepStep_99 ?_
  refine lv_iload_n hx hb dX4_keepStep_102 rfl (lv_at hl 0 rfl) ?_
  refine lv_bipush (v := 90) hx hb dX4_keepStep_103 (by decide) ?_
  refine lv_iadd hx hb dX4_keepStep_105 ?_
  refine gw_topi (y := 90) (by decide) ?_
  refine lv_iconst (v := 1) hx hb dX4_keepStep_106 (by decide) ?_
  refine lv_iadd hx hb dX4_keepStep_107 ?_
  refine gw_topi (y := 91) (by decide) ?_
  refine lv_aload_n hx hb dX4_keepStep_108 rfl (lv_at hl 1 rfl) ?_
  refine va_get (D := G) (ci := 4) (v := .int 0) (C := RX4) (T := TX4) (N := 13) hx hb hts iX4 hown hK hP 0 rfl rfl 5 (by decide) (hts _ m_20) (fun _ h9 => h9) rfl dX4_keepStep_109 ?_
  refine gw_iast hx hb hK hP hD hS 3 0 91 rfl rfl rfl (by decide) (by decide) dX4_keepStep_112 (fun H locs hP hD hS => ?_)
  have hP : va_P G vwCl [(h, .inr (4, [.ref g, .ref mk, .ref stp, .int 0, .int 0, .int 0, .int 0, .int 0, .int 9, .int 0, .int (-1), .int 0, .int 1])), (g, .inl (cI, 90, .inl fg)), (mk, .inl (cI, 12, .inl fm)), (stp, .inl (cI, 1880, .inl (upd (upd (va_cpy fg fs 0 0 90) 90 0) 91 0)))] H := hP
  have hD : va_D A [(h, .inr (4, [.ref g, .ref mk, .ref stp, .int 0, .int 0, .int 0, .int 0, .int 0, .int 9, .int 0, .int (-1), .int 0, .int 1])), (g, .inl (cI, 90, .inl fg)), (mk, .inl (cI, 12, .inl fm)), (stp, .inl (cI, 1880, .inl (upd (upd (va_cpy fg fs 0 0 90) 90 0) 91 0)))] := hD
  refine lv_aload_n hx hb dX4_keepStep_113 rfl (lv_at hl 1 rfl) ?_
  refine va_get (D := G) (ci := 4) (v := .ref stp) (C := RX4) (T := TX4) (N := 13) hx hb hts iX4 hown hK hP 0 rfl rfl 2 (by decide) (hts _ m_33) (fun _ h9 => h9) rfl dX4_keepStep_114 ?_
  refine lv_iload_n hx hb dX4_keepStep_117 rfl (lv_at hl 0 rfl) ?_
  refine lv_bipush (v := 90) hx hb dX4_keepStep_118 (by decide) ?_
  refine lv_iadd hx hb dX4_keepStep_120 ?_
  refine gw_topi (y := 90) (by decide) ?_
  refine lv_iconst (v := 2) hx hb dX4_keepStep_121 (by decide) ?_
  refine lv_iadd hx hb dX4_keepStep_122 ?_
  refine gw_topi (y := 92) (by decide) ?_
  refine lv_aload_n hx hb dX4_keepStep_123 rfl (lv_at hl 1 rfl) ?_
  refine va_get (D := G) (ci := 4) (v := .int 0) (C := RX4) (T := TX4) (N := 13) hx hb hts iX4 hown hK hP 0 rfl rfl 7 (by decide) (hts _ m_38) (fun _ h9 => h9) rfl dX4_keepStep_124 ?_
  refine gw_iast hx hb hK hP hD hS 3 0 92 rfl rfl rfl (by decide) (by decide) dX4_keepStep_127 (fun H locs hP hD hS => ?_)
  have hP : va_P G vwCl [(h, .inr (4, [.ref g, .ref mk, .ref stp, .int 0, .int 0, .int 0, .int 0, .int 0, .int 9, .int 0, .int (-1), .int 0, .int 1])), (g, .inl (cI, 90, .inl fg)), (mk, .inl (cI, 12, .inl fm)), (stp, .inl (cI, 1880, .inl (upd (upd (upd (va_cpy fg fs 0 0 90) 90 0) 91 0) 92 0)))] H := hP
  have hD : va_D A [(h, .inr (4, [.ref g, .ref mk, .ref stp, .int 0, .int 0, .int 0, .int 0, .int 0, .int 9, .int 0, .int (-1), .int 0, .int 1])), (g, .inl (cI, 90, .inl fg)), (mk, .inl (cI, 12, .inl fm)), (stp, .inl (cI, 1880, .inl (upd (upd (upd (va_cpy fg fs 0 0 90) 90 0) 91 0) 92 0)))] := hD
  refine lv_aload_n hx hb dX4_keepStep_128 rfl (lv_at hl 1 rfl) ?_
  refine va_get (D := G) (ci := 4) (v := .ref stp) (C := RX4) (T := TX4) (N := 13) hx hb hts iX4 hown hK hP 0 rfl rfl 2 (by decide) (hts _ m_33) (fun _ h9 => h9) rfl dX4_keepStep_129 ?_
  refine lv_iload_n hx hb dX4_keepStep_132 rfl (lv_at hl 0 rfl) ?_
  refine lv_bipush (v := 90) hx hb dX4_keepStep_133 (by decide) ?_
  refine lv_iadd hx hb dX4_keepStep_135 ?_
  refine gw_topi (y := 90) (by decide) ?_
  refine lv_iconst (v := 3) hx hb dX4_keepStep_136 (by decide) ?_
  refine lv_iadd hx hb dX4_keepStep_137 ?_
  refine gw_topi (y := 93) (by decide) ?_
  refine lv_aload_n hx hb dX4_keepStep_138 rfl (lv_at hl 1 rfl) ?_
  refine va_get (D := G) (ci := 4) (v := .int 9) (C := RX4) (T := TX4) (N := 13) hx hb hts iX4 hown hK hP 0 rfl rfl 8 (by decide) (hts _ m_39) (fun _ h9 => h9) rfl dX4_keepStep_139 ?_
  refine gw_iast hx hb hK hP hD hS 3 0 93 rfl rfl rfl (by decide) (by decide) dX4_keepStep_142 (fun H locs hP hD hS => ?_)
  have hP : va_P G vwCl [(h, .inr (4, [.ref g, .ref mk, .ref stp, .int 0, .int 0, .int 0, .int 0, .int 0, .int 9, .int 0, .int (-1), .int 0, .int 1])), (g, .inl (cI, 90, .inl fg)), (mk, .inl (cI, 12, .inl fm)), (stp, .inl (cI, 1880, .inl (upd (upd (upd (upd (va_cpy fg fs 0 0 90) 90 0) 91 0) 92 0) 93 9)))] H := hP
  have hD : va_D A [(h, .inr (4, [.ref g, .ref mk, .ref stp, .int 0, .int 0, .int 0, .int 0, .int 0, .int 9, .int 0, .int (-1), .int 0, .int 1])), (g, .inl (cI, 90, .inl fg)), (mk, .inl (cI, 12, .inl fm)), (stp, .inl (cI, 1880, .inl (upd (upd (upd (upd (va_cpy fg fs 0 0 90) 90 0) 91 0) 92 0) 93 9)))] := hD
  exact gw_vret (upd (upd (upd (upd (va_cpy fg fs 0 0 90) 90 0) 91 0) 92 0) 93 9) hx hb hr hlocks hP hD hS trivial dX4_keepStep_143
set_option maxHeartbeats 4000000 in
set_option maxRecDepth 100000 in
/-- a fresh one over a fresh one -/
theorem c_copyFrom0 (l : Launch) (G : va_G) (cI cJ cZ cB cT : ClassId) (h : Nat) (g : Nat) (mk : Nat) (stp : Nat) (fg : Nat → Int32) (fm : Nat → Int32) (fs : Nat → Int32) (h2 : Nat) (g2 : Nat) (mk2 : Nat) (stp2 : Nat) (fg2 : Nat → Int32) (fm2 : Nat → Int32) (fs2 : Nat → Int32)  : gMv l yX4_copyFrom (gws yX4_copyFrom cX4_copyFrom 2 none) 1 G (gT cI cJ cZ cB cT) [.ref h, .ref h2] [(h, .inr (4, [.ref g, .ref mk, .ref stp, .int 0, .int 0, .int 0, .int 0, .int 0, .int 9, .int 0, .int (-1), .int 0, .int 0])), (g, .inl (cI, 90, .inl fg)), (mk, .inl (cI, 12, .inl fm)), (stp, .inl (cI, 1880, .inl fs)), (h2, .inr (4, [.ref g2, .ref mk2, .ref stp2, .int 0, .int 0, .int 0, .int 0, .int 0, .int 9, .int 0, .int (-1), .int 0, .int 0])), (g2, .inl (cI, 90, .inl fg2)), (mk2, .inl (cI, 12, .inl fm2)), (stp2, .inl (cI, 1880, .inl fs2))] (fun (_ : Unit) => True) (fun (_ : Unit) => ([(h, .inr (4, [.ref g, .ref mk, .ref stp, .int 0, .int 0, .int 0, .int 0, .int 0, .int 9, .int 0, .int (-1), .int 0, .int 0])), (g, .inl (cI, 90, .inl (va_cpy fg2 fg 0 0 90))), (mk, .inl (cI, 12, .inl (va_cpy fm2 fm 0 0 12))), (stp, .inl (cI, 1880, .inl (va_cpy fs2 fs 0 0 1880))), (h2, .inr (4, [.ref g2, .ref mk2, .ref stp2, .int 0, .int 0, .int 0, .int 0, .int 0, .int 9, .int 0, .int (-1), .int 0, .int 0])), (g2, .inl (cI, 90, .inl fg2)), (mk2, .inl (cI, 12, .inl fm2)), (stp2, .inl (cI, 1880, .inl fs2))] : va_W)) := by
  intro sz
  refine gM_start (y := yX4_copyFrom) (av := [.ref h, .ref h2]) (ws := [(h, .inr (4, [.ref g, .ref mk, .ref stp, .int 0, .int 0, .int 0, .int 0, .int 0, .int 9, .int 0, .int (-1), .int 0, .int 0])), (g, .inl (cI, 90, .inl fg)), (mk, .inl (cI, 12, .inl fm)), (stp, .inl (cI, 1880, .inl fs)), (h2, .inr (4, [.ref g2, .ref mk2, .ref stp2, .int 0, .int 0, .int 0, .int 0, .int 0, .int 9, .int 0, .int (-1), .int 0, .int 0])), (g2, .inl (cI, 90, .inl fg2)), (mk2, .inl (cI, 12, .inl fm2)), (stp2, .inl (cI, 1880, .inl fs2))]) (Qf := fun A => va_Qv (fun (_ : Unit) => True) (gB G (fun (_ : Unit) => ([(h, .inr (4, [.ref g, .ref mk, .ref stp, .int 0, .int 0, .int 0, .int 0, .int 0, .int 9, .int 0, .int (-1), .int 0, .int 0])), (g, .inl (cI, 90, .inl (va_cpy fg2 fg 0 0 90))), (mk, .inl (cI, 12, .inl (va_cpy fm2 fm 0 0 12))), (stp, .inl (cI, 1880, .inl (va_cpy fs2 fs 0 0 1880))), (h2, .inr (4, [.ref g2, .ref mk2, .ref stp2, .int 0, .int 0, .int 0, .int 0, .int 0, .int 9, .int 0, .int (-1), .int 0, .int 0])), (g2, .inl (cI, 90, .inl fg2)), (mk2, .inl (cI, 12, .inl fm2)), (stp2, .inl (cI, 1880, .inl fs2))] : va_W)) A) A) (cc := cX4_copyFrom) (maxL := 2) (ret := none) (by decide) (Nat.le_of_ble_eq_true rfl) ?_
  intro p e s m args below meth c A ls H hx hb hr hts hown hin hlocks hml hP hK hD hA hS hl
  have hl : lv_has ls 2 [(0, .ref h), (1, .ref h2)] := hl
  refine lv_aload_n hx hb dX4_copyFrom_0 rfl (lv_at hl 1 rfl) ?_
  refine va_get (D := G) (ci := 4) (v := .ref g2) (C := RX4) (T := TX4) (N := 13) hx hb hts iX4 hown hK hP 4 rfl rfl 0 (by decide) (hts _ m_28) (fun _ h9 => h9) rfl dX4_copyFrom_1 ?_
  refine lv_iconst (v := 0) hx hb dX4_copyFrom_4 (by decide) ?_
  refine lv_aload_n hx hb dX4_copyFrom_5 rfl (lv_at hl 0 rfl) ?_
  refine va_get (D := G) (ci := 4) (v := .ref g) (C := RX4) (T := TX4) (N := 13) hx hb hts iX4 hown hK hP 0 rfl rfl 0 (by decide) (hts _ m_28) (fun _ h9 => h9) rfl dX4_copyFrom_6 ?_
  refine lv_iconst (v := 0) hx hb dX4_copyFrom_9 (by decide) ?_
  refine lv_aload_n hx hb dX4_copyFrom_10 rfl (lv_at hl 0 rfl) ?_
  refine va_get (D := G) (ci := 4) (v := .ref g) (C := RX4) (T := TX4) (N := 13) hx hb hts iX4 hown hK hP 0 rfl rfl 0 (by decide) (hts _ m_28) (fun _ h9 => h9) rfl dX4_copyFrom_11 ?_
  refine va_alen (D := G) hx hb hK hP 1 0 rfl rfl (v := 90) rfl dX4_copyFrom_14 ?_
  refine va_copyi (D := G) hx hb (by rw [hml]; exact hl.1.symm) hown (hts _ m_34) (hts _ m_35) (hts _ m_36) (hts _ m_37) hK hP hD hS 5 1 0 0 rfl rfl rfl rfl rfl (by decide) (by decide) (by decide) (by decide) (by decide) (fun _ _ => rfl) (Nat.le_of_ble_eq_true rfl) (Nat.le_of_ble_eq_true rfl) dX4_copyFrom_15 (fun H locs hP hD hS => ?_)
  have hP : va_P G vwCl [(h, .inr (4, [.ref g, .ref mk, .ref stp, .int 0, .int 0, .int 0, .int 0, .int 0, .int 9, .int 0, .int (-1), .int 0, .int 0])), (g, .inl (cI, 90, .inl (va_cpy fg2 fg 0 0 90))), (mk, .inl (cI, 12, .inl fm)), (stp, .inl (cI, 1880, .inl fs)), (h2, .inr (4, [.ref g2, .ref mk2, .ref stp2, .int 0, .int 0, .int 0, .int 0, .int 0, .int 9, .int 0, .int (-1), .int 0, .int 0])), (g2, .inl (cI, 90, .inl fg2)), (mk2, .inl (cI, 12, .inl fm2)), (stp2, .inl (cI, 1880, .inl fs2))] H := hP
  have hD : va_D A [(h, .inr (4, [.ref g, .ref mk, .ref stp, .int 0, .int 0, .int 0, .int 0, .int 0, .int 9, .int 0, .int (-1), .int 0, .int 0])), (g, .inl (cI, 90, .inl (va_cpy fg2 fg 0 0 90))), (mk, .inl (cI, 12, .inl fm)), (stp, .inl (cI, 1880, .inl fs)), (h2, .inr (4, [.ref g2, .ref mk2, .ref stp2, .int 0, .int 0, .int 0, .int 0, .int 0, .int 9, .int 0, .int (-1), .int 0, .int 0])), (g2, .inl (cI, 90, .inl fg2)), (mk2, .inl (cI, 12, .inl fm2)), (stp2, .inl (cI, 1880, .inl fs2))] := hD
  refine lv_aload_n hx hb dX4_copyFrom_18 rfl (lv_at hl 1 rfl) ?_
  refine va_get (D := G) (ci := 4) (v := .ref mk2) (C := RX4) (T := TX4) (N := 13) hx hb hts iX4 hown hK hP 4 rfl rfl 1 (by decide) (hts _ m_21) (fun _ h9 => h9) rfl dX4_copyFrom_19 ?_
  refine lv_iconst (v := 0) hx hb dX4_copyFrom_22 (by decide) ?_
  refine lv_aload_n hx hb dX4_copyFrom_23 rfl (lv_at hl 0 rfl) ?_
  refine va_get (D := G) (ci := 4) (v := .ref mk) (C := RX4) (T := TX4) (N := 13) hx hb hts iX4 hown hK hP 0 rfl rfl 1 (by decide) (hts _ m_21) (fun _ h9 => h9) rfl dX4_copyFrom_24 ?_
  refine lv_iconst (v := 0) hx hb dX4_copyFrom_27 (by decide) ?_
  refine lv_aload_n hx hb dX4_copyFrom_28 rfl (lv_at hl 0 rfl) ?_
  refine va_get (D := G) (ci := 4) (v := .ref mk) (C := RX4) (T := TX4) (N := 13) hx hb hts iX4 hown hK hP 0 rfl rfl 1 (by decide) (hts _ m_21) (fun _ h9 => h9) rfl dX4_copyFrom_29 ?_
  refine va_alen (D := G) hx hb hK hP 2 0 rfl rfl (v := 12) rfl dX4_copyFrom_32 ?_
  refine va_copyi (D := G) hx hb (by rw [hml]; exact hl.1.symm) hown (hts _ m_34) (hts _ m_35) (hts _ m_36) (hts _ m_37) hK hP hD hS 6 2 0 0 rfl rfl rfl rfl rfl (by decide) (by decide) (by decide) (by decide) (by decide) (fun _ _ => rfl) (Nat.le_of_ble_eq_true rfl) (Nat.le_of_ble_eq_true rfl) dX4_copyFrom_33 (fun H locs hP hD hS => ?_)
  have hP : va_P G vwCl [(h, .inr (4, [.ref g, .ref mk, .ref stp, .int 0, .int 0, .int 0, .int 0, .int 0, .int 9, .int 0, .int (-1), .int 0, .int 0])), (g, .inl (cI, 90, .inl (va_cpy fg2 fg 0 0 90))), (mk, .inl (cI, 12, .inl (va_cpy fm2 fm 0 0 12))), (stp, .inl (cI, 1880, .inl fs)), (h2, .inr (4, [.ref g2, .ref mk2, .ref stp2, .int 0, .int 0, .int 0, .int 0, .int 0, .int 9, .int 0, .int (-1), .int 0, .int 0])), (g2, .inl (cI, 90, .inl fg2)), (mk2, .inl (cI, 12, .inl fm2)), (stp2, .inl (cI, 1880, .inl fs2))] H := hP
  have hD : va_D A [(h, .inr (4, [.ref g, .ref mk, .ref stp, .int 0, .int 0, .int 0, .int 0, .int 0, .int 9, .int 0, .int (-1), .int 0, .int 0])), (g, .inl (cI, 90, .inl (va_cpy fg2 fg 0 0 90))), (mk, .inl (cI, 12, .inl (va_cpy fm2 fm 0 0 12))), (stp, .inl (cI, 1880, .inl fs)), (h2, .inr (4, [.ref g2, .ref mk2, .ref stp2, .int 0, .int 0, .int 0, .int 0, .int 0, .int 9, .int 0, .int (-1), .int 0, .int 0])), (g2, .inl (cI, 90, .inl fg2)), (mk2, .inl (cI, 12, .inl fm2)), (stp2, .inl (cI, 1880, .inl fs2))] := hD
  refine lv_aload_n hx hb dX4_copyFrom_36 rfl (lv_at hl 1 rfl) ?_
  refine va_get (D := G) (ci := 4) (v := .ref stp2) (C := RX4) (T := TX4) (N := 13) hx hb hts iX4 hown hK hP 4 rfl rfl 2 (by decide) (hts _ m_33) (fun _ h9 => h9) rfl dX4_copyFrom_37 ?_
  refine lv_iconst (v := 0) hx hb dX4_copyFrom_40 (by decide) ?_
  refine lv_aload_n hx hb dX4_copyFrom_41 rfl (lv_at hl 0 rfl) ?_
  refine va_get (D := G) (ci := 4) (v := .ref stp) (C := RX4) (T := TX4) (N := 13) hx hb hts iX4 hown hK hP 0 rfl rfl 2 (by decide) (hts _ m_33) (fun _ h9 => h9) rfl dX4_copyFrom_42 ?_
  refine lv_iconst (v := 0) hx hb dX4_copyFrom_45 (by decide) ?_
  refine lv_aload_n hx hb dX4_copyFrom_46 rfl (lv_at hl 0 rfl) ?_
  refine va_get (D := G) (ci := 4) (v := .ref stp) (C := RX4) (T := TX4) (N := 13) hx hb hts iX4 hown hK hP 0 rfl rfl 2 (by decide) (hts _ m_33) (fun _ h9 => h9) rfl dX4_copyFrom_47 ?_
  refine va_alen (D := G) hx hb hK hP 3 0 rfl rfl (v := 1880) rfl dX4_copyFrom_50 ?_
  refine va_copyi (D := G) hx hb (by rw [hml]; exact hl.1.symm) hown (hts _ m_34) (hts _ m_35) (hts _ m_36) (hts _ m_37) hK hP hD hS 7 3 0 0 rfl rfl rfl rfl rfl (by decide) (by decide) (by decide) (by decide) (by decide) (fun _ _ => rfl) (Nat.le_of_ble_eq_true rfl) (Nat.le_of_ble_eq_true rfl) dX4_copyFrom_51 (fun H locs hP hD hS => ?_)
  have hP : va_P G vwCl [(h, .inr (4, [.ref g, .ref mk, .ref stp, .int 0, .int 0, .int 0, .int 0, .int 0, .int 9, .int 0, .int (-1), .int 0, .int 0])), (g, .inl (cI, 90, .inl (va_cpy fg2 fg 0 0 90))), (mk, .inl (cI, 12, .inl (va_cpy fm2 fm 0 0 12))), (stp, .inl (cI, 1880, .inl (va_cpy fs2 fs 0 0 1880))), (h2, .inr (4, [.ref g2, .ref mk2, .ref stp2, .int 0, .int 0, .int 0, .int 0, .int 0, .int 9, .int 0, .int (-1), .int 0, .int 0])), (g2, .inl (cI, 90, .inl fg2)), (mk2, .inl (cI, 12, .inl fm2)), (stp2, .inl (cI, 1880, .inl fs2))] H := hP
  have hD : va_D A [(h, .inr (4, [.ref g, .ref mk, .ref stp, .int 0, .int 0, .int 0, .int 0, .int 0, .int 9, .int 0, .int (-1), .int 0, .int 0])), (g, .inl (cI, 90, .inl (va_cpy fg2 fg 0 0 90))), (mk, .inl (cI, 12, .inl (va_cpy fm2 fm 0 0 12))), (stp, .inl (cI, 1880, .inl (va_cpy fs2 fs 0 0 1880))), (h2, .inr (4, [.ref g2, .ref mk2, .ref stp2, .int 0, .int 0, .int 0, .int 0, .int 0, .int 9, .int 0, .int (-1), .int 0, .int 0])), (g2, .inl (cI, 90, .inl fg2)), (mk2, .inl (cI, 12, .inl fm2)), (stp2, .inl (cI, 1880, .inl fs2))] := hD
  refine lv_aload_n hx hb dX4_copyFrom_54 rfl (lv_at hl 0 rfl) ?_
  refine lv_aload_n hx hb dX4_copyFrom_55 rfl (lv_at hl 1 rfl) ?_
  refine va_get (D := G) (ci := 4) (v := .int 0) (C := RX4) (T := TX4) (N := 13) hx hb hts iX4 hown hK hP 4 rfl rfl 3 (by decide) (hts _ m_0) (fun _ h9 => h9) rfl dX4_copyFrom_56 ?_
  refine va_put (D := G) (ci := 4) (v := .int 0) (ty := .int) (C := RX4) (T := TX4) (N := 13) hx hb hts iX4 tyX4 tyX4_ok nmX4 hown hK hP hD hS 0 rfl rfl 3 (by decide) (hts _ m_0) (fun _ h9 => h9) rfl (tyX4_ok 3 (by decide)) rfl rfl (Nat.le_of_ble_eq_true rfl) dX4_copyFrom_59 (fun H locs hP hD hS => ?_)
  have hP : va_P G vwCl [(h, .inr (4, [.ref g, .ref mk, .ref stp, .int 0, .int 0, .int 0, .int 0, .int 0, .int 9, .int 0, .int (-1), .int 0, .int 0])), (g, .inl (cI, 90, .inl (va_cpy fg2 fg 0 0 90))), (mk, .inl (cI, 12, .inl (va_cpy fm2 fm 0 0 12))), (stp, .inl (cI, 1880, .inl (va_cpy fs2 fs 0 0 1880))), (h2, .inr (4, [.ref g2, .ref mk2, .ref stp2, .int 0, .int 0, .int 0, .int 0, .int 0, .int 9, .int 0, .int (-1), .int 0, .int 0])), (g2, .inl (cI, 90, .inl fg2)), (mk2, .inl (cI, 12, .inl fm2)), (stp2, .inl (cI, 1880, .inl fs2))] H := hP
  have hD : va_D A [(h, .inr (4, [.ref g, .ref mk, .ref stp, .int 0, .int 0, .int 0, .int 0, .int 0, .int 9, .int 0, .int (-1), .int 0, .int 0])), (g, .inl (cI, 90, .inl (va_cpy fg2 fg 0 0 90))), (mk, .inl (cI, 12, .inl (va_cpy fm2 fm 0 0 12))), (stp, .inl (cI, 1880, .inl (va_cpy fs2 fs 0 0 1880))), (h2, .inr (4, [.ref g2, .ref mk2, .ref stp2, .int 0, .int 0, .int 0, .int 0, .int 0, .int 9, .int 0, .int (-1), .int 0, .int 0])), (g2, .inl (cI, 90, .inl fg2)), (mk2, .inl (cI, 12, .inl fm2)), (stp2, .inl (cI, 1880, .inl fs2))] := hD
  refine lv_aload_n hx hb dX4_copyFrom_62 rfl (lv_at hl 0 rfl) ?_
  refine lv_aload_n hx hb dX4_copyFrom_63 rfl (lv_at hl 1 rfl) ?_
  refine va_get (D := G) (ci := 4) (v := .int 0) (C := RX4) (T := TX4) (N := 13) hx hb hts iX4 hown hK hP 4 rfl rfl 4 (by decide) (hts _ m_1) (fun _ h9 => h9) rfl dX4_copyFrom_64 ?_
  refine va_put (D := G) (ci := 4) (v := .int 0) (ty := .int) (C := RX4) (T := TX4) (N := 13) hx hb hts iX4 tyX4 tyX4_ok nmX4 hown hK hP hD hS 0 rfl rfl 4 (by decide) (hts _ m_1) (fun _ h9 => h9) rfl (tyX4_ok 4 (by decide)) rfl rfl (Nat.le_of_ble_eq_true rfl) dX4_copyFrom_67 (fun H locs hP hD hS => ?_)
  have hP : va_P G vwCl [(h, .inr (4, [.ref g, .ref mk, .ref stp, .int 0, .int 0, .int 0, .int 0, .int 0, .int 9, .int 0, .int (-1), .int 0, .int 0])), (g, .inl (cI, 90, .inl (va_cpy fg2 fg 0 0 90))), (mk, .inl (cI, 12, .inl (va_cpy fm2 fm 0 0 12))), (stp, .inl (cI, 1880, .inl (va_cpy fs2 fs 0 0 1880))), (h2, .inr (4, [.ref g2, .ref mk2, .ref stp2, .int 0, .int 0, .int 0, .int 0, .int 0, .int 9, .int 0, .int (-1), .int 0, .int 0])), (g2, .inl (cI, 90, .inl fg2)), (mk2, .inl (cI, 12, .inl fm2)), (stp2, .inl (cI, 1880, .inl fs2))] H := hP
  have hD : va_D A [(h, .inr (4, [.ref g, .ref mk, .ref stp, .int 0, .int 0, .int 0, .int 0, .int 0, .int 9, .int 0, .int (-1), .int 0, .int 0])), (g, .inl (cI, 90, .inl (va_cpy fg2 fg 0 0 90))), (mk, .inl (cI, 12, .inl (va_cpy fm2 fm 0 0 12))), (stp, .inl (cI, 1880, .inl (va_cpy fs2 fs 0 0 1880))), (h2, .inr (4, [.ref g2, .ref mk2, .ref stp2, .int 0, .int 0, .int 0, .int 0, .int 0, .int 9, .int 0, .int (-1), .int 0, .int 0])), (g2, .inl (cI, 90, .inl fg2)), (mk2, .inl (cI, 12, .inl fm2)), (stp2, .inl (cI, 1880, .inl fs2))] := hD
  refine lv_aload_n hx hb dX4_copyFrom_70 rfl (lv_at hl 0 rfl) ?_
  refine lv_aload_n hx hb dX4_copyFrom_71 rfl (lv_at hl 1 rfl) ?_
  refine va_get (D := G) (ci := 4) (v := .int 0) (C := RX4) (T := TX4) (N := 13) hx hb hts iX4 hown hK hP 4 rfl rfl 5 (by decide) (hts _ m_20) (fun _ h9 => h9) rfl dX4_copyFrom_72 ?_
  refine va_put (D := G) (ci := 4) (v := .int 0) (ty := .int) (C := RX4) (T := TX4) (N := 13) hx hb hts iX4 tyX4 tyX4_ok nmX4 hown hK hP hD hS 0 rfl rfl 5 (by decide) (hts _ m_20) (fun _ h9 => h9) rfl (tyX4_ok 5 (by decide)) rfl rfl (Nat.le_of_ble_eq_true rfl) dX4_copyFrom_75 (fun H locs hP hD hS => ?_)
  have hP : va_P G vwCl [(h, .inr (4, [.ref g, .ref mk, .ref stp, .int 0, .int 0, .int 0, .int 0, .int 0, .int 9, .int 0, .int (-1), .int 0, .int 0])), (g, .inl (cI, 90, .inl (va_cpy fg2 fg 0 0 90))), (mk, .inl (cI, 12, .inl (va_cpy fm2 fm 0 0 12))), (stp, .inl (cI, 1880, .inl (va_cpy fs2 fs 0 0 1880))), (h2, .inr (4, [.ref g2, .ref mk2, .ref stp2, .int 0, .int 0, .int 0, .int 0, .int 0, .int 9, .int 0, .int (-1), .int 0, .int 0])), (g2, .inl (cI, 90, .inl fg2)), (mk2, .inl (cI, 12, .inl fm2)), (stp2, .inl (cI, 1880, .inl fs2))] H := hP
  have hD : va_D A [(h, .inr (4, [.ref g, .ref mk, .ref stp, .int 0, .int 0, .int 0, .int 0, .int 0, .int 9, .int 0, .int (-1), .int 0, .int 0])), (g, .inl (cI, 90, .inl (va_cpy fg2 fg 0 0 90))), (mk, .inl (cI, 12, .inl (va_cpy fm2 fm 0 0 12))), (stp, .inl (cI, 1880, .inl (va_cpy fs2 fs 0 0 1880))), (h2, .inr (4, [.ref g2, .ref mk2, .ref stp2, .int 0, .int 0, .int 0, .int 0, .int 0, .int 9, .int 0, .int (-1), .int 0, .int 0])), (g2, .inl (cI, 90, .inl fg2)), (mk2, .inl (cI, 12, .inl fm2)), (stp2, .inl (cI, 1880, .inl fs2))] := hD
  refine lv_aload_n hx hb dX4_copyFrom_78 rfl (lv_at hl 0 rfl) ?_
  refine lv_aload_n hx hb dX4_copyFrom_79 rfl (lv_at hl 1 rfl) ?_
  refine va_get (D := G) (ci := 4) (v := .int 0) (C := RX4) (T := TX4) (N := 13) hx hb hts iX4 hown hK hP 4 rfl rfl 6 (by decide) (hts _ m_11) (fun _ h9 => h9) rfl dX4_copyFrom_80 ?_
  refine va_put (D := G) (ci := 4) (v := .int 0) (ty := .int) (C := RX4) (T := TX4) (N := 13) hx hb hts iX4 tyX4 tyX4_ok nmX4 hown hK hP hD hS 0 rfl rfl 6 (by decide) (hts _ m_11) (fun _ h9 => h9) rfl (tyX4_ok 6 (by decide)) rfl rfl (Nat.le_of_ble_eq_true rfl) dX4_copyFrom_83 (fun H locs hP hD hS => ?_)
  have hP : va_P G vwCl [(h, .inr (4, [.ref g, .ref mk, .ref stp, .int 0, .int 0, .int 0, .int 0, .int 0, .int 9, .int 0, .int (-1), .int 0, .int 0])), (g, .inl (cI, 90, .inl (va_cpy fg2 fg 0 0 90))), (mk, .inl (cI, 12, .inl (va_cpy fm2 fm 0 0 12))), (stp, .inl (cI, 1880, .inl (va_cpy fs2 fs 0 0 1880))), (h2, .inr (4, [.ref g2, .ref mk2, .ref stp2, .int 0, .int 0, .int 0, .int 0, .int 0, .int 9, .int 0, .int (-1), .int 0, .int 0])), (g2, .inl (cI, 90, .inl fg2)), (mk2, .inl (cI, 12, .inl fm2)), (stp2, .inl (cI, 1880, .inl fs2))] H := hP
  have hD : va_D A [(h, .inr (4, [.ref g, .ref mk, .ref stp, .int 0, .int 0, .int 0, .int 0, .int 0, .int 9, .int 0, .int (-1), .int 0, .int 0])), (g, .inl (cI, 90, .inl (va_cpy fg2 fg 0 0 90))), (mk, .inl (cI, 12, .inl (va_cpy fm2 fm 0 0 12))), (stp, .inl (cI, 1880, .inl (va_cpy fs2 fs 0 0 1880))), (h2, .inr (4, [.ref g2, .ref mk2, .ref stp2, .int 0, .int 0, .int 0, .int 0, .int 0, .int 9, .int 0, .int (-1), .int 0, .int 0])), (g2, .inl (cI, 90, .inl fg2)), (mk2, .inl (cI, 12, .inl fm2)), (stp2, .inl (cI, 1880, .inl fs2))] := hD
  refine lv_aload_n hx hb dX4_copyFrom_86 rfl (lv_at hl 0 rfl) ?_
  refine lv_aload_n hx hb dX4_copyFrom_87 rfl (lv_at hl 1 rfl) ?_
  refine va_get (D := G) (ci := 4) (v := .int 0) (C := RX4) (T := TX4) (N := 13) hx hb hts iX4 hown hK hP 4 rfl rfl 7 (by decide) (hts _ m_38) (fun _ h9 => h9) rfl dX4_copyFrom_88 ?_
  refine va_put (D := G) (ci := 4) (v := .int 0) (ty := .int) (C := RX4) (T := TX4) (N := 13) hx hb hts iX4 tyX4 tyX4_ok nmX4 hown hK hP hD hS 0 rfl rfl 7 (by decide) (hts _ m_38) (fun _ h9 => h9) rfl (tyX4_ok 7 (by decide)) rfl rfl (Nat.le_of_ble_eq_true rfl) dX4_copyFrom_91 (fun H locs hP hD hS => ?_)
  have hP : va_P G vwCl [(h, .inr (4, [.ref g, .ref mk, .ref stp, .int 0, .int 0, .int 0, .int 0, .int 0, .int 9, .int 0, .int (-1), .int 0, .int 0])), (g, .inl (cI, 90, .inl (va_cpy fg2 fg 0 0 90))), (mk, .inl (cI, 12, .inl (va_cpy fm2 fm 0 0 12))), (stp, .inl (cI, 1880, .inl (va_cpy fs2 fs 0 0 1880))), (h2, .inr (4, [.ref g2, .ref mk2, .ref stp2, .int 0, .int 0, .int 0, .int 0, .int 0, .int 9, .int 0, .int (-1), .int 0, .int 0])), (g2, .inl (cI, 90, .inl fg2)), (mk2, .inl (cI, 12, .inl fm2)), (stp2, .inl (cI, 1880, .inl fs2))] H := hP
  have hD : va_D A [(h, .inr (4, [.ref g, .ref mk, .ref stp, .int 0, .int 0, .int 0, .int 0, .int 0, .int 9, .int 0, .int (-1), .int 0, .int 0])), (g, .inl (cI, 90, .inl (va_cpy fg2 fg 0 0 90))), (mk, .inl (cI, 12, .inl (va_cpy fm2 fm 0 0 12))), (stp, .inl (cI, 1880, .inl (va_cpy fs2 fs 0 0 1880))), (h2, .inr (4, [.ref g2, .ref mk2, .ref stp2, .int 0, .int 0, .int 0, .int 0, .int 0, .int 9, .int 0, .int (-1), .int 0, .int 0])), (g2, .inl (cI, 90, .inl fg2)), (mk2, .inl (cI, 12, .inl fm2)), (stp2, .inl (cI, 1880, .inl fs2))] := hD
  refine lv_aload_n hx hb dX4_copyFrom_94 rfl (lv_at hl 0 rfl) ?_
  refine lv_aload_n hx hb dX4_copyFrom_95 rfl (lv_at hl 1 rfl) ?_
  refine va_get (D := G) (ci := 4) (v := .int 9) (C := RX4) (T := TX4) (N := 13) hx hb hts iX4 hown hK hP 4 rfl rfl 8 (by decide) (hts _ m_39) (fun _ h9 => h9) rfl dX4_copyFrom_96 ?_
  refine va_put (D := G) (ci := 4) (v := .int 9) (ty := .int) (C := RX4) (T := TX4) (N := 13) hx hb hts iX4 tyX4 tyX4_ok nmX4 hown hK hP hD hS 0 rfl rfl 8 (by decide) (hts _ m_39) (fun _ h9 => h9) rfl (tyX4_ok 8 (by decide)) rfl rfl (Nat.le_of_ble_eq_true rfl) dX4_copyFrom_99 (fun H locs hP hD hS => ?_)
  have hP : va_P G vwCl [(h, .inr (4, [.ref g, .ref mk, .ref stp, .int 0, .int 0, .int 0, .int 0, .int 0, .int 9, .int 0, .int (-1), .int 0, .int 0])), (g, .inl (cI, 90, .inl (va_cpy fg2 fg 0 0 90))), (mk, .inl (cI, 12, .inl (va_cpy fm2 fm 0 0 12))), (stp, .inl (cI, 1880, .inl (va_cpy fs2 fs 0 0 1880))), (h2, .inr (4, [.ref g2, .ref mk2, .ref stp2, .int 0, .int 0, .int 0, .int 0, .int 0, .int 9, .int 0, .int (-1), .int 0, .int 0])), (g2, .inl (cI, 90, .inl fg2)), (mk2, .inl (cI, 12, .inl fm2)), (stp2, .inl (cI, 1880, .inl fs2))] H := hP
  have hD : va_D A [(h, .inr (4, [.ref g, .ref mk, .ref stp, .int 0, .int 0, .int 0, .int 0, .int 0, .int 9, .int 0, .int (-1), .int 0, .int 0])), (g, .inl (cI, 90, .inl (va_cpy fg2 fg 0 0 90))), (mk, .inl (cI, 12, .inl (va_cpy fm2 fm 0 0 12))), (stp, .inl (cI, 1880, .inl (va_cpy fs2 fs 0 0 1880))), (h2, .inr (4, [.ref g2, .ref mk2, .ref stp2, .int 0, .int 0, .int 0, .int 0, .int 0, .int 9, .int 0, .int (-1), .int 0, .int 0])), (g2, .inl (cI, 90, .inl fg2)), (mk2, .inl (cI, 12, .inl fm2)), (stp2, .inl (cI, 1880, .inl fs2))] := hD
  refine lv_aload_n hx hb dX4_copyFrom_102 rfl (lv_at hl 0 rfl) ?_
  refine lv_aload_n hx hb dX4_copyFrom_103 rfl (lv_at hl 1 rfl) ?_
  refine va_get (D := G) (ci := 4) (v := .int 0) (C := RX4) (T := TX4) (N := 13) hx hb hts iX4 hown hK hP 4 rfl rfl 9 (by decide) (hts _ m_40) (fun _ h9 => h9) rfl dX4_copyFrom_104 ?_
  refine va_put (D := G) (ci := 4) (v := .int 0) (ty := .int) (C := RX4) (T := TX4) (N := 13) hx hb hts iX4 tyX4 tyX4_ok nmX4 hown hK hP hD hS 0 rfl rfl 9 (by decide) (hts _ m_40) (fun _ h9 => h9) rfl (tyX4_ok 9 (by decide)) rfl rfl (Nat.le_of_ble_eq_true rfl) dX4_copyFrom_107 (fun H locs hP hD hS => ?_)
  have hP : va_P G vwCl [(h, .inr (4, [.ref g, .ref mk, .ref stp, .int 0, .int 0, .int 0, .int 0, .int 0, .int 9, .int 0, .int (-1), .int 0, .int 0])), (g, .inl (cI, 90, .inl (va_cpy fg2 fg 0 0 90))), (mk, .inl (cI, 12, .inl (va_cpy fm2 fm 0 0 12))), (stp, .inl (cI, 1880, .inl (va_cpy fs2 fs 0 0 1880))), (h2, .inr (4, [.ref g2, .ref mk2, .ref stp2, .int 0, .int 0, .int 0, .int 0, .int 0, .int 9, .int 0, .int (-1), .int 0, .int 0])), (g2, .inl (cI, 90, .inl fg2)), (mk2, .inl (cI, 12, .inl fm2)), (stp2, .inl (cI, 1880, .inl fs2))] H := hP
  have hD : va_D A [(h, .inr (4, [.ref g, .ref mk, .ref stp, .int 0, .int 0, .int 0, .int 0, .int 0, .int 9, .int 0, .int (-1), .int 0, .int 0])), (g, .inl (cI, 90, .inl (va_cpy fg2 fg 0 0 90))), (mk, .inl (cI, 12, .inl (va_cpy fm2 fm 0 0 12))), (stp, .inl (cI, 1880, .inl (va_cpy fs2 fs 0 0 1880))), (h2, .inr (4, [.ref g2, .ref mk2, .ref stp2, .int 0, .int 0, .int 0, .int 0, .int 0, .int 9, .int 0, .int (-1), .int 0, .int 0])), (g2, .inl (cI, 90, .inl fg2)), (mk2, .inl (cI, 12, .inl fm2)), (stp2, .inl (cI, 1880, .inl fs2))] := hD
  refine lv_aload_n hx hb dX4_copyFrom_110 rfl (lv_at hl 0 rfl) ?_
  refine lv_aload_n hx hb dX4_copyFrom_111 rfl (lv_at hl 1 rfl) ?_
  refine va_get (D := G) (ci := 4) (v := .int (-1)) (C := RX4) (T := TX4) (N := 13) hx hb hts iX4 hown hK hP 4 rfl rfl 10 (by decide) (hts _ m_41) (fun _ h9 => h9) rfl dX4_copyFrom_112 ?_
  refine va_put (D := G) (ci := 4) (v := .int (-1)) (ty := .int) (C := RX4) (T := TX4) (N := 13) hx hb hts iX4 tyX4 tyX4_ok nmX4 hown hK hP hD hS 0 rfl rfl 10 (by decide) (hts _ m_41) (fun _ h9 => h9) rfl (tyX4_ok 10 (by decide)) rfl rfl (Nat.le_of_ble_eq_true rfl) dX4_copyFrom_115 (fun H locs hP hD hS => ?_)
  have hP : va_P G vwCl [(h, .inr (4, [.ref g, .ref mk, .ref stp, .int 0, .int 0, .int 0, .int 0, .int 0, .int 9, .int 0, .int (-1), .int 0, .int 0])), (g, .inl (cI, 90, .inl (va_cpy fg2 fg 0 0 90))), (mk, .inl (cI, 12, .inl (va_cpy fm2 fm 0 0 12))), (stp, .inl (cI, 1880, .inl (va_cpy fs2 fs 0 0 1880))), (h2, .inr (4, [.ref g2, .ref mk2, .ref stp2, .int 0, .int 0, .int 0, .int 0, .int 0, .int 9, .int 0, .int (-1), .int 0, .int 0])), (g2, .inl (cI, 90, .inl fg2)), (mk2, .inl (cI, 12, .inl fm2)), (stp2, .inl (cI, 1880, .inl fs2))] H := hP
  have hD : va_D A [(h, .inr (4, [.ref g, .ref mk, .ref stp, .int 0, .int 0, .int 0, .int 0, .int 0, .int 9, .int 0, .int (-1), .int 0, .int 0])), (g, .inl (cI, 90, .inl (va_cpy fg2 fg 0 0 90))), (mk, .inl (cI, 12, .inl (va_cpy fm2 fm 0 0 12))), (stp, .inl (cI, 1880, .inl (va_cpy fs2 fs 0 0 1880))), (h2, .inr (4, [.ref g2, .ref mk2, .ref stp2, .int 0, .int 0, .int 0, .int 0, .int 0, .int 9, .int 0, .int (-1), .int 0, .int 0])), (g2, .inl (cI, 90, .inl fg2)), (mk2, .inl (cI, 12, .inl fm2)), (stp2, .inl (cI, 1880, .inl fs2))] := hD
  refine lv_aload_n hx hb dX4_copyFrom_118 rfl (lv_at hl 0 rfl) ?_
  refine lv_aload_n hx hb dX4_copyFrom_119 rfl (lv_at hl 1 rfl) ?_
  refine va_get (D := G) (ci := 4) (v := .int 0) (C := RX4) (T := TX4) (N := 13) hx hb hts iX4 hown hK hP 4 rfl rfl 11 (by decide) (hts _ m_22) (fun _ h9 => h9) rfl dX4_copyFrom_120 ?_
  refine va_put (D := G) (ci := 4) (v := .int 0) (ty := .int) (C := RX4) (T := TX4) (N := 13) hx hb hts iX4 tyX4 tyX4_ok nmX4 hown hK hP hD hS 0 rfl rfl 11 (by decide) (hts _ m_22) (fun _ h9 => h9) rfl (tyX4_ok 11 (by decide)) rfl rfl (Nat.le_of_ble_eq_true rfl) dX4_copyFrom_123 (fun H locs hP hD hS => ?_)
  have hP : va_P G vwCl [(h, .inr (4, [.ref g, .ref mk, .ref stp, .int 0, .int 0, .int 0, .int 0, .int 0, .int 9, .int 0, .int (-1), .int 0, .int 0])), (g, .inl (cI, 90, .inl (va_cpy fg2 fg 0 0 90))), (mk, .inl (cI, 12, .inl (va_cpy fm2 fm 0 0 12))), (stp, .inl (cI, 1880, .inl (va_cpy fs2 fs 0 0 1880))), (h2, .inr (4, [.ref g2, .ref mk2, .ref stp2, .int 0, .int 0, .int 0, .int 0, .int 0, .int 9, .int 0, .int (-1), .int 0, .int 0])), (g2, .inl (cI, 90, .inl fg2)), (mk2, .inl (cI, 12, .inl fm2)), (stp2, .inl (cI, 1880, .inl fs2))] H := hP
  have hD : va_D A [(h, .inr (4, [.ref g, .ref mk, .ref stp, .int 0, .int 0, .int 0, .int 0, .int 0, .int 9, .int 0, .int (-1), .int 0, .int 0])), (g, .inl (cI, 90, .inl (va_cpy fg2 fg 0 0 90))), (mk, .inl (cI, 12, .inl (va_cpy fm2 fm 0 0 12))), (stp, .inl (cI, 1880, .inl (va_cpy fs2 fs 0 0 1880))), (h2, .inr (4, [.ref g2, .ref mk2, .ref stp2, .int 0, .int 0, .int 0, .int 0, .int 0, .int 9, .int 0, .int (-1), .int 0, .int 0])), (g2, .inl (cI, 90, .inl fg2)), (mk2, .inl (cI, 12, .inl fm2)), (stp2, .inl (cI, 1880, .inl fs2))] := hD
  refine lv_aload_n hx hb dX4_copyFrom_126 rfl (lv_at hl 0 rfl) ?_
  refine lv_aload_n hx hb dX4_copyFrom_127 rfl (lv_at hl 1 rfl) ?_
  refine va_get (D := G) (ci := 4) (v := .int 0) (C := RX4) (T := TX4) (N := 13) hx hb hts iX4 hown hK hP 4 rfl rfl 12 (by decide) (hts _ m_23) (fun _ h9 => h9) rfl dX4_copyFrom_128 ?_
  refine va_put (D := G) (ci := 4) (v := .int 0) (ty := .int) (C := RX4) (T := TX4) (N := 13) hx hb hts iX4 tyX4 tyX4_ok nmX4 hown hK hP hD hS 0 rfl rfl 12 (by decide) (hts _ m_23) (fun _ h9 => h9) rfl (tyX4_ok 12 (by decide)) rfl rfl (Nat.le_of_ble_eq_true rfl) dX4_copyFrom_131 (fun H locs hP hD hS => ?_)
  have hP : va_P G vwCl [(h, .inr (4, [.ref g, .ref mk, .ref stp, .int 0, .int 0, .int 0, .int 0, .int 0, .int 9, .int 0, .int (-1), .int 0, .int 0])), (g, .inl (cI, 90, .inl (va_cpy fg2 fg 0 0 90))), (mk, .inl (cI, 12, .inl (va_cpy fm2 fm 0 0 12))), (stp, .inl (cI, 1880, .inl (va_cpy fs2 fs 0 0 1880))), (h2, .inr (4, [.ref g2, .ref mk2, .ref stp2, .int 0, .int 0, .int 0, .int 0, .int 0, .int 9, .int 0, .int (-1), .int 0, .int 0])), (g2, .inl (cI, 90, .inl fg2)), (mk2, .inl (cI, 12, .inl fm2)), (stp2, .inl (cI, 1880, .inl fs2))] H := hP
  have hD : va_D A [(h, .inr (4, [.ref g, .ref mk, .ref stp, .int 0, .int 0, .int 0, .int 0, .int 0, .int 9, .int 0, .int (-1), .int 0, .int 0])), (g, .inl (cI, 90, .inl (va_cpy fg2 fg 0 0 90))), (mk, .inl (cI, 12, .inl (va_cpy fm2 fm 0 0 12))), (stp, .inl (cI, 1880, .inl (va_cpy fs2 fs 0 0 1880))), (h2, .inr (4, [.ref g2, .ref mk2, .ref stp2, .int 0, .int 0, .int 0, .int 0, .int 0, .int 9, .int 0, .int (-1), .int 0, .int 0])), (g2, .inl (cI, 90, .inl fg2)), (mk2, .inl (cI, 12, .inl fm2)), (stp2, .inl (cI, 1880, .inl fs2))] := hD
  exact gw_vret () hx hb hr hlocks hP hD hS trivial dX4_copyFrom_134
