set_option maxHeartbeats 4000000 in
set_option maxRecDepth 100000 in
/-- no goose: -1 -/
theorem c_ofGoose0 (l : Launch) (G : va_G) (cI cJ cZ cB cT : ClassId) (h : Nat) (g : Nat) (mk : Nat) (stp : Nat) (mc : Int32) (gr : Int32) (mo : Int32) (dy : Int32) (xx : Int32) (tc : Int32) (ru : Int32) (fi : Int32) (sc : Int32) (fg : Nat → Int32) (fm : Nat → Int32) (fs : Nat → Int32) (p1 : Int32) (p2 : Int32)  : gMi l yX4_ofGoose (gws yX4_ofGoose cX4_ofGoose 3 (some .int)) 1 G (gT cI cJ cZ cB cT) [.ref h, .int p1, .int p2] [(h, .inr (4, [.ref g, .ref mk, .ref stp, .int 0, .int mc, .int gr, .int mo, .int dy, .int xx, .int tc, .int ru, .int fi, .int sc])), (g, .inl (cI, 90, .inl fg)), (mk, .inl (cI, 12, .inl fm)), (stp, .inl (cI, 1880, .inl fs))] (fun r (_ : Unit) => r = (-1)) (fun (_ : Unit) => ([(h, .inr (4, [.ref g, .ref mk, .ref stp, .int 0, .int mc, .int gr, .int mo, .int dy, .int xx, .int tc, .int ru, .int fi, .int sc])), (g, .inl (cI, 90, .inl fg)), (mk, .inl (cI, 12, .inl fm)), (stp, .inl (cI, 1880, .inl fs))] : va_W)) := by
  intro sz
  refine gM_start (y := yX4_ofGoose) (av := [.ref h, .int p1, .int p2]) (ws := [(h, .inr (4, [.ref g, .ref mk, .ref stp, .int 0, .int mc, .int gr, .int mo, .int dy, .int xx, .int tc, .int ru, .int fi, .int sc])), (g, .inl (cI, 90, .inl fg)), (mk, .inl (cI, 12, .inl fm)), (stp, .inl (cI, 1880, .inl fs))]) (Qf := fun A => va_Qi (fun r (_ : Unit) => r = (-1)) (gB G (fun (_ : Unit) => ([(h, .inr (4, [.ref g, .ref mk, .ref stp, .int 0, .int mc, .int gr, .int mo, .int dy, .int xx, .int tc, .int ru, .int fi, .int sc])), (g, .inl (cI, 90, .inl fg)), (mk, .inl (cI, 12, .inl fm)), (stp, .inl (cI, 1880, .inl fs))] : va_W)) A) A) (cc := cX4_ofGoose) (maxL := 3) (ret := (some .int)) (by decide) (Nat.le_of_ble_eq_true rfl) ?_
  intro p e s m args below meth c A ls H hx hb hr hts hown hin hlocks hml hP hK hD hA hS hl
  have hl : lv_has ls 3 [(0, .ref h), (1, .int p1), (2, .int p2)] := hl
  refine lv_iload_n hx hb dX4_ofGoose_0 rfl (lv_at hl 1 rfl) ?_
  refine lv_if_lt (tgt := 28) hx hb dX4_ofGoose_1 (by decide) (fun c_1 => ?_) (fun c_1 => ?_)
  · refine lv_iconst (v := (-1)) hx hb dX4_ofGoose_28 (by decide) ?_
    exact gw_iret () hx hb hr hlocks hP hD hS rfl dX4_ofGoose_29
  · refine lv_iload_n hx hb dX4_ofGoose_4 rfl (lv_at hl 1 rfl) ?_
    refine lv_aload_n hx hb dX4_ofGoose_5 rfl (lv_at hl 0 rfl) ?_
    refine va_get (D := G) (ci := 4) (v := .int 0) (C := RX4) (T := TX4) (N := 13) hx hb hts iX4 hown hK hP 0 rfl rfl 3 (by decide) (hts _ m_0) (fun _ h9 => h9) rfl dX4_ofGoose_6 ?_
    refine lv_icmp_ge (tgt := 28) hx hb dX4_ofGoose_9 (by decide) (fun _ => ?_) (fun c => absurd (gi_le (by have := gi_of_nlt c_1; have : (0 : Int32).toInt = 0 := (by decide); omega)) c)
    refine lv_iconst (v := (-1)) hx hb dX4_ofGoose_28 (by decide) ?_
    exact gw_iret () hx hb hr hlocks hP hD hS rfl dX4_ofGoose_29
set_option maxHeartbeats 4000000 in
set_option maxRecDepth 100000 in
/-- no goose: false -/
theorem c_hasGoose0 (l : Launch) (G : va_G) (cI cJ cZ cB cT : ClassId) (h : Nat) (g : Nat) (mk : Nat) (stp : Nat) (mc : Int32) (gr : Int32) (mo : Int32) (dy : Int32) (xx : Int32) (tc : Int32) (ru : Int32) (fi : Int32) (sc : Int32) (fg : Nat → Int32) (fm : Nat → Int32) (fs : Nat → Int32) (p1 : Int32)  : gMi l yX4_hasGoose (gws yX4_hasGoose cX4_hasGoose 2 (some .boolean)) 1 G (gT cI cJ cZ cB cT) [.ref h, .int p1] [(h, .inr (4, [.ref g, .ref mk, .ref stp, .int 0, .int mc, .int gr, .int mo, .int dy, .int xx, .int tc, .int ru, .int fi, .int sc])), (g, .inl (cI, 90, .inl fg)), (mk, .inl (cI, 12, .inl fm)), (stp, .inl (cI, 1880, .inl fs))] (fun r (_ : Unit) => r = 0) (fun (_ : Unit) => ([(h, .inr (4, [.ref g, .ref mk, .ref stp, .int 0, .int mc, .int gr, .int mo, .int dy, .int xx, .int tc, .int ru, .int fi, .int sc])), (g, .inl (cI, 90, .inl fg)), (mk, .inl (cI, 12, .inl fm)), (stp, .inl (cI, 1880, .inl fs))] : va_W)) := by
  intro sz
  refine gM_start (y := yX4_hasGoose) (av := [.ref h, .int p1]) (ws := [(h, .inr (4, [.ref g, .ref mk, .ref stp, .int 0, .int mc, .int gr, .int mo, .int dy, .int xx, .int tc, .int ru, .int fi, .int sc])), (g, .inl (cI, 90, .inl fg)), (mk, .inl (cI, 12, .inl fm)), (stp, .inl (cI, 1880, .inl fs))]) (Qf := fun A => va_Qi (fun r (_ : Unit) => r = 0) (gB G (fun (_ : Unit) => ([(h, .inr (4, [.ref g, .ref mk, .ref stp, .int 0, .int mc, .int gr, .int mo, .int dy, .int xx, .int tc, .int ru, .int fi, .int sc])), (g, .inl (cI, 90, .inl fg)), (mk, .inl (cI, 12, .inl fm)), (stp, .inl (cI, 1880, .inl fs))] : va_W)) A) A) (cc := cX4_hasGoose) (maxL := 2) (ret := (some .boolean)) (by decide) (Nat.le_of_ble_eq_true rfl) ?_
  intro p e s m args below meth c A ls H hx hb hr hts hown hin hlocks hml hP hK hD hA hS hl
  have hl : lv_has ls 2 [(0, .ref h), (1, .int p1)] := hl
  refine lv_iload_n hx hb dX4_hasGoose_0 rfl (lv_at hl 1 rfl) ?_
  refine lv_if_lt (tgt := 22) hx hb dX4_hasGoose_1 (by decide) (fun c_1 => ?_) (fun c_1 => ?_)
  · refine lv_iconst (v := 0) hx hb dX4_hasGoose_22 (by decide) ?_
    exact gw_zret () hx hb hr hlocks rfl hP hD hS rfl dX4_hasGoose_23
  · refine lv_iload_n hx hb dX4_hasGoose_4 rfl (lv_at hl 1 rfl) ?_
    refine lv_aload_n hx hb dX4_hasGoose_5 rfl (lv_at hl 0 rfl) ?_
    refine va_get (D := G) (ci := 4) (v := .int 0) (C := RX4) (T := TX4) (N := 13) hx hb hts iX4 hown hK hP 0 rfl rfl 3 (by decide) (hts _ m_0) (fun _ h9 => h9) rfl dX4_hasGoose_6 ?_
    refine lv_icmp_ge (tgt := 22) hx hb dX4_hasGoose_9 (by decide) (fun _ => ?_) (fun c => absurd (gi_le (by have := gi_of_nlt c_1; have : (0 : Int32).toInt = 0 := (by decide); omega)) c)
    refine lv_iconst (v := 0) hx hb dX4_hasGoose_22 (by decide) ?_
    exact gw_zret () hx hb hr hlocks rfl hP hD hS rfl dX4_hasGoose_23
set_option maxHeartbeats 4000000 in
set_option maxRecDepth 100000 in
/-- no market: false -/
theorem c_hasMarket0 (l : Launch) (G : va_G) (cI cJ cZ cB cT : ClassId) (h : Nat) (g : Nat) (mk : Nat) (stp : Nat) (gc : Int32) (gr : Int32) (mo : Int32) (dy : Int32) (xx : Int32) (tc : Int32) (ru : Int32) (fi : Int32) (sc : Int32) (fg : Nat → Int32) (fm : Nat → Int32) (fs : Nat → Int32) (p1 : Int32)  : gMi l yX4_hasMarket (gws yX4_hasMarket cX4_hasMarket 2 (some .boolean)) 1 G (gT cI cJ cZ cB cT) [.ref h, .int p1] [(h, .inr (4, [.ref g, .ref mk, .ref stp, .int gc, .int 0, .int gr, .int mo, .int dy, .int xx, .int tc, .int ru, .int fi, .int sc])), (g, .inl (cI, 90, .inl fg)), (mk, .inl (cI, 12, .inl fm)), (stp, .inl (cI, 1880, .inl fs))] (fun r (_ : Unit) => r = 0) (fun (_ : Unit) => ([(h, .inr (4, [.ref g, .ref mk, .ref stp, .int gc, .int 0, .int gr, .int mo, .int dy, .int xx, .int tc, .int ru, .int fi, .int sc])), (g, .inl (cI, 90, .inl fg)), (mk, .inl (cI, 12, .inl fm)), (stp, .inl (cI, 1880, .inl fs))] : va_W)) := by
  intro sz
  refine gM_start (y := yX4_hasMarket) (av := [.ref h, .int p1]) (ws := [(h, .inr (4, [.ref g, .ref mk, .ref stp, .int gc, .int 0, .int gr, .int mo, .int dy, .int xx, .int tc, .int ru, .int fi, .int sc])), (g, .inl (cI, 90, .inl fg)), (mk, .inl (cI, 12, .inl fm)), (stp, .inl (cI, 1880, .inl fs))]) (Qf := fun A => va_Qi (fun r (_ : Unit) => r = 0) (gB G (fun (_ : Unit) => ([(h, .inr (4, [.ref g, .ref mk, .ref stp, .int gc, .int 0, .int gr, .int mo, .int dy, .int xx, .int tc, .int ru, .int fi, .int sc])), (g, .inl (cI, 90, .inl fg)), (mk, .inl (cI, 12, .inl fm)), (stp, .inl (cI, 1880, .inl fs))] : va_W)) A) A) (cc := cX4_hasMarket) (maxL := 2) (ret := (some .boolean)) (by decide) (Nat.le_of_ble_eq_true rfl) ?_
  intro p e s m args below meth c A ls H hx hb hr hts hown hin hlocks hml hP hK hD hA hS hl
  have hl : lv_has ls 2 [(0, .ref h), (1, .int p1)] := hl
  refine lv_iload_n hx hb dX4_hasMarket_0 rfl (lv_at hl 1 rfl) ?_
  refine lv_if_lt (tgt := 21) hx hb dX4_hasMarket_1 (by decide) (fun c_1 => ?_) (fun c_1 => ?_)
  · refine lv_iconst (v := 0) hx hb dX4_hasMarket_21 (by decide) ?_
    exact gw_zret () hx hb hr hlocks rfl hP hD hS rfl dX4_hasMarket_22
  · refine lv_iload_n hx hb dX4_hasMarket_4 rfl (lv_at hl 1 rfl) ?_
    refine lv_aload_n hx hb dX4_hasMarket_5 rfl (lv_at hl 0 rfl) ?_
    refine va_get (D := G) (ci := 4) (v := .int 0) (C := RX4) (T := TX4) (N := 13) hx hb hts iX4 hown hK hP 0 rfl rfl 4 (by decide) (hts _ m_1) (fun _ h9 => h9) rfl dX4_hasMarket_6 ?_
    refine lv_icmp_ge (tgt := 21) hx hb dX4_hasMarket_9 (by decide) (fun _ => ?_) (fun c => absurd (gi_le (by have := gi_of_nlt c_1; have : (0 : Int32).toInt = 0 := (by decide); omega)) c)
    refine lv_iconst (v := 0) hx hb dX4_hasMarket_21 (by decide) ?_
    exact gw_zret () hx hb hr hlocks rfl hP hD hS rfl dX4_hasMarket_22
set_option maxHeartbeats 4000000 in
set_option maxRecDepth 100000 in
/-- no market: 0 -/
theorem c_ofMarket0 (l : Launch) (G : va_G) (cI cJ cZ cB cT : ClassId) (h : Nat) (g : Nat) (mk : Nat) (stp : Nat) (gc : Int32) (gr : Int32) (mo : Int32) (dy : Int32) (xx : Int32) (tc : Int32) (ru : Int32) (fi : Int32) (sc : Int32) (fg : Nat → Int32) (fm : Nat → Int32) (fs : Nat → Int32) (p1 : Int32) (p2 : Int32)  : gMi l yX4_ofMarket (gws yX4_ofMarket cX4_ofMarket 3 (some .int)) 1 G (gT cI cJ cZ cB cT) [.ref h, .int p1, .int p2] [(h, .inr (4, [.ref g, .ref mk, .ref stp, .int gc, .int 0, .int gr, .int mo, .int dy, .int xx, .int tc, .int ru, .int fi, .int sc])), (g, .inl (cI, 90, .inl fg)), (mk, .inl (cI, 12, .inl fm)), (stp, .inl (cI, 1880, .inl fs))] (fun r (_ : Unit) => r = 0) (fun (_ : Unit) => ([(h, .inr (4, [.ref g, .ref mk, .ref stp, .int gc, .int 0, .int gr, .int mo, .int dy, .int xx, .int tc, .int ru, .int fi, .int sc])), (g, .inl (cI, 90, .inl fg)), (mk, .inl (cI, 12, .inl fm)), (stp, .inl (cI, 1880, .inl fs))] : va_W)) := by
  intro sz
  refine gM_start (y := yX4_ofMarket) (av := [.ref h, .int p1, .int p2]) (ws := [(h, .inr (4, [.ref g, .ref mk, .ref stp, .int gc, .int 0, .int gr, .int mo, .int dy, .int xx, .int tc, .int ru, .int fi, .int sc])), (g, .inl (cI, 90, .inl fg)), (mk, .inl (cI, 12, .inl fm)), (stp, .inl (cI, 1880, .inl fs))]) (Qf := fun A => va_Qi (fun r (_ : Unit) => r = 0) (gB G (fun (_ : Unit) => ([(h, .inr (4, [.ref g, .ref mk, .ref stp, .int gc, .int 0, .int gr, .int mo, .int dy, .int xx, .int tc, .int ru, .int fi, .int sc])), (g, .inl (cI, 90, .inl fg)), (mk, .inl (cI, 12, .inl fm)), (stp, .inl (cI, 1880, .inl fs))] : va_W)) A) A) (cc := cX4_ofMarket) (maxL := 3) (ret := (some .int)) (by decide) (Nat.le_of_ble_eq_true rfl) ?_
  intro p e s m args below meth c A ls H hx hb hr hts hown hin hlocks hml hP hK hD hA hS hl
  have hl : lv_has ls 3 [(0, .ref h), (1, .int p1), (2, .int p2)] := hl
  refine lv_iload_n hx hb dX4_ofMarket_0 rfl (lv_at hl 1 rfl) ?_
  refine lv_if_lt (tgt := 26) hx hb dX4_ofMarket_1 (by decide) (fun c_1 => ?_) (fun c_1 => ?_)
  · refine lv_iconst (v := 0) hx hb dX4_ofMarket_26 (by decide) ?_
    exact gw_iret () hx hb hr hlocks hP hD hS rfl dX4_ofMarket_27
  · refine lv_iload_n hx hb dX4_ofMarket_4 rfl (lv_at hl 1 rfl) ?_
    refine lv_aload_n hx hb dX4_ofMarket_5 rfl (lv_at hl 0 rfl) ?_
    refine va_get (D := G) (ci := 4) (v := .int 0) (C := RX4) (T := TX4) (N := 13) hx hb hts iX4 hown hK hP 0 rfl rfl 4 (by decide) (hts _ m_1) (fun _ h9 => h9) rfl dX4_ofMarket_6 ?_
    refine lv_icmp_ge (tgt := 26) hx hb dX4_ofMarket_9 (by decide) (fun _ => ?_) (fun c => absurd (gi_le (by have := gi_of_nlt c_1; have : (0 : Int32).toInt = 0 := (by decide); omega)) c)
    refine lv_iconst (v := 0) hx hb dX4_ofMarket_26 (by decide) ?_
    exact gw_iret () hx hb hr hlocks hP hD hS rfl dX4_ofMarket_27
theorem e_X4_ofGoose : yX4_ofGoose.cls = RX4 ∧ yX4_ofGoose.cls ≠ "java/lang/invoke/MethodHandle" ∧ yX4_ofGoose.cls ≠ "java/lang/invoke/VarHandle" ∧ (parseMethodDescriptor yX4_ofGoose.desc).map (fun d => d.parameters.length) = some 2 := by decide +kernel
set_option maxHeartbeats 4000000 in
set_option maxRecDepth 100000 in
/-- no goose: false -/
theorem c_isHome0 (l : Launch) (G : va_G) (cI cJ cZ cB cT : ClassId) (h : Nat) (g : Nat) (mk : Nat) (stp : Nat) (mc : Int32) (gr : Int32) (mo : Int32) (dy : Int32) (xx : Int32) (tc : Int32) (ru : Int32) (fi : Int32) (sc : Int32) (fg : Nat → Int32) (fm : Nat → Int32) (fs : Nat → Int32) (p1 : Int32)  : gMi l yX4_isHome (gws yX4_isHome cX4_isHome 2 (some .boolean)) 2 G (gT cI cJ cZ cB cT) [.ref h, .int p1] [(h, .inr (4, [.ref g, .ref mk, .ref stp, .int 0, .int mc, .int gr, .int mo, .int dy, .int xx, .int tc, .int ru, .int fi, .int sc])), (g, .inl (cI, 90, .inl fg)), (mk, .inl (cI, 12, .inl fm)), (stp, .inl (cI, 1880, .inl fs))] (fun r (_ : Unit) => r = 0) (fun (_ : Unit) => ([(h, .inr (4, [.ref g, .ref mk, .ref stp, .int 0, .int mc, .int gr, .int mo, .int dy, .int xx, .int tc, .int ru, .int fi, .int sc])), (g, .inl (cI, 90, .inl fg)), (mk, .inl (cI, 12, .inl fm)), (stp, .inl (cI, 1880, .inl fs))] : va_W)) := by
  intro sz
  refine gM_start (y := yX4_isHome) (av := [.ref h, .int p1]) (ws := [(h, .inr (4, [.ref g, .ref mk, .ref stp, .int 0, .int mc, .int gr, .int mo, .int dy, .int xx, .int tc, .int ru, .int fi, .int sc])), (g, .inl (cI, 90, .inl fg)), (mk, .inl (cI, 12, .inl fm)), (stp, .inl (cI, 1880, .inl fs))]) (Qf := fun A => va_Qi (fun r (_ : Unit) => r = 0) (gB G (fun (_ : Unit) => ([(h, .inr (4, [.ref g, .ref mk, .ref stp, .int 0, .int mc, .int gr, .int mo, .int dy, .int xx, .int tc, .int ru, .int fi, .int sc])), (g, .inl (cI, 90, .inl fg)), (mk, .inl (cI, 12, .inl fm)), (stp, .inl (cI, 1880, .inl fs))] : va_W)) A) A) (cc := cX4_isHome) (maxL := 2) (ret := (some .boolean)) (by decide) (Nat.le_of_ble_eq_true rfl) ?_
  intro p e s m args below meth c A ls H hx hb hr hts hown hin hlocks hml hP hK hD hA hS hl
  have hl : lv_has ls 2 [(0, .ref h), (1, .int p1)] := hl
  refine lv_aload_n hx hb dX4_isHome_0 rfl (lv_at hl 0 rfl) ?_
  refine lv_iload_n hx hb dX4_isHome_1 rfl (lv_at hl 1 rfl) ?_
  refine lv_iconst (v := 4) hx hb dX4_isHome_2 (by decide) ?_
  refine gw_calli (gw_runV (As := [.int p1, .int 4]) (rest := []) ⟨hx, hb, hml, hown, hts⟩ (c_ofGoose0 l G cI cJ cZ cB cT h g mk stp mc gr mo dy xx tc ru fi sc fg fm fs p1 4  H.size) (gG_V m_3 m_4 m_5 m_6 m_2) rfl e_X4_ofGoose ⟨Nat.le_of_ble_eq_true rfl, Nat.le_of_ble_eq_true rfl⟩ hK hP hD [0, 1, 2, 3] rfl (by decide) rfl 0 rfl rfl rfl hl.1 rfl (Nat.le_of_ble_eq_true rfl) dX4_isHome_3 ⟨Nat.le_of_ble_eq_true rfl, Nat.le_of_ble_eq_true rfl⟩) hP hD hS hA [0, 1, 2, 3] [] rfl rfl (by decide) (by decide) (fun r_1 u_1 H locs hw_1 hP hD hS => ?_)
  subst hw_1
  have hP : va_P G vwCl [(h, .inr (4, [.ref g, .ref mk, .ref stp, .int 0, .int mc, .int gr, .int mo, .int dy, .int xx, .int tc, .int ru, .int fi, .int sc])), (g, .inl (cI, 90, .inl fg)), (mk, .inl (cI, 12, .inl fm)), (stp, .inl (cI, 1880, .inl fs))] H := hP
  have hD : va_D A [(h, .inr (4, [.ref g, .ref mk, .ref stp, .int 0, .int mc, .int gr, .int mo, .int dy, .int xx, .int tc, .int ru, .int fi, .int sc])), (g, .inl (cI, 90, .inl fg)), (mk, .inl (cI, 12, .inl fm)), (stp, .inl (cI, 1880, .inl fs))] := hD
  refine lv_if_ne (tgt := 13) hx hb dX4_isHome_6 (by decide) (fun _ => ?_) (fun c => absurd c (by decide))
  refine lv_iconst (v := 0) hx hb dX4_isHome_13 (by decide) ?_
  exact gw_zret () hx hb hr hlocks rfl hP hD hS rfl dX4_isHome_14
theorem e_X4_isHome : yX4_isHome.cls = RX4 ∧ yX4_isHome.cls ≠ "java/lang/invoke/MethodHandle" ∧ yX4_isHome.cls ≠ "java/lang/invoke/VarHandle" ∧ (parseMethodDescriptor yX4_isHome.desc).map (fun d => d.parameters.length) = some 1 := by decide +kernel
set_option maxHeartbeats 4000000 in
set_option maxRecDepth 100000 in
/-- no goose: false -/
theorem c_isFree0 (l : Launch) (G : va_G) (cI cJ cZ cB cT : ClassId) (h : Nat) (g : Nat) (mk : Nat) (stp : Nat) (mc : Int32) (gr : Int32) (mo : Int32) (dy : Int32) (xx : Int32) (tc : Int32) (ru : Int32) (fi : Int32) (sc : Int32) (fg : Nat → Int32) (fm : Nat → Int32) (fs : Nat → Int32) (p1 : Int32)  : gMi l yX4_isFree (gws yX4_isFree cX4_isFree 2 (some .boolean)) 3 G (gT cI cJ cZ cB cT) [.ref h, .int p1] [(h, .inr (4, [.ref g, .ref mk, .ref stp, .int 0, .int mc, .int gr, .int mo, .int dy, .int xx, .int tc, .int ru, .int fi, .int sc])), (g, .inl (cI, 90, .inl fg)), (mk, .inl (cI, 12, .inl fm)), (stp, .inl (cI, 1880, .inl fs))] (fun r (_ : Unit) => r = 0) (fun (_ : Unit) => ([(h, .inr (4, [.ref g, .ref mk, .ref stp, .int 0, .int mc, .int gr, .int mo, .int dy, .int xx, .int tc, .int ru, .int fi, .int sc])), (g, .inl (cI, 90, .inl fg)), (mk, .inl (cI, 12, .inl fm)), (stp, .inl (cI, 1880, .inl fs))] : va_W)) := by
  intro sz
  refine gM_start (y := yX4_isFree) (av := [.ref h, .int p1]) (ws := [(h, .inr (4, [.ref g, .ref mk, .ref stp, .int 0, .int mc, .int gr, .int mo, .int dy, .int xx, .int tc, .int ru, .int fi, .int sc])), (g, .inl (cI, 90, .inl fg)), (mk, .inl (cI, 12, .inl fm)), (stp, .inl (cI, 1880, .inl fs))]) (Qf := fun A => va_Qi (fun r (_ : Unit) => r = 0) (gB G (fun (_ : Unit) => ([(h, .inr (4, [.ref g, .ref mk, .ref stp, .int 0, .int mc, .int gr, .int mo, .int dy, .int xx, .int tc, .int ru, .int fi, .int sc])), (g, .inl (cI, 90, .inl fg)), (mk, .inl (cI, 12, .inl fm)), (stp, .inl (cI, 1880, .inl fs))] : va_W)) A) A) (cc := cX4_isFree) (maxL := 2) (ret := (some .boolean)) (by decide) (Nat.le_of_ble_eq_true rfl) ?_
  intro p e s m args below meth c A ls H hx hb hr hts hown hin hlocks hml hP hK hD hA hS hl
  have hl : lv_has ls 2 [(0, .ref h), (1, .int p1)] := hl
  refine lv_aload_n hx hb dX4_isFree_0 rfl (lv_at hl 0 rfl) ?_
  refine lv_iload_n hx hb dX4_isFree_1 rfl (lv_at hl 1 rfl) ?_
  refine gw_calli (gw_runV (As := [.int p1]) (rest := []) ⟨hx, hb, hml, hown, hts⟩ (c_isHome0 l G cI cJ cZ cB cT h g mk stp mc gr mo dy xx tc ru fi sc fg fm fs p1  H.size) (gG_V m_8 m_9 m_10 m_6 m_7) rfl e_X4_isHome ⟨Nat.le_of_ble_eq_true rfl, Nat.le_of_ble_eq_true rfl⟩ hK hP hD [0, 1, 2, 3] rfl (by decide) rfl 0 rfl rfl rfl hl.1 rfl (Nat.le_of_ble_eq_true rfl) dX4_isFree_2 ⟨Nat.le_of_ble_eq_true rfl, Nat.le_of_ble_eq_true rfl⟩) hP hD hS hA [0, 1, 2, 3] [] rfl rfl (by decide) (by decide) (fun r_1 u_1 H locs hw_1 hP hD hS => ?_)
  subst hw_1
  have hP : va_P G vwCl [(h, .inr (4, [.ref g, .ref mk, .ref stp, .int 0, .int mc, .int gr, .int mo, .int dy, .int xx, .int tc, .int ru, .int fi, .int sc])), (g, .inl (cI, 90, .inl fg)), (mk, .inl (cI, 12, .inl fm)), (stp, .inl (cI, 1880, .inl fs))] H := hP
  have hD : va_D A [(h, .inr (4, [.ref g, .ref mk, .ref stp, .int 0, .int mc, .int gr, .int mo, .int dy, .int xx, .int tc, .int ru, .int fi, .int sc])), (g, .inl (cI, 90, .inl fg)), (mk, .inl (cI, 12, .inl fm)), (stp, .inl (cI, 1880, .inl fs))] := hD
  refine lv_if_eq (tgt := 22) hx hb dX4_isFree_5 (by decide) (fun _ => ?_) (fun c => absurd (by decide) c)
  refine lv_iconst (v := 0) hx hb dX4_isFree_22 (by decide) ?_
  exact gw_zret () hx hb hr hlocks rfl hP hD hS rfl dX4_isFree_23
set_option maxHeartbeats 4000000 in
set_option maxRecDepth 100000 in
/-- no goose: 0 -/
theorem c_countFate0 (l : Launch) (G : va_G) (cI cJ cZ cB cT : ClassId) (h : Nat) (g : Nat) (mk : Nat) (stp : Nat) (mc : Int32) (gr : Int32) (mo : Int32) (dy : Int32) (xx : Int32) (tc : Int32) (ru : Int32) (fi : Int32) (sc : Int32) (fg : Nat → Int32) (fm : Nat → Int32) (fs : Nat → Int32) (p1 : Int32)  : gMi l yX4_countFate (gws yX4_countFate cX4_countFate 4 (some .int)) 1 G (gT cI cJ cZ cB cT) [.ref h, .int p1] [(h, .inr (4, [.ref g, .ref mk, .ref stp, .int 0, .int mc, .int gr, .int mo, .int dy, .int xx, .int tc, .int ru, .int fi, .int sc])), (g, .inl (cI, 90, .inl fg)), (mk, .inl (cI, 12, .inl fm)), (stp, .inl (cI, 1880, .inl fs))] (fun r (_ : Unit) => r = 0) (fun (_ : Unit) => ([(h, .inr (4, [.ref g, .ref mk, .ref stp, .int 0, .int mc, .int gr, .int mo, .int dy, .int xx, .int tc, .int ru, .int fi, .int sc])), (g, .inl (cI, 90, .inl fg)), (mk, .inl (cI, 12, .inl fm)), (stp, .inl (cI, 1880, .inl fs))] : va_W)) := by
  intro sz
  refine gM_start (y := yX4_countFate) (av := [.ref h, .int p1]) (ws := [(h, .inr (4, [.ref g, .ref mk, .ref stp, .int 0, .int mc, .int gr, .int mo, .int dy, .int xx, .int tc, .int ru, .int fi, .int sc])), (g, .inl (cI, 90, .inl fg)), (mk, .inl (cI, 12, .inl fm)), (stp, .inl (cI, 1880, .inl fs))]) (Qf := fun A => va_Qi (fun r (_ : Unit) => r = 0) (gB G (fun (_ : Unit) => ([(h, .inr (4, [.ref g, .ref mk, .ref stp, .int 0, .int mc, .int gr, .int mo, .int dy, .int xx, .int tc, .int ru, .int fi, .int sc])), (g, .inl (cI, 90, .inl fg)), (mk, .inl (cI, 12, .inl fm)), (stp, .inl (cI, 1880, .inl fs))] : va_W)) A) A) (cc := cX4_countFate) (maxL := 4) (ret := (some .int)) (by decide) (Nat.le_of_ble_eq_true rfl) ?_
  intro p e s m args below meth c A ls H hx hb hr hts hown hin hlocks hml hP hK hD hA hS hl
  have hl : lv_has ls 4 [(0, .ref h), (1, .int p1)] := hl
  refine lv_iconst (v := 0) hx hb dX4_countFate_0 (by decide) ?_
  refine lv_istore_n (lv' := [(2, .int 0), (0, .ref h), (1, .int p1)]) hx hb dX4_countFate_1 rfl hl (by decide) rfl (fun ls hl => ?_)
  refine lv_iconst (v := 0) hx hb dX4_countFate_2 (by decide) ?_
  refine lv_istore_n (lv' := [(3, .int 0), (2, .int 0), (0, .ref h), (1, .int p1)]) hx hb dX4_countFate_3 rfl hl (by decide) rfl (fun ls hl => ?_)
  refine lv_iload_n hx hb dX4_countFate_4 rfl (lv_at hl 0 rfl) ?_
  refine lv_aload_n hx hb dX4_countFate_5 rfl (lv_at hl 2 rfl) ?_
  refine va_get (D := G) (ci := 4) (v := .int 0) (C := RX4) (T := TX4) (N := 13) hx hb hts iX4 hown hK hP 0 rfl rfl 3 (by decide) (hts _ m_0) (fun _ h9 => h9) rfl dX4_countFate_6 ?_
  refine lv_icmp_ge (tgt := 31) hx hb dX4_countFate_9 (by decide) (fun _ => ?_) (fun c => absurd (by decide) c)
  refine lv_iload_n hx hb dX4_countFate_31 rfl (lv_at hl 1 rfl) ?_
  exact gw_iret () hx hb hr hlocks hP hD hS rfl dX4_countFate_32
theorem e_X4_countFate : yX4_countFate.cls = RX4 ∧ yX4_countFate.cls ≠ "java/lang/invoke/MethodHandle" ∧ yX4_countFate.cls ≠ "java/lang/invoke/VarHandle" ∧ (parseMethodDescriptor yX4_countFate.desc).map (fun d => d.parameters.length) = some 1 := by decide +kernel
set_option maxHeartbeats 4000000 in
set_option maxRecDepth 100000 in
/-- none to feed: 0 -/
theorem c_dailyNeed0 (l : Launch) (G : va_G) (cI cJ cZ cB cT : ClassId) (h : Nat) (g : Nat) (mk : Nat) (stp : Nat) (mc : Int32) (gr : Int32) (dy : Int32) (xx : Int32) (tc : Int32) (ru : Int32) (fi : Int32) (sc : Int32) (fg : Nat → Int32) (fm : Nat → Int32) (fs : Nat → Int32)  : gMi l yX4_dailyNeed (gws yX4_dailyNeed cX4_dailyNeed 1 (some .int)) 2 G (gT cI cJ cZ cB cT) [.ref h] [(h, .inr (4, [.ref g, .ref mk, .ref stp, .int 0, .int mc, .int gr, .int 0, .int dy, .int xx, .int tc, .int ru, .int fi, .int sc])), (g, .inl (cI, 90, .inl fg)), (mk, .inl (cI, 12, .inl fm)), (stp, .inl (cI, 1880, .inl fs))] (fun r (_ : Unit) => r = 0) (fun (_ : Unit) => ([(h, .inr (4, [.ref g, .ref mk, .ref stp, .int 0, .int mc, .int gr, .int 0, .int dy, .int xx, .int tc, .int ru, .int fi, .int sc])), (g, .inl (cI, 90, .inl fg)), (mk, .inl (cI, 12, .inl fm)), (stp, .inl (cI, 1880, .inl fs))] : va_W)) := by
  intro sz
  refine gM_start (y := yX4_dailyNeed) (av := [.ref h]) (ws := [(h, .inr (4, [.ref g, .ref mk, .ref stp, .int 0, .int mc, .int gr, .int 0, .int dy, .int xx, .int tc, .int ru, .int fi, .int sc])), (g, .inl (cI, 90, .inl fg)), (mk, .inl (cI, 12, .inl fm)), (stp, .inl (cI, 1880, .inl fs))]) (Qf := fun A => va_Qi (fun r (_ : Unit) => r = 0) (gB G (fun (_ : Unit) => ([(h, .inr (4, [.ref g, .ref mk, .ref stp, .int 0, .int mc, .int gr, .int 0, .int dy, .int xx, .int tc, .int ru, .int fi, .int sc])), (g, .inl (cI, 90, .inl fg)), (mk, .inl (cI, 12, .inl fm)), (stp, .inl (cI, 1880, .inl fs))] : va_W)) A) A) (cc := cX4_dailyNeed) (maxL := 1) (ret := (some .int)) (by decide) (Nat.le_of_ble_eq_true rfl) ?_
  intro p e s m args below meth c A ls H hx hb hr hts hown hin hlocks hml hP hK hD hA hS hl
  have hl : lv_has ls 1 [(0, .ref h)] := hl
  refine lv_aload_n hx hb dX4_dailyNeed_0 rfl (lv_at hl 0 rfl) ?_
  refine va_get (D := G) (ci := 4) (v := .int 0) (C := RX4) (T := TX4) (N := 13) hx hb hts iX4 hown hK hP 0 rfl rfl 6 (by decide) (hts _ m_11) (fun _ h9 => h9) rfl dX4_dailyNeed_1 ?_
  refine lv_aload_n hx hb dX4_dailyNeed_4 rfl (lv_at hl 0 rfl) ?_
  refine lv_iconst (v := 0) hx hb dX4_dailyNeed_5 (by decide) ?_
  refine gw_calli (gw_runV (As := [.int 0]) (rest := [.int 0]) ⟨hx, hb, hml, hown, hts⟩ (c_countFate0 l G cI cJ cZ cB cT h g mk stp mc gr 0 dy xx tc ru fi sc fg fm fs 0  H.size) (gG_V m_13 m_14 m_15 m_6 m_12) rfl e_X4_countFate ⟨Nat.le_of_ble_eq_true rfl, Nat.le_of_ble_eq_true rfl⟩ hK hP hD [0, 1, 2, 3] rfl (by decide) rfl 0 rfl rfl rfl hl.1 rfl (Nat.le_of_ble_eq_true rfl) dX4_dailyNeed_6 ⟨Nat.le_of_ble_eq_true rfl, Nat.le_of_ble_eq_true rfl⟩) hP hD hS hA [0, 1, 2, 3] [] rfl rfl (by decide) (by decide) (fun r_1 u_1 H locs hw_1 hP hD hS => ?_)
  subst hw_1
  have hP : va_P G vwCl [(h, .inr (4, [.ref g, .ref mk, .ref stp, .int 0, .int mc, .int gr, .int 0, .int dy, .int xx, .int tc, .int ru, .int fi, .int sc])), (g, .inl (cI, 90, .inl fg)), (mk, .inl (cI, 12, .inl fm)), (stp, .inl (cI, 1880, .inl fs))] H := hP
  have hD : va_D A [(h, .inr (4, [.ref g, .ref mk, .ref stp, .int 0, .int mc, .int gr, .int 0, .int dy, .int xx, .int tc, .int ru, .int fi, .int sc])), (g, .inl (cI, 90, .inl fg)), (mk, .inl (cI, 12, .inl fm)), (stp, .inl (cI, 1880, .inl fs))] := hD
  refine lv_iadd hx hb dX4_dailyNeed_9 ?_
  refine gw_topi (y := 0) (by decide) ?_
  exact gw_iret () hx hb hr hlocks hP hD hS rfl dX4_dailyNeed_10
theorem e_X4_dailyNeed : yX4_dailyNeed.cls = RX4 ∧ yX4_dailyNeed.cls ≠ "java/lang/invoke/MethodHandle" ∧ yX4_dailyNeed.cls ≠ "java/lang/invoke/VarHandle" ∧ (parseMethodDescriptor yX4_dailyNeed.desc).map (fun d => d.parameters.length) = some 0 := by decide +kernel
set_option maxHeartbeats 4000000 in
set_option maxRecDepth 100000 in
/-- none to feed: nothing changes -/
theorem c_eatDaily0 (l : Launch) (G : va_G) (cI cJ cZ cB cT : ClassId) (h : Nat) (g : Nat) (mk : Nat) (stp : Nat) (mc : Int32) (dy : Int32) (xx : Int32) (tc : Int32) (ru : Int32) (fi : Int32) (sc : Int32) (fg : Nat → Int32) (fm : Nat → Int32) (fs : Nat → Int32)  : gMv l yX4_eatDaily (gws yX4_eatDaily cX4_eatDaily 3 none) 3 G (gT cI cJ cZ cB cT) [.ref h] [(h, .inr (4, [.ref g, .ref mk, .ref stp, .int 0, .int mc, .int 0, .int 0, .int dy, .int xx, .int tc, .int ru, .int fi, .int sc])), (g, .inl (cI, 90, .inl fg)), (mk, .inl (cI, 12, .inl fm)), (stp, .inl (cI, 1880, .inl fs))] (fun (_ : Unit) => True) (fun (_ : Unit) => ([(h, .inr (4, [.ref g, .ref mk, .ref stp, .int 0, .int mc, .int 0, .int 0, .int dy, .int xx, .int tc, .int ru, .int fi, .int sc])), (g, .inl (cI, 90, .inl fg)), (mk, .inl (cI, 12, .inl fm)), (stp, .inl (cI, 1880, .inl fs))] : va_W)) := by
  intro sz
  refine gM_start (y := yX4_eatDaily) (av := [.ref h]) (ws := [(h, .inr (4, [.ref g, .ref mk, .ref stp, .int 0, .int mc, .int 0, .int 0, .int dy, .int xx, .int tc, .int ru, .int fi, .int sc])), (g, .inl (cI, 90, .inl fg)), (mk, .inl (cI, 12, .inl fm)), (stp, .inl (cI, 1880, .inl fs))]) (Qf := fun A => va_Qv (fun (_ : Unit) => True) (gB G (fun (_ : Unit) => ([(h, .inr (4, [.ref g, .ref mk, .ref stp, .int 0, .int mc, .int 0, .int 0, .int dy, .int xx, .int tc, .int ru, .int fi, .int sc])), (g, .inl (cI, 90, .inl fg)), (mk, .inl (cI, 12, .inl fm)), (stp, .inl (cI, 1880, .inl fs))] : va_W)) A) A) (cc := cX4_eatDaily) (maxL := 3) (ret := none) (by decide) (Nat.le_of_ble_eq_true rfl) ?_
  intro p e s m args below meth c A ls H hx hb hr hts hown hin hlocks hml hP hK hD hA hS hl
  have hl : lv_has ls 3 [(0, .ref h)] := hl
  refine lv_aload_n hx hb dX4_eatDaily_0 rfl (lv_at hl 0 rfl) ?_
  refine gw_calli (gw_runV (As := []) (rest := []) ⟨hx, hb, hml, hown, hts⟩ (c_dailyNeed0 l G cI cJ cZ cB cT h g mk stp mc 0 dy xx tc ru fi sc fg fm fs  H.size) (gG_V m_17 m_18 m_19 m_6 m_16) rfl e_X4_dailyNeed ⟨Nat.le_of_ble_eq_true rfl, Nat.le_of_ble_eq_true rfl⟩ hK hP hD [0, 1, 2, 3] rfl (by decide) rfl 0 rfl rfl rfl hl.1 rfl (Nat.le_of_ble_eq_true rfl) dX4_eatDaily_1 ⟨Nat.le_of_ble_eq_true rfl, Nat.le_of_ble_eq_true rfl⟩) hP hD hS hA [0, 1, 2, 3] [] rfl rfl (by decide) (by decide) (fun r_1 u_1 H locs hw_1 hP hD hS => ?_)
  subst hw_1
  have hP : va_P G vwCl [(h, .inr (4, [.ref g, .ref mk, .ref stp, .int 0, .int mc, .int 0, .int 0, .int dy, .int xx, .int tc, .int ru, .int fi, .int sc])), (g, .inl (cI, 90, .inl fg)), (mk, .inl (cI, 12, .inl fm)), (stp, .inl (cI, 1880, .inl fs))] H := hP
  have hD : va_D A [(h, .inr (4, [.ref g, .ref mk, .ref stp, .int 0, .int mc, .int 0, .int 0, .int dy, .int xx, .int tc, .int ru, .int fi, .int sc])), (g, .inl (cI, 90, .inl fg)), (mk, .inl (cI, 12, .inl fm)), (stp, .inl (cI, 1880, .inl fs))] := hD
  refine lv_istore_n (lv' := [(1, .int 0), (0, .ref h)]) hx hb dX4_eatDaily_4 rfl hl (by decide) rfl (fun ls hl => ?_)
  refine lv_iload_n hx hb dX4_eatDaily_5 rfl (lv_at hl 0 rfl) ?_
  refine lv_aload_n hx hb dX4_eatDaily_6 rfl (lv_at hl 1 rfl) ?_
  refine va_get (D := G) (ci := 4) (v := .int 0) (C := RX4) (T := TX4) (N := 13) hx hb hts iX4 hown hK hP 0 rfl rfl 5 (by decide) (hts _ m_20) (fun _ h9 => h9) rfl dX4_eatDaily_7 ?_
  refine lv_icmp_gt (tgt := 24) hx hb dX4_eatDaily_10 (by decide) (fun c_2 => ?_) (fun c_2 => ?_)
  · refine lv_aload_n hx hb dX4_eatDaily_24 rfl (lv_at hl 1 rfl) ?_
    refine lv_iconst (v := 0) hx hb dX4_eatDaily_25 (by decide) ?_
    refine va_put (D := G) (ci := 4) (v := .int 0) (ty := .int) (C := RX4) (T := TX4) (N := 13) hx hb hts iX4 tyX4 tyX4_ok nmX4 hown hK hP hD hS 0 rfl rfl 5 (by decide) (hts _ m_20) (fun _ h9 => h9) rfl (tyX4_ok 5 (by decide)) rfl rfl (Nat.le_of_ble_eq_true rfl) dX4_eatDaily_26 (fun H locs hP hD hS => ?_)
    have hP : va_P G vwCl [(h, .inr (4, [.ref g, .ref mk, .ref stp, .int 0, .int mc, .int 0, .int 0, .int dy, .int xx, .int tc, .int ru, .int fi, .int sc])), (g, .inl (cI, 90, .inl fg)), (mk, .inl (cI, 12, .inl fm)), (stp, .inl (cI, 1880, .inl fs))] H := hP
    have hD : va_D A [(h, .inr (4, [.ref g, .ref mk, .ref stp, .int 0, .int mc, .int 0, .int 0, .int dy, .int xx, .int tc, .int ru, .int fi, .int sc])), (g, .inl (cI, 90, .inl fg)), (mk, .inl (cI, 12, .inl fm)), (stp, .inl (cI, 1880, .inl fs))] := hD
    refine lv_iconst (v := 0) hx hb dX4_eatDaily_29 (by decide) ?_
    refine lv_istore_n (lv' := [(2, .int 0), (1, .int 0), (0, .ref h)]) hx hb dX4_eatDaily_30 rfl hl (by decide) rfl (fun ls hl => ?_)
    refine lv_iload_n hx hb dX4_eatDaily_31 rfl (lv_at hl 0 rfl) ?_
    refine lv_aload_n hx hb dX4_eatDaily_32 rfl (lv_at hl 2 rfl) ?_
    refine va_get (D := G) (ci := 4) (v := .int 0) (C := RX4) (T := TX4) (N := 13) hx hb hts iX4 hown hK hP 0 rfl rfl 3 (by decide) (hts _ m_0) (fun _ h9 => h9) rfl dX4_eatDaily_33 ?_
    refine lv_icmp_ge (tgt := 70) hx hb dX4_eatDaily_36 (by decide) (fun _ => ?_) (fun c => absurd (by decide) c)
    exact gw_vret () hx hb hr hlocks hP hD hS trivial dX4_eatDaily_70
  · refine lv_aload_n hx hb dX4_eatDaily_13 rfl (lv_at hl 1 rfl) ?_
    refine lv_dup hx hb dX4_eatDaily_14 rfl ?_
    refine va_get (D := G) (ci := 4) (v := .int 0) (C := RX4) (T := TX4) (N := 13) hx hb hts iX4 hown hK hP 0 rfl rfl 5 (by decide) (hts _ m_20) (fun _ h9 => h9) rfl dX4_eatDaily_15 ?_
    refine lv_iload_n hx hb dX4_eatDaily_18 rfl (lv_at hl 0 rfl) ?_
    refine lv_isub hx hb dX4_eatDaily_19 ?_
    refine va_put (D := G) (ci := 4) (v := .int (0 - 0)) (ty := .int) (C := RX4) (T := TX4) (N := 13) hx hb hts iX4 tyX4 tyX4_ok nmX4 hown hK hP hD hS 0 rfl rfl 5 (by decide) (hts _ m_20) (fun _ h9 => h9) rfl (tyX4_ok 5 (by decide)) rfl rfl (Nat.le_of_ble_eq_true rfl) dX4_eatDaily_20 (fun H locs hP hD hS => ?_)
    have hP : va_P G vwCl [(h, .inr (4, [.ref g, .ref mk, .ref stp, .int 0, .int mc, .int (0 - 0), .int 0, .int dy, .int xx, .int tc, .int ru, .int fi, .int sc])), (g, .inl (cI, 90, .inl fg)), (mk, .inl (cI, 12, .inl fm)), (stp, .inl (cI, 1880, .inl fs))] H := hP
    have hD : va_D A [(h, .inr (4, [.ref g, .ref mk, .ref stp, .int 0, .int mc, .int (0 - 0), .int 0, .int dy, .int xx, .int tc, .int ru, .int fi, .int sc])), (g, .inl (cI, 90, .inl fg)), (mk, .inl (cI, 12, .inl fm)), (stp, .inl (cI, 1880, .inl fs))] := hD
    exact gw_vret () hx hb hr hlocks hP hD hS trivial dX4_eatDaily_23
set_option maxHeartbeats 4000000 in
set_option maxRecDepth 100000 in
/-- the first market: 0 -/
theorem c_addMarket0 (l : Launch) (G : va_G) (cI cJ cZ cB cT : ClassId) (h : Nat) (g : Nat) (mk : Nat) (stp : Nat) (fg : Nat → Int32) (fm : Nat → Int32) (fs : Nat → Int32) (p1 : Int32) (p2 : Int32) (p3 : Int32)  : gMi l yX4_addMarket (gws yX4_addMarket cX4_addMarket 5 (some .int)) 1 G (gT cI cJ cZ cB cT) [.ref h, .int p1, .int p2, .int p3] [(h, .inr (4, [.ref g, .ref mk, .ref stp, .int 0, .int 0, .int 0, .int 0, .int 0, .int 9, .int 0, .int (-1), .int 0, .int 0])), (g, .inl (cI, 90, .inl fg)), (mk, .inl (cI, 12, .inl fm)), (stp, .inl (cI, 1880, .inl fs))] (fun r (_ : Unit) => r = 0) (fun (_ : Unit) => ([] : va_W)) := by
  intro sz
  refine gM_start (y := yX4_addMarket) (av := [.ref h, .int p1, .int p2, .int p3]) (ws := [(h, .inr (4, [.ref g, .ref mk, .ref stp, .int 0, .int 0, .int 0, .int 0, .int 0, .int 9, .int 0, .int (-1), .int 0, .int 0])), (g, .inl (cI, 90, .inl fg)), (mk, .inl (cI, 12, .inl fm)), (stp, .inl (cI, 1880, .inl fs))]) (Qf := fun A => va_Qi (fun r (_ : Unit) => r = 0) (gB G (fun (_ : Unit) => ([] : va_W)) A) A) (cc := cX4_addMarket) (maxL := 5) (ret := (some .int)) (by decide) (Nat.le_of_ble_eq_true rfl) ?_
  intro p e s m args below meth c A ls H hx hb hr hts hown hin hlocks hml hP hK hD hA hS hl
  have hl : lv_has ls 5 [(0, .ref h), (1, .int p1), (2, .int p2), (3, .int p3)] := hl
  refine lv_aload_n hx hb dX4_addMarket_0 rfl (lv_at hl 0 rfl) ?_
  refine va_get (D := G) (ci := 4) (v := .int 0) (C := RX4) (T := TX4) (N := 13) hx hb hts iX4 hown hK hP 0 rfl rfl 4 (by decide) (hts _ m_1) (fun _ h9 => h9) rfl dX4_addMarket_1 ?_
  refine lv_iconst (v := 4) hx hb dX4_addMarket_4 (by decide) ?_
  refine lv_icmp_lt (tgt := 10) hx hb dX4_addMarket_5 (by decide) (fun _ => ?_) (fun c => absurd (by decide) c)
  refine lv_aload_n hx hb dX4_addMarket_10 rfl (lv_at hl 0 rfl) ?_
  refine va_get (D := G) (ci := 4) (v := .int 0) (C := RX4) (T := TX4) (N := 13) hx hb hts iX4 hown hK hP 0 rfl rfl 4 (by decide) (hts _ m_1) (fun _ h9 => h9) rfl dX4_addMarket_11 ?_
  refine lv_iconst (v := 3) hx hb dX4_addMarket_14 (by decide) ?_
  refine lv_imul hx hb dX4_addMarket_15 ?_
  refine gw_topi (y := 0) (by decide) ?_
  refine lv_istore (lv' := [(4, .int 0), (0, .ref h), (1, .int p1), (2, .int p2), (3, .int p3)]) hx hb dX4_addMarket_16 hl (by decide) rfl (fun ls hl => ?_)
  refine lv_aload_n hx hb dX4_addMarket_18 rfl (lv_at hl 1 rfl) ?_
  refine va_get (D := G) (ci := 4) (v := .ref mk) (C := RX4) (T := TX4) (N := 13) hx hb hts iX4 hown hK hP 0 rfl rfl 1 (by decide) (hts _ m_21) (fun _ h9 => h9) rfl dX4_addMarket_19 ?_
  refine lv_iload hx hb dX4_addMarket_22 (lv_at hl 0 rfl) ?_
  refine lv_iconst (v := 0) hx hb dX4_addMarket_24 (by decide) ?_
  refine lv_iadd hx hb dX4_addMarket_25 ?_
  refine gw_topi (y := 0) (by decide) ?_
  refine lv_iload_n hx hb dX4_addMarket_26 rfl (lv_at hl 2 rfl) ?_
  refine gw_iast hx hb hK hP hD hS 2 0 0 rfl rfl rfl (by decide) (by decide) dX4_addMarket_27 (fun H locs hP hD hS => ?_)
  have hP : va_P G vwCl [(h, .inr (4, [.ref g, .ref mk, .ref stp, .int 0, .int 0, .int 0, .int 0, .int 0, .int 9, .int 0, .int (-1), .int 0, .int 0])), (g, .inl (cI, 90, .inl fg)), (mk, .inl (cI, 12, .inl (upd fm 0 p1))), (stp, .inl (cI, 1880, .inl fs))] H := hP
  have hD : va_D A [(h, .inr (4, [.ref g, .ref mk, .ref stp, .int 0, .int 0, .int 0, .int 0, .int 0, .int 9, .int 0, .int (-1), .int 0, .int 0])), (g, .inl (cI, 90, .inl fg)), (mk, .inl (cI, 12, .inl (upd fm 0 p1))), (stp, .inl (cI, 1880, .inl fs))] := hD
  refine lv_aload_n hx hb dX4_addMarket_28 rfl (lv_at hl 1 rfl) ?_
  refine va_get (D := G) (ci := 4) (v := .ref mk) (C := RX4) (T := TX4) (N := 13) hx hb hts iX4 hown hK hP 0 rfl rfl 1 (by decide) (hts _ m_21) (fun _ h9 => h9) rfl dX4_addMarket_29 ?_
  refine lv_iload hx hb dX4_addMarket_32 (lv_at hl 0 rfl) ?_
  refine lv_iconst (v := 1) hx hb dX4_addMarket_34 (by decide) ?_
  refine lv_iadd hx hb dX4_addMarket_35 ?_
  refine gw_topi (y := 1) (by decide) ?_
  refine lv_iload_n hx hb dX4_addMarket_36 rfl (lv_at hl 3 rfl) ?_
  refine gw_iast hx hb hK hP hD hS 2 0 1 rfl rfl rfl (by decide) (by decide) dX4_addMarket_37 (fun H locs hP hD hS => ?_)
  have hP : va_P G vwCl [(h, .inr (4, [.ref g, .ref mk, .ref stp, .int 0, .int 0, .int 0, .int 0, .int 0, .int 9, .int 0, .int (-1), .int 0, .int 0])), (g, .inl (cI, 90, .inl fg)), (mk, .inl (cI, 12, .inl (upd (upd fm 0 p1) 1 p2))), (stp, .inl (cI, 1880, .inl fs))] H := hP
  have hD : va_D A [(h, .inr (4, [.ref g, .ref mk, .ref stp, .int 0, .int 0, .int 0, .int 0, .int 0, .int 9, .int 0, .int (-1), .int 0, .int 0])), (g, .inl (cI, 90, .inl fg)), (mk, .inl (cI, 12, .inl (upd (upd fm 0 p1) 1 p2))), (stp, .inl (cI, 1880, .inl fs))] := hD
  refine lv_aload_n hx hb dX4_addMarket_38 rfl (lv_at hl 1 rfl) ?_
  refine va_get (D := G) (ci := 4) (v := .ref mk) (C := RX4) (T := TX4) (N := 13) hx hb hts iX4 hown hK hP 0 rfl rfl 1 (by decide) (hts _ m_21) (fun _ h9 => h9) rfl dX4_addMarket_39 ?_
  refine lv_iload hx hb dX4_addMarket_42 (lv_at hl 0 rfl) ?_
  refine lv_iconst (v := 2) hx hb dX4_addMarket_44 (by decide) ?_
  refine lv_iadd hx hb dX4_addMarket_45 ?_
  refine gw_topi (y := 2) (by decide) ?_
  refine lv_iload_n hx hb dX4_addMarket_46 rfl (lv_at hl 4 rfl) ?_
  refine gw_iast hx hb hK hP hD hS 2 0 2 rfl rfl rfl (by decide) (by decide) dX4_addMarket_47 (fun H locs hP hD hS => ?_)
  have hP : va_P G vwCl [(h, .inr (4, [.ref g, .ref mk, .ref stp, .int 0, .int 0, .int 0, .int 0, .int 0, .int 9, .int 0, .int (-1), .int 0, .int 0])), (g, .inl (cI, 90, .inl fg)), (mk, .inl (cI, 12, .inl (upd (upd (upd fm 0 p1) 1 p2) 2 p3))), (stp, .inl (cI, 1880, .inl fs))] H := hP
  have hD : va_D A [(h, .inr (4, [.ref g, .ref mk, .ref stp, .int 0, .int 0, .int 0, .int 0, .int 0, .int 9, .int 0, .int (-1), .int 0, .int 0])), (g, .inl (cI, 90, .inl fg)), (mk, .inl (cI, 12, .inl (upd (upd (upd fm 0 p1) 1 p2) 2 p3))), (stp, .inl (cI, 1880, .inl fs))] := hD
  refine lv_aload_n hx hb dX4_addMarket_48 rfl (lv_at hl 1 rfl) ?_
  refine lv_dup hx hb dX4_addMarket_49 rfl ?_
  refine va_get (D := G) (ci := 4) (v := .int 0) (C := RX4) (T := TX4) (N := 13) hx hb hts iX4 hown hK hP 0 rfl rfl 4 (by decide) (hts _ m_1) (fun _ h9 => h9) rfl dX4_addMarket_50 ?_
  refine lv_iconst (v := 1) hx hb dX4_addMarket_53 (by decide) ?_
  refine lv_iadd hx hb dX4_addMarket_54 ?_
  refine gw_topi (y := 1) (by decide) ?_
  refine va_put (D := G) (ci := 4) (v := .int 1) (ty := .int) (C := RX4) (T := TX4) (N := 13) hx hb hts iX4 tyX4 tyX4_ok nmX4 hown hK hP hD hS 0 rfl rfl 4 (by decide) (hts _ m_1) (fun _ h9 => h9) rfl (tyX4_ok 4 (by decide)) rfl rfl (Nat.le_of_ble_eq_true rfl) dX4_addMarket_55 (fun H locs hP hD hS => ?_)
  have hP : va_P G vwCl [(h, .inr (4, [.ref g, .ref mk, .ref stp, .int 0, .int 1, .int 0, .int 0, .int 0, .int 9, .int 0, .int (-1), .int 0, .int 0])), (g, .inl (cI, 90, .inl fg)), (mk, .inl (cI, 12, .inl (upd (upd (upd fm 0 p1) 1 p2) 2 p3))), (stp, .inl (cI, 1880, .inl fs))] H := hP
  have hD : va_D A [(h, .inr (4, [.ref g, .ref mk, .ref stp, .int 0, .int 1, .int 0, .int 0, .int 0, .int 9, .int 0, .int (-1), .int 0, .int 0])), (g, .inl (cI, 90, .inl fg)), (mk, .inl (cI, 12, .inl (upd (upd (upd fm 0 p1) 1 p2) 2 p3))), (stp, .inl (cI, 1880, .inl fs))] := hD
  refine lv_aload_n hx hb dX4_addMarket_58 rfl (lv_at hl 1 rfl) ?_
  refine va_get (D := G) (ci := 4) (v := .int 1) (C := RX4) (T := TX4) (N := 13) hx hb hts iX4 hown hK hP 0 rfl rfl 4 (by decide) (hts _ m_1) (fun _ h9 => h9) rfl dX4_addMarket_59 ?_
  refine lv_iconst (v := 1) hx hb dX4_addMarket_62 (by decide) ?_
  refine lv_isub hx hb dX4_addMarket_63 ?_
  refine gw_topi (y := 0) (by decide) ?_
  exact gw_iret () hx hb hr hlocks (hP.sub [] rfl) (hD.sub [] (by decide) rfl) hS rfl dX4_addMarket_64
set_option maxHeartbeats 4000000 in
set_option maxRecDepth 100000 in
/-- no step: false -/
theorem c_takeStepBack0 (l : Launch) (G : va_G) (cI cJ cZ cB cT : ClassId) (h : Nat) (g : Nat) (mk : Nat) (stp : Nat) (fg : Nat → Int32) (fm : Nat → Int32) (fs : Nat → Int32)  : gMi l yX4_takeStepBack (gws yX4_takeStepBack cX4_takeStepBack 3 (some .boolean)) 1 G (gT cI cJ cZ cB cT) [.ref h] [(h, .inr (4, [.ref g, .ref mk, .ref stp, .int 0, .int 0, .int 0, .int 0, .int 0, .int 9, .int 0, .int (-1), .int 0, .int 0])), (g, .inl (cI, 90, .inl fg)), (mk, .inl (cI, 12, .inl fm)), (stp, .inl (cI, 1880, .inl fs))] (fun r (_ : Unit) => r = 0) (fun (_ : Unit) => ([(h, .inr (4, [.ref g, .ref mk, .ref stp, .int 0, .int 0, .int 0, .int 0, .int 0, .int 9, .int 0, .int (-1), .int 0, .int 0])), (g, .inl (cI, 90, .inl fg)), (mk, .inl (cI, 12, .inl fm)), (stp, .inl (cI, 1880, .inl fs))] : va_W)) := by
  intro sz
  refine gM_start (y := yX4_takeStepBack) (av := [.ref h]) (ws := [(h, .inr (4, [.ref g, .ref mk, .ref stp, .int 0, .int 0, .int 0, .int 0, .int 0, .int 9, .int 0, .int (-1), .int 0, .int 0])), (g, .inl (cI, 90, .inl fg)), (mk, .inl (cI, 12, .inl fm)), (stp, .inl (cI, 1880, .inl fs))]) (Qf := fun A => va_Qi (fun r (_ : Unit) => r = 0) (gB G (fun (_ : Unit) => ([(h, .inr (4, [.ref g, .ref mk, .ref stp, .int 0, .int 0, .int 0, .int 0, .int 0, .int 9, .int 0, .int (-1), .int 0, .int 0])), (g, .inl (cI, 90, .inl fg)), (mk, .inl (cI, 12, .inl fm)), (stp, .inl (cI, 1880, .inl fs))] : va_W)) A) A) (cc := cX4_takeStepBack) (maxL := 3) (ret := (some .boolean)) (by decide) (Nat.le_of_ble_eq_true rfl) ?_
  intro p e s m args below meth c A ls H hx hb hr hts hown hin hlocks hml hP hK hD hA hS hl
  have hl : lv_has ls 3 [(0, .ref h)] := hl
  refine lv_aload_n hx hb dX4_takeStepBack_0 rfl (lv_at hl 0 rfl) ?_
  refine va_get (D := G) (ci := 4) (v := .int 0) (C := RX4) (T := TX4) (N := 13) hx hb hts iX4 hown hK hP 0 rfl rfl 11 (by decide) (hts _ m_22) (fun _ h9 => h9) rfl dX4_takeStepBack_1 ?_
  refine lv_aload_n hx hb dX4_takeStepBack_4 rfl (lv_at hl 0 rfl) ?_
  refine va_get (D := G) (ci := 4) (v := .int 0) (C := RX4) (T := TX4) (N := 13) hx hb hts iX4 hown hK hP 0 rfl rfl 12 (by decide) (hts _ m_23) (fun _ h9 => h9) rfl dX4_takeStepBack_5 ?_
  refine lv_iadd hx hb dX4_takeStepBack_8 ?_
  refine gw_topi (y := 0) (by decide) ?_
  refine lv_iconst (v := 1) hx hb dX4_takeStepBack_9 (by decide) ?_
  refine lv_isub hx hb dX4_takeStepBack_10 ?_
  refine gw_topi (y := (-1)) (by decide) ?_
  refine lv_bipush (v := 20) hx hb dX4_takeStepBack_11 (by decide) ?_
  refine lv_irem hx hb dX4_takeStepBack_13 (by decide) ?_
  refine gw_topi (y := (-1)) (by decide) ?_
  refine lv_bipush (v := 94) hx hb dX4_takeStepBack_14 (by decide) ?_
  refine lv_imul hx hb dX4_takeStepBack_16 ?_
  refine gw_topi (y := (-94)) (by decide) ?_
  refine lv_istore_n (lv' := [(1, .int (-94)), (0, .ref h)]) hx hb dX4_takeStepBack_17 rfl hl (by decide) rfl (fun ls hl => ?_)
  refine lv_aload_n hx hb dX4_takeStepBack_18 rfl (lv_at hl 1 rfl) ?_
  refine va_get (D := G) (ci := 4) (v := .int 0) (C := RX4) (T := TX4) (N := 13) hx hb hts iX4 hown hK hP 0 rfl rfl 12 (by decide) (hts _ m_23) (fun _ h9 => h9) rfl dX4_takeStepBack_19 ?_
  refine lv_iconst (v := 1) hx hb dX4_takeStepBack_22 (by decide) ?_
  refine lv_icmp_lt (tgt := 42) hx hb dX4_takeStepBack_23 (by decide) (fun _ => ?_) (fun c => absurd (by decide) c)
  refine lv_iconst (v := 0) hx hb dX4_takeStepBack_42 (by decide) ?_
  exact gw_zret () hx hb hr hlocks rfl hP hD hS rfl dX4_takeStepBack_43
