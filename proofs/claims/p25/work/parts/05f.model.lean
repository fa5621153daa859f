def f_X9_laysFlock_188 (k7 : HS → Int32 → Int32 → Option HS) (h : HS) (x1 : Int32) (x2 : Int32) : Option HS := (k7 h x1 (x2 + 1))
def f_X9_laysFlock_67 (k7 : HS → Int32 → Int32 → Option HS) : Nat → HS → Int32 → Int32 → Int32 → Option HS
  | 0, _, _, _, _ => none
  | n + 1, h, x1, x2, x3 => (if (3 * ((eA h 0 0) 0)) ≤ x3 then (f_X9_laysFlock_188 k7 h x1 x2) else (if 0 ≤ ((10 + (3 * (x3 / 3)))).toInt ∧ ((10 + (3 * (x3 / 3)))).toInt < 1990 then (ob2 (f_X9_marketTells h 0 x2 x1 (x3 - x3 / 3 * 3) (x3 / 3) (((eA h 0 0) 121) + ((eA h 0 0) (((10 + (3 * (x3 / 3)))).toNatClampNeg)))) (fun r_11 h_11 => (if 0 ≤ (((12 * x2) + x3)).toInt ∧ (((12 * x2) + x3)).toInt < 120 then (ob2 (f_X9_marketTells (sA h_11 0 43 (upd (eA h_11 0 43) ((((12 * x2) + x3)).toNatClampNeg) r_11)) 1 x2 x1 (x3 - x3 / 3 * 3) (x3 / 3) (((eA h 0 0) 121) + ((eA h 0 0) (((10 + (3 * (x3 / 3)))).toNatClampNeg)))) (fun r_13 h_13 => (if 0 ≤ (((12 * x2) + x3)).toInt ∧ (((12 * x2) + x3)).toInt < 120 then (ob2 (f_X9_ofGoose (sA h_13 0 44 (upd (eA h_13 0 44) ((((12 * x2) + x3)).toNatClampNeg) r_13)) x2 1) (fun r_15 h_15 => (ob2 (f_X9_isTrueBy h_15 x2 x1 (x3 - x3 / 3 * 3) r_15) (fun r_16 h_16 => (if 0 ≤ (((12 * x2) + x3)).toInt ∧ (((12 * x2) + x3)).toInt < 120 then ((f_X9_laysFlock_67 k7 n) (sA h_16 0 45 (upd (eA h_16 0 45) ((((12 * x2) + x3)).toNatClampNeg) (vp_nar .boolean r_16))) x1 x2 (x3 + 1)) else none))))) else none))) else none))) else none))
theorem f_X9_laysFlock_67_s (k7 : HS → Int32 → Int32 → Option HS) (n : Nat) (h : HS) (x1 : Int32) (x2 : Int32) (x3 : Int32) : f_X9_laysFlock_67 k7 (n + 1) h x1 x2 x3 = (if (3 * ((eA h 0 0) 0)) ≤ x3 then (f_X9_laysFlock_188 k7 h x1 x2) else (if 0 ≤ ((10 + (3 * (x3 / 3)))).toInt ∧ ((10 + (3 * (x3 / 3)))).toInt < 1990 then (ob2 (f_X9_marketTells h 0 x2 x1 (x3 - x3 / 3 * 3) (x3 / 3) (((eA h 0 0) 121) + ((eA h 0 0) (((10 + (3 * (x3 / 3)))).toNatClampNeg)))) (fun r_11 h_11 => (if 0 ≤ (((12 * x2) + x3)).toInt ∧ (((12 * x2) + x3)).toInt < 120 then (ob2 (f_X9_marketTells (sA h_11 0 43 (upd (eA h_11 0 43) ((((12 * x2) + x3)).toNatClampNeg) r_11)) 1 x2 x1 (x3 - x3 / 3 * 3) (x3 / 3) (((eA h 0 0) 121) + ((eA h 0 0) (((10 + (3 * (x3 / 3)))).toNatClampNeg)))) (fun r_13 h_13 => (if 0 ≤ (((12 * x2) + x3)).toInt ∧ (((12 * x2) + x3)).toInt < 120 then (ob2 (f_X9_ofGoose (sA h_13 0 44 (upd (eA h_13 0 44) ((((12 * x2) + x3)).toNatClampNeg) r_13)) x2 1) (fun r_15 h_15 => (ob2 (f_X9_isTrueBy h_15 x2 x1 (x3 - x3 / 3 * 3) r_15) (fun r_16 h_16 => (if 0 ≤ (((12 * x2) + x3)).toInt ∧ (((12 * x2) + x3)).toInt < 120 then ((f_X9_laysFlock_67 k7 n) (sA h_16 0 45 (upd (eA h_16 0 45) ((((12 * x2) + x3)).toNatClampNeg) (vp_nar .boolean r_16))) x1 x2 (x3 + 1)) else none))))) else none))) else none))) else none)) := rfl
def f_X9_laysFlock_7 : Nat → HS → Int32 → Int32 → Option HS
  | 0, _, _, _ => none
  | n + 1, h, x1, x2 => (if ((eA h 0 0) 1) ≤ x2 then (some h) else (ob2 (f_X9_isHome h x2) (fun r_2 h_2 => (if r_2 = 0 then (f_X9_laysFlock_188 (f_X9_laysFlock_7 n) h_2 x1 x2) else (ob2 (f_X9_ofGoose h_2 x2 8) (fun r_4 h_4 => (if r_4 = 0 then (ob2 (f_X9_ofGoose h_4 x2 2) (fun r_6 h_6 => (if r_6 = (-1) then (if 0 ≤ ((eI h_6 0 47)).toInt ∧ ((eI h_6 0 47)).toInt < 10 then (f_X9_laysFlock_67 (f_X9_laysFlock_7 n) 8589934592 (sI (sA h_6 0 46 (upd (eA h_6 0 46) (((eI h_6 0 47)).toNatClampNeg) x2)) 0 47 ((eI h_6 0 47) + 1)) x1 x2 0) else none) else (f_X9_laysFlock_188 (f_X9_laysFlock_7 n) h_6 x1 x2)))) else (f_X9_laysFlock_188 (f_X9_laysFlock_7 n) h_4 x1 x2))))))))
theorem f_X9_laysFlock_7_s (n : Nat) (h : HS) (x1 : Int32) (x2 : Int32) : f_X9_laysFlock_7 (n + 1) h x1 x2 = (if ((eA h 0 0) 1) ≤ x2 then (some h) else (ob2 (f_X9_isHome h x2) (fun r_2 h_2 => (if r_2 = 0 then (f_X9_laysFlock_188 (f_X9_laysFlock_7 n) h_2 x1 x2) else (ob2 (f_X9_ofGoose h_2 x2 8) (fun r_4 h_4 => (if r_4 = 0 then (ob2 (f_X9_ofGoose h_4 x2 2) (fun r_6 h_6 => (if r_6 = (-1) then (if 0 ≤ ((eI h_6 0 47)).toInt ∧ ((eI h_6 0 47)).toInt < 10 then (f_X9_laysFlock_67 (f_X9_laysFlock_7 n) 8589934592 (sI (sA h_6 0 46 (upd (eA h_6 0 46) (((eI h_6 0 47)).toNatClampNeg) x2)) 0 47 ((eI h_6 0 47) + 1)) x1 x2 0) else none) else (f_X9_laysFlock_188 (f_X9_laysFlock_7 n) h_6 x1 x2)))) else (f_X9_laysFlock_188 (f_X9_laysFlock_7 n) h_4 x1 x2)))))))) := rfl
def f_X9_laysFlock (h : HS) (p1 : Int32) : Option HS := (f_X9_laysFlock_7 8589934592 (sI h 0 47 0) p1 0)
set_option maxHeartbeats 4000000 in
set_option maxRecDepth 100000 in
theorem c_X9_laysFlock (l : Launch) (G : va_G) (cI cJ cZ cB cT : ClassId) (m0 : Nat) (r : Nat → Nat) (h : HS) (p1 : Int32) (hh : HS) (hF : f_X9_laysFlock h p1 = some hh) : gMv l yX9_laysFlock (gws yX9_laysFlock cX9_laysFlock 6 none) 5 G (gT cI cJ cZ cB cT) [.ref m0, .int p1] (wM m0 r cI cJ cZ cB cT h) (fun (_ : Unit) => True) (fun (_ : Unit) => (wM m0 r cI cJ cZ cB cT hh)) := by
  intro sz
  refine gM_start (y := yX9_laysFlock) (av := [.ref m0, .int p1]) (ws := (wM m0 r cI cJ cZ cB cT h)) (Qf := fun A => va_Qv (fun (_ : Unit) => True) (gB G (fun (_ : Unit) => (wM m0 r cI cJ cZ cB cT hh)) A) A) (cc := cX9_laysFlock) (maxL := 6) (ret := none) (by decide) (Nat.le_of_ble_eq_true rfl) ?_
  intro p e s m args below meth c A ls H hx hb hr hts hown hin hlocks hml hP hK hD hA hS hl hE
  have hl : lv_has ls 6 [(0, .ref m0), (1, .int p1)] := hl
  have hJ_7 : ∀ (n_7 : Nat) (h : HS) (x1 : Int32) (x2 : Int32), f_X9_laysFlock_7 n_7 h x1 x2 = some hh → ∀ (H : Heap) (locs : List Loc) (ls : Array Slot), va_P G vwCl (wM m0 r cI cJ cZ cB cT h) H → va_D A (wM m0 r cI cJ cZ cB cT h) → va_S A s.heap H locs → lv_has ls 6 [(0, .ref m0), (1, .int x1), (2, .int x2)] → W p l e (gRm 5) s m args below meth c H locs 0 0 (MQ below (va_Qv (fun (_ : Unit) => True) (gB G (fun (_ : Unit) => (wM m0 r cI cJ cZ cB cT hh)) A) A) args s 0 0 A) (F0 m 7 ls []) := by
    intro n_7
    induction n_7 with
    | zero =>
      intro h x1 x2 hF
      exact absurd hF (by simp [f_X9_laysFlock_7])
    | succ n_7 ih_7 =>
      have hJ_188 : ∀ (h : HS) (x1 : Int32) (x2 : Int32), f_X9_laysFlock_188 (f_X9_laysFlock_7 n_7) h x1 x2 = some hh → ∀ (H : Heap) (locs : List Loc) (ls : Array Slot), va_P G vwCl (wM m0 r cI cJ cZ cB cT h) H → va_D A (wM m0 r cI cJ cZ cB cT h) → va_S A s.heap H locs → lv_has ls 6 [(0, .ref m0), (1, .int x1), (2, .int x2)] → W p l e (gRm 5) s m args below meth c H locs 0 0 (MQ below (va_Qv (fun (_ : Unit) => True) (gB G (fun (_ : Unit) => (wM m0 r cI cJ cZ cB cT hh)) A) A) args s 0 0 A) (F0 m 188 ls []) := by
        intro h x1 x2 hF H locs ls hP hD hS hl
        unfold f_X9_laysFlock_188 at hF
        refine lv_iinc (v := (x2 + 1)) (lv' := [(2, .int (x2 + 1)), (0, .ref m0), (1, .int x1)]) hx hb dX9_laysFlock_188 hl (k := 2) rfl rfl (by decide) rfl (fun ls hl => ?_)
        refine lv_goto (tgt := 7) hx hb dX9_laysFlock_191 (by decide) ?_
        exact ih_7 h x1 (x2 + 1) hF H _ ls hP hD hS (lv_sub hl [1, 2, 0] rfl)
      have hJ_67 : ∀ (n_67 : Nat) (h : HS) (x1 : Int32) (x2 : Int32) (x3 : Int32), f_X9_laysFlock_67 (f_X9_laysFlock_7 n_7) n_67 h x1 x2 x3 = some hh → ∀ (H : Heap) (locs : List Loc) (ls : Array Slot), va_P G vwCl (wM m0 r cI cJ cZ cB cT h) H → va_D A (wM m0 r cI cJ cZ cB cT h) → va_S A s.heap H locs → lv_has ls 6 [(0, .ref m0), (1, .int x1), (2, .int x2), (3, .int x3)] → W p l e (gRm 5) s m args below meth c H locs 0 0 (MQ below (va_Qv (fun (_ : Unit) => True) (gB G (fun (_ : Unit) => (wM m0 r cI cJ cZ cB cT hh)) A) A) args s 0 0 A) (F0 m 67 ls []) := by
        intro n_67
        induction n_67 with
        | zero =>
          intro h x1 x2 x3 hF
          exact absurd hF (by simp [f_X9_laysFlock_67])
        | succ n_67 ih_67 =>
          intro h x1 x2 x3 hF H locs ls hP hD hS hl
          rw [f_X9_laysFlock_67_s] at hF
          refine lv_iload_n hx hb dX9_laysFlock_67 rfl (lv_at hl 3 rfl) ?_
          refine lv_iconst (v := 3) hx hb dX9_laysFlock_68 (by decide) ?_
          refine lv_aload_n hx hb dX9_laysFlock_69 rfl (lv_at hl 0 rfl) ?_
          refine va_get (D := G) (ci := 9) (v := .ref (r 0)) (C := RX9) (T := TX9) (N := 53) hx hb hts iX9 hown hK hP 0 wM_at0 rfl 0 (by decide) (hts _ m_92) (fun _ h9 => h9) rfl dX9_laysFlock_70 ?_
          refine lv_iconst (v := 0) hx hb dX9_laysFlock_73 (by decide) ?_
          refine va_iald (D := G) hx hb hK hP 1 0 wM_at1 rfl (vp_in_nI (n := 0) (by decide) (by decide)) dX9_laysFlock_74 ?_
          refine gw_topi (y := ((eA h 0 0) 0)) rfl ?_
          refine lv_imul hx hb dX9_laysFlock_75 ?_
          refine lv_icmp_ge (tgt := 188) hx hb dX9_laysFlock_76 (by decide) (fun c_9 => ?_) (fun c_9 => ?_)
          · have hF := ob_pos c_9 hF
            exact hJ_188 h x1 x2 hF H _ ls hP hD hS (lv_sub hl [0, 1, 2] rfl)
          · have hF := ob_neg c_9 hF
            refine lv_iload_n hx hb dX9_laysFlock_79 rfl (lv_at hl 3 rfl) ?_
            refine lv_iconst (v := 3) hx hb dX9_laysFlock_80 (by decide) ?_
            refine lv_idiv hx hb dX9_laysFlock_81 (by decide) ?_
            refine lv_istore (lv' := [(4, .int (x3 / 3)), (0, .ref m0), (1, .int x1), (2, .int x2), (3, .int x3)]) hx hb dX9_laysFlock_82 hl (by decide) rfl (fun ls hl => ?_)
            refine lv_aload_n hx hb dX9_laysFlock_84 rfl (lv_at hl 1 rfl) ?_
            refine va_get (D := G) (ci := 9) (v := .ref (r 0)) (C := RX9) (T := TX9) (N := 53) hx hb hts iX9 hown hK hP 0 wM_at0 rfl 0 (by decide) (hts _ m_92) (fun _ h9 => h9) rfl dX9_laysFlock_85 ?_
            refine lv_bipush (v := 121) hx hb dX9_laysFlock_88 (by decide) ?_
            refine va_iald (D := G) hx hb hK hP 1 0 wM_at1 rfl (vp_in_nI (n := 121) (by decide) (by decide)) dX9_laysFlock_90 ?_
            refine gw_topi (y := ((eA h 0 0) 121)) rfl ?_
            refine lv_aload_n hx hb dX9_laysFlock_91 rfl (lv_at hl 1 rfl) ?_
            refine va_get (D := G) (ci := 9) (v := .ref (r 0)) (C := RX9) (T := TX9) (N := 53) hx hb hts iX9 hown hK hP 0 wM_at0 rfl 0 (by decide) (hts _ m_92) (fun _ h9 => h9) rfl dX9_laysFlock_92 ?_
            refine lv_bipush (v := 10) hx hb dX9_laysFlock_95 (by decide) ?_
            refine lv_iconst (v := 3) hx hb dX9_laysFlock_97 (by decide) ?_
            refine lv_iload hx hb dX9_laysFlock_98 (lv_at hl 0 rfl) ?_
            refine lv_imul hx hb dX9_laysFlock_100 ?_
            refine lv_iadd hx hb dX9_laysFlock_101 ?_
            obtain ⟨hi_10, hF⟩ := ob_if hF
            refine va_iald (D := G) hx hb hK hP 1 0 wM_at1 rfl (vp_in_iff.mpr hi_10) dX9_laysFlock_102 ?_
            refine gw_topi (y := ((eA h 0 0) (((10 + (3 * (x3 / 3)))).toNatClampNeg))) rfl ?_
            refine lv_iadd hx hb dX9_laysFlock_103 ?_
            refine lv_istore (lv' := [(5, .int (((eA h 0 0) 121) + ((eA h 0 0) (((10 + (3 * (x3 / 3)))).toNatClampNeg)))), (4, .int (x3 / 3)), (0, .ref m0), (1, .int x1), (2, .int x2), (3, .int x3)]) hx hb dX9_laysFlock_104 hl (by decide) rfl (fun ls hl => ?_)
            refine lv_aload_n hx hb dX9_laysFlock_106 rfl (lv_at hl 2 rfl) ?_
            refine va_get (D := G) (ci := 9) (v := .ref (r 43)) (C := RX9) (T := TX9) (N := 53) hx hb hts iX9 hown hK hP 0 wM_at0 rfl 43 (by decide) (hts _ m_377) (fun _ h9 => h9) rfl dX9_laysFlock_107 ?_
            refine lv_bipush (v := 12) hx hb dX9_laysFlock_110 (by decide) ?_
            refine lv_iload_n hx hb dX9_laysFlock_112 rfl (lv_at hl 4 rfl) ?_
            refine lv_imul hx hb dX9_laysFlock_113 ?_
            refine lv_iload_n hx hb dX9_laysFlock_114 rfl (lv_at hl 5 rfl) ?_
            refine lv_iadd hx hb dX9_laysFlock_115 ?_
            refine lv_aload_n hx hb dX9_laysFlock_116 rfl (lv_at hl 2 rfl) ?_
            refine lv_iconst (v := 0) hx hb dX9_laysFlock_117 (by decide) ?_
            refine lv_iload_n hx hb dX9_laysFlock_118 rfl (lv_at hl 4 rfl) ?_
            refine lv_iload_n hx hb dX9_laysFlock_119 rfl (lv_at hl 3 rfl) ?_
            refine lv_iload_n hx hb dX9_laysFlock_120 rfl (lv_at hl 5 rfl) ?_
            refine lv_iconst (v := 3) hx hb dX9_laysFlock_121 (by decide) ?_
            refine lv_irem hx hb dX9_laysFlock_122 (by decide) ?_
            refine lv_iload hx hb dX9_laysFlock_123 (lv_at hl 1 rfl) ?_
            refine lv_iload hx hb dX9_laysFlock_125 (lv_at hl 0 rfl) ?_
            obtain ⟨r_11, h_11, e_11, hF⟩ := ob2_some hF
            refine gx_calli (gx_runV (As := [.int 0, .int x2, .int x1, .int (x3 - x3 / 3 * 3), .int (x3 / 3), .int (((eA h 0 0) 121) + ((eA h 0 0) (((10 + (3 * (x3 / 3)))).toNatClampNeg)))]) (rest := [.int ((12 * x2) + x3), .ref (r 43)]) ⟨hx, hb, hml, hown, hts⟩ (c_X9_marketTells l G cI cJ cZ cB cT m0 r h 0 x2 x1 (x3 - x3 / 3 * 3) (x3 / 3) (((eA h 0 0) 121) + ((eA h 0 0) (((10 + (3 * (x3 / 3)))).toNatClampNeg))) r_11 h_11 e_11 H.size) (gG_V m_297 m_298 m_299 m_64 m_296) rfl e_X9_marketTells ⟨Nat.le_of_ble_eq_true rfl, Nat.le_of_ble_eq_true rfl⟩ hK hP hD hE hS hA 0 wM_at0 rfl rfl hl.1 rfl (Nat.le_of_ble_eq_true rfl) dX9_laysFlock_127 ⟨Nat.le_refl _, Nat.le_refl _⟩) hP hD hS hA (fun x_11 u_11 H locs hw_11 hP hD hS => ?_)
            subst x_11
            obtain ⟨hi_12, hF⟩ := ob_if hF
            refine va_iast (D := G) hx hb hK hP hD hS 27 0 wM_at27 rfl (vp_in_iff.mpr hi_12) dX9_laysFlock_130 (fun H locs hP hD hS => ?_)
            rw [wM_sA27] at hP hD
            have hP : va_P G vwCl (wM m0 r cI cJ cZ cB cT (sA h_11 0 43 (upd (eA h_11 0 43) ((((12 * x2) + x3)).toNatClampNeg) r_11))) H := hP
            have hD : va_D A (wM m0 r cI cJ cZ cB cT (sA h_11 0 43 (upd (eA h_11 0 43) ((((12 * x2) + x3)).toNatClampNeg) r_11))) := hD
            refine lv_aload_n hx hb dX9_laysFlock_131 rfl (lv_at hl 2 rfl) ?_
            refine va_get (D := G) (ci := 9) (v := .ref (r 44)) (C := RX9) (T := TX9) (N := 53) hx hb hts iX9 hown hK hP 0 wM_at0 rfl 44 (by decide) (hts _ m_378) (fun _ h9 => h9) rfl dX9_laysFlock_132 ?_
            refine lv_bipush (v := 12) hx hb dX9_laysFlock_135 (by decide) ?_
            refine lv_iload_n hx hb dX9_laysFlock_137 rfl (lv_at hl 4 rfl) ?_
            refine lv_imul hx hb dX9_laysFlock_138 ?_
            refine lv_iload_n hx hb dX9_laysFlock_139 rfl (lv_at hl 5 rfl) ?_
            refine lv_iadd hx hb dX9_laysFlock_140 ?_
            refine lv_aload_n hx hb dX9_laysFlock_141 rfl (lv_at hl 2 rfl) ?_
            refine lv_iconst (v := 1) hx hb dX9_laysFlock_142 (by decide) ?_
            refine lv_iload_n hx hb dX9_laysFlock_143 rfl (lv_at hl 4 rfl) ?_
            refine lv_iload_n hx hb dX9_laysFlock_144 rfl (lv_at hl 3 rfl) ?_
            refine lv_iload_n hx hb dX9_laysFlock_145 rfl (lv_at hl 5 rfl) ?_
            refine lv_iconst (v := 3) hx hb dX9_laysFlock_146 (by decide) ?_
            refine lv_irem hx hb dX9_laysFlock_147 (by decide) ?_
            refine lv_iload hx hb dX9_laysFlock_148 (lv_at hl 1 rfl) ?_
            refine lv_iload hx hb dX9_laysFlock_150 (lv_at hl 0 rfl) ?_
            obtain ⟨r_13, h_13, e_13, hF⟩ := ob2_some hF
            refine gx_calli (gx_runV (As := [.int 1, .int x2, .int x1, .int (x3 - x3 / 3 * 3), .int (x3 / 3), .int (((eA h 0 0) 121) + ((eA h 0 0) (((10 + (3 * (x3 / 3)))).toNatClampNeg)))]) (rest := [.int ((12 * x2) + x3), .ref (r 44)]) ⟨hx, hb, hml, hown, hts⟩ (c_X9_marketTells l G cI cJ cZ cB cT m0 r (sA h_11 0 43 (upd (eA h_11 0 43) ((((12 * x2) + x3)).toNatClampNeg) r_11)) 1 x2 x1 (x3 - x3 / 3 * 3) (x3 / 3) (((eA h 0 0) 121) + ((eA h 0 0) (((10 + (3 * (x3 / 3)))).toNatClampNeg))) r_13 h_13 e_13 H.size) (gG_V m_297 m_298 m_299 m_64 m_296) rfl e_X9_marketTells ⟨Nat.le_of_ble_eq_true rfl, Nat.le_of_ble_eq_true rfl⟩ hK hP hD hE hS hA 0 wM_at0 rfl rfl hl.1 rfl (Nat.le_of_ble_eq_true rfl) dX9_laysFlock_152 ⟨Nat.le_refl _, Nat.le_refl _⟩) hP hD hS hA (fun x_13 u_13 H locs hw_13 hP hD hS => ?_)
            subst x_13
            obtain ⟨hi_14, hF⟩ := ob_if hF
            refine va_iast (D := G) hx hb hK hP hD hS 28 0 wM_at28 rfl (vp_in_iff.mpr hi_14) dX9_laysFlock_155 (fun H locs hP hD hS => ?_)
            rw [wM_sA28] at hP hD
            have hP : va_P G vwCl (wM m0 r cI cJ cZ cB cT (sA h_13 0 44 (upd (eA h_13 0 44) ((((12 * x2) + x3)).toNatClampNeg) r_13))) H := hP
            have hD : va_D A (wM m0 r cI cJ cZ cB cT (sA h_13 0 44 (upd (eA h_13 0 44) ((((12 * x2) + x3)).toNatClampNeg) r_13))) := hD
            refine lv_aload_n hx hb dX9_laysFlock_156 rfl (lv_at hl 2 rfl) ?_
            refine va_get (D := G) (ci := 9) (v := .ref (r 45)) (C := RX9) (T := TX9) (N := 53) hx hb hts iX9 hown hK hP 0 wM_at0 rfl 45 (by decide) (hts _ m_379) (fun _ h9 => h9) rfl dX9_laysFlock_157 ?_
            refine lv_bipush (v := 12) hx hb dX9_laysFlock_160 (by decide) ?_
            refine lv_iload_n hx hb dX9_laysFlock_162 rfl (lv_at hl 4 rfl) ?_
            refine lv_imul hx hb dX9_laysFlock_163 ?_
            refine lv_iload_n hx hb dX9_laysFlock_164 rfl (lv_at hl 5 rfl) ?_
            refine lv_iadd hx hb dX9_laysFlock_165 ?_
            refine lv_aload_n hx hb dX9_laysFlock_166 rfl (lv_at hl 2 rfl) ?_
            refine lv_iload_n hx hb dX9_laysFlock_167 rfl (lv_at hl 4 rfl) ?_
            refine lv_iload_n hx hb dX9_laysFlock_168 rfl (lv_at hl 3 rfl) ?_
            refine lv_iload_n hx hb dX9_laysFlock_169 rfl (lv_at hl 5 rfl) ?_
            refine lv_iconst (v := 3) hx hb dX9_laysFlock_170 (by decide) ?_
            refine lv_irem hx hb dX9_laysFlock_171 (by decide) ?_
            refine lv_aload_n hx hb dX9_laysFlock_172 rfl (lv_at hl 2 rfl) ?_
            refine lv_iload_n hx hb dX9_laysFlock_173 rfl (lv_at hl 4 rfl) ?_
            refine lv_iconst (v := 1) hx hb dX9_laysFlock_174 (by decide) ?_
            obtain ⟨r_15, h_15, e_15, hF⟩ := ob2_some hF
            refine gx_calli (gx_runV (As := [.int x2, .int 1]) (rest := [.int (x3 - x3 / 3 * 3), .int x1, .int x2, .ref m0, .int ((12 * x2) + x3), .ref (r 45)]) ⟨hx, hb, hml, hown, hts⟩ (c_X9_ofGoose l G cI cJ cZ cB cT m0 r (sA h_13 0 44 (upd (eA h_13 0 44) ((((12 * x2) + x3)).toNatClampNeg) r_13)) x2 1 r_15 h_15 e_15 H.size) (gG_V m_103 m_104 m_105 m_64 m_102) rfl e_X9_ofGoose ⟨Nat.le_of_ble_eq_true rfl, Nat.le_of_ble_eq_true rfl⟩ hK hP hD hE hS hA 0 wM_at0 rfl rfl hl.1 rfl (Nat.le_of_ble_eq_true rfl) dX9_laysFlock_175 ⟨Nat.le_refl _, Nat.le_refl _⟩) hP hD hS hA (fun x_15 u_15 H locs hw_15 hP hD hS => ?_)
            subst x_15
            obtain ⟨r_16, h_16, e_16, hF⟩ := ob2_some hF
            refine gx_calli (gx_runV (As := [.int x2, .int x1, .int (x3 - x3 / 3 * 3), .int r_15]) (rest := [.int ((12 * x2) + x3), .ref (r 45)]) ⟨hx, hb, hml, hown, hts⟩ (c_X9_isTrueBy l G cI cJ cZ cB cT m0 r h_15 x2 x1 (x3 - x3 / 3 * 3) r_15 r_16 h_16 e_16 H.size) (gG_V m_301 m_302 m_303 m_64 m_300) rfl e_X9_isTrueBy ⟨Nat.le_of_ble_eq_true rfl, Nat.le_of_ble_eq_true rfl⟩ hK hP hD hE hS hA 0 wM_at0 rfl rfl hl.1 rfl (Nat.le_of_ble_eq_true rfl) dX9_laysFlock_178 ⟨Nat.le_refl _, Nat.le_refl _⟩) hP hD hS hA (fun x_16 u_16 H locs hw_16 hP hD hS => ?_)
            subst x_16
            obtain ⟨hi_17, hF⟩ := ob_if hF
            refine va_zast (D := G) hx hb hK hP hD hS 29 2 wM_at29 rfl (vp_in_iff.mpr hi_17) dX9_laysFlock_181 (fun H locs hP hD hS => ?_)
            rw [wM_sA29] at hP hD
            have hP : va_P G vwCl (wM m0 r cI cJ cZ cB cT (sA h_16 0 45 (upd (eA h_16 0 45) ((((12 * x2) + x3)).toNatClampNeg) (vp_nar .boolean r_16)))) H := hP
            have hD : va_D A (wM m0 r cI cJ cZ cB cT (sA h_16 0 45 (upd (eA h_16 0 45) ((((12 * x2) + x3)).toNatClampNeg) (vp_nar .boolean r_16)))) := hD
            refine lv_iinc (v := (x3 + 1)) (lv' := [(3, .int (x3 + 1)), (5, .int (((eA h 0 0) 121) + ((eA h 0 0) (((10 + (3 * (x3 / 3)))).toNatClampNeg)))), (4, .int (x3 / 3)), (0, .ref m0), (1, .int x1), (2, .int x2)]) hx hb dX9_laysFlock_182 hl (k := 5) rfl rfl (by decide) rfl (fun ls hl => ?_)
            refine lv_goto (tgt := 67) hx hb dX9_laysFlock_185 (by decide) ?_
            exact ih_67 (sA h_16 0 45 (upd (eA h_16 0 45) ((((12 * x2) + x3)).toNatClampNeg) (vp_nar .boolean r_16))) x1 x2 (x3 + 1) hF H _ ls hP hD hS (lv_sub hl [3, 4, 5, 0] rfl)
      intro h x1 x2 hF H locs ls hP hD hS hl
      rw [f_X9_laysFlock_7_s] at hF
      refine lv_iload_n hx hb dX9_laysFlock_7 rfl (lv_at hl 2 rfl) ?_
      refine lv_aload_n hx hb dX9_laysFlock_8 rfl (lv_at hl 0 rfl) ?_
      refine va_get (D := G) (ci := 9) (v := .ref (r 0)) (C := RX9) (T := TX9) (N := 53) hx hb hts iX9 hown hK hP 0 wM_at0 rfl 0 (by decide) (hts _ m_92) (fun _ h9 => h9) rfl dX9_laysFlock_9 ?_
      refine lv_iconst (v := 1) hx hb dX9_laysFlock_12 (by decide) ?_
      refine va_iald (D := G) hx hb hK hP 1 0 wM_at1 rfl (vp_in_nI (n := 1) (by decide) (by decide)) dX9_laysFlock_13 ?_
      refine gw_topi (y := ((eA h 0 0) 1)) rfl ?_
      refine lv_icmp_ge (tgt := 194) hx hb dX9_laysFlock_14 (by decide) (fun c_1 => ?_) (fun c_1 => ?_)
      · have hF := ob_pos c_1 hF
        obtain rfl := ob_one hF
        exact gw_vret () hx hb hr hlocks hP hD hS trivial dX9_laysFlock_194
      · have hF := ob_neg c_1 hF
        refine lv_aload_n hx hb dX9_laysFlock_17 rfl (lv_at hl 0 rfl) ?_
        refine lv_iload_n hx hb dX9_laysFlock_18 rfl (lv_at hl 2 rfl) ?_
        obtain ⟨r_2, h_2, e_2, hF⟩ := ob2_some hF
        refine gx_calli (gx_runV (As := [.int x2]) (rest := []) ⟨hx, hb, hml, hown, hts⟩ (c_X9_isHome l G cI cJ cZ cB cT m0 r h x2 r_2 h_2 e_2 H.size) (gG_V m_285 m_286 m_287 m_64 m_284) rfl e_X9_isHome ⟨Nat.le_of_ble_eq_true rfl, Nat.le_of_ble_eq_true rfl⟩ hK hP hD hE hS hA 0 wM_at0 rfl rfl hl.1 rfl (Nat.le_of_ble_eq_true rfl) dX9_laysFlock_19 ⟨Nat.le_refl _, Nat.le_refl _⟩) hP hD hS hA (fun x_2 u_2 H locs hw_2 hP hD hS => ?_)
        subst x_2
        refine lv_if_eq (tgt := 188) hx hb dX9_laysFlock_22 (by decide) (fun c_3 => ?_) (fun c_3 => ?_)
        · have hF := ob_pos c_3 hF
          exact hJ_188 h_2 x1 x2 hF H _ ls hP hD hS (lv_sub hl [0, 1, 2] rfl)
        · have hF := ob_neg c_3 hF
          refine lv_aload_n hx hb dX9_laysFlock_25 rfl (lv_at hl 0 rfl) ?_
          refine lv_iload_n hx hb dX9_laysFlock_26 rfl (lv_at hl 2 rfl) ?_
          refine lv_bipush (v := 8) hx hb dX9_laysFlock_27 (by decide) ?_
          obtain ⟨r_4, h_4, e_4, hF⟩ := ob2_some hF
          refine gx_calli (gx_runV (As := [.int x2, .int 8]) (rest := []) ⟨hx, hb, hml, hown, hts⟩ (c_X9_ofGoose l G cI cJ cZ cB cT m0 r h_2 x2 8 r_4 h_4 e_4 H.size) (gG_V m_103 m_104 m_105 m_64 m_102) rfl e_X9_ofGoose ⟨Nat.le_of_ble_eq_true rfl, Nat.le_of_ble_eq_true rfl⟩ hK hP hD hE hS hA 0 wM_at0 rfl rfl hl.1 rfl (Nat.le_of_ble_eq_true rfl) dX9_laysFlock_29 ⟨Nat.le_refl _, Nat.le_refl _⟩) hP hD hS hA (fun x_4 u_4 H locs hw_4 hP hD hS => ?_)
          subst x_4
          refine lv_if_ne (tgt := 188) hx hb dX9_laysFlock_32 (by decide) (fun c_5 => ?_) (fun c_5 => ?_)
          · have hF := ob_neg c_5 hF
            exact hJ_188 h_4 x1 x2 hF H _ ls hP hD hS (lv_sub hl [0, 1, 2] rfl)
          · have hF := ob_pos c_5 hF
            refine lv_aload_n hx hb dX9_laysFlock_35 rfl (lv_at hl 0 rfl) ?_
            refine lv_iload_n hx hb dX9_laysFlock_36 rfl (lv_at hl 2 rfl) ?_
            refine lv_iconst (v := 2) hx hb dX9_laysFlock_37 (by decide) ?_
            obtain ⟨r_6, h_6, e_6, hF⟩ := ob2_some hF
            refine gx_calli (gx_runV (As := [.int x2, .int 2]) (rest := []) ⟨hx, hb, hml, hown, hts⟩ (c_X9_ofGoose l G cI cJ cZ cB cT m0 r h_4 x2 2 r_6 h_6 e_6 H.size) (gG_V m_103 m_104 m_105 m_64 m_102) rfl e_X9_ofGoose ⟨Nat.le_of_ble_eq_true rfl, Nat.le_of_ble_eq_true rfl⟩ hK hP hD hE hS hA 0 wM_at0 rfl rfl hl.1 rfl (Nat.le_of_ble_eq_true rfl) dX9_laysFlock_38 ⟨Nat.le_refl _, Nat.le_refl _⟩) hP hD hS hA (fun x_6 u_6 H locs hw_6 hP hD hS => ?_)
            subst x_6
            refine lv_iconst (v := (-1)) hx hb dX9_laysFlock_41 (by decide) ?_
            refine lv_icmp_ne (tgt := 188) hx hb dX9_laysFlock_42 (by decide) (fun c_7 => ?_) (fun c_7 => ?_)
            · have hF := ob_neg c_7 hF
              exact hJ_188 h_6 x1 x2 hF H _ ls hP hD hS (lv_sub hl [0, 1, 2] rfl)
            · have hF := ob_pos c_7 hF
              refine lv_aload_n hx hb dX9_laysFlock_45 rfl (lv_at hl 0 rfl) ?_
              refine va_get (D := G) (ci := 9) (v := .ref (r 46)) (C := RX9) (T := TX9) (N := 53) hx hb hts iX9 hown hK hP 0 wM_at0 rfl 46 (by decide) (hts _ m_376) (fun _ h9 => h9) rfl dX9_laysFlock_46 ?_
              refine lv_aload_n hx hb dX9_laysFlock_49 rfl (lv_at hl 0 rfl) ?_
              refine va_get (D := G) (ci := 9) (v := .int (eI h_6 0 47)) (C := RX9) (T := TX9) (N := 53) hx hb hts iX9 hown hK hP 0 wM_at0 rfl 47 (by decide) (hts _ m_375) (fun _ h9 => h9) rfl dX9_laysFlock_50 ?_
              refine lv_iload_n hx hb dX9_laysFlock_53 rfl (lv_at hl 2 rfl) ?_
              obtain ⟨hi_8, hF⟩ := ob_if hF
              refine va_iast (D := G) hx hb hK hP hD hS 30 0 wM_at30 rfl (vp_in_iff.mpr hi_8) dX9_laysFlock_54 (fun H locs hP hD hS => ?_)
              rw [wM_sA30] at hP hD
              have hP : va_P G vwCl (wM m0 r cI cJ cZ cB cT (sA h_6 0 46 (upd (eA h_6 0 46) (((eI h_6 0 47)).toNatClampNeg) x2))) H := hP
              have hD : va_D A (wM m0 r cI cJ cZ cB cT (sA h_6 0 46 (upd (eA h_6 0 46) (((eI h_6 0 47)).toNatClampNeg) x2))) := hD
              refine lv_aload_n hx hb dX9_laysFlock_55 rfl (lv_at hl 0 rfl) ?_
              refine lv_dup hx hb dX9_laysFlock_56 rfl ?_
              refine va_get (D := G) (ci := 9) (v := .int (eI h_6 0 47)) (C := RX9) (T := TX9) (N := 53) hx hb hts iX9 hown hK hP 0 wM_at0 rfl 47 (by decide) (hts _ m_375) (fun _ h9 => h9) rfl dX9_laysFlock_57 ?_
              refine lv_iconst (v := 1) hx hb dX9_laysFlock_60 (by decide) ?_
              refine lv_iadd hx hb dX9_laysFlock_61 ?_
              refine va_put (D := G) (ci := 9) (v := .int ((eI h_6 0 47) + 1)) (ty := .int) (C := RX9) (T := TX9) (N := 53) hx hb hts iX9 tyX9 tyX9_ok nmX9 hown hK hP hD hS 0 wM_at0 rfl 47 (by decide) (hts _ m_375) (fun _ h9 => h9) rfl (tyX9_ok 47 (by decide)) rfl rfl (Nat.le_of_ble_eq_true rfl) dX9_laysFlock_62 (fun H locs hP hD hS => ?_)
              rw [wM_sI0_47] at hP hD
              refine lv_iconst (v := 0) hx hb dX9_laysFlock_65 (by decide) ?_
              refine lv_istore_n (lv' := [(3, .int 0), (0, .ref m0), (1, .int x1), (2, .int x2)]) hx hb dX9_laysFlock_66 rfl hl (by decide) rfl (fun ls hl => ?_)
              exact hJ_67 8589934592 (sI (sA h_6 0 46 (upd (eA h_6 0 46) (((eI h_6 0 47)).toNatClampNeg) x2)) 0 47 ((eI h_6 0 47) + 1)) x1 x2 0 hF H _ ls hP hD hS (lv_sub hl [1, 2, 3, 0] rfl)
  unfold f_X9_laysFlock at hF
  refine lv_aload_n hx hb dX9_laysFlock_0 rfl (lv_at hl 0 rfl) ?_
  refine lv_iconst (v := 0) hx hb dX9_laysFlock_1 (by decide) ?_
  refine va_put (D := G) (ci := 9) (v := .int 0) (ty := .int) (C := RX9) (T := TX9) (N := 53) hx hb hts iX9 tyX9 tyX9_ok nmX9 hown hK hP hD hS 0 wM_at0 rfl 47 (by decide) (hts _ m_375) (fun _ h9 => h9) rfl (tyX9_ok 47 (by decide)) rfl rfl (Nat.le_of_ble_eq_true rfl) dX9_laysFlock_2 (fun H locs hP hD hS => ?_)
  rw [wM_sI0_47] at hP hD
  refine lv_iconst (v := 0) hx hb dX9_laysFlock_5 (by decide) ?_
  refine lv_istore_n (lv' := [(2, .int 0), (0, .ref m0), (1, .int p1)]) hx hb dX9_laysFlock_6 rfl hl (by decide) rfl (fun ls hl => ?_)
  exact hJ_7 8589934592 (sI h 0 47 0) p1 0 hF H _ ls hP hD hS (lv_sub hl [1, 2, 0] rfl)
def f_X9_asksPlan_128 (h : HS) : Option HS := (some h)
def f_X9_asksPlan_138 : Nat → HS → Int32 → Int32 → Option HS
  | 0, _, _, _ => none
  | n + 1, h, x1, x7 => (if x1 ≤ x7 then (some h) else (if 0 ≤ (x7).toInt ∧ (x7).toInt < 3 then (if 0 ≤ (x7).toInt ∧ (x7).toInt < 3 then (if 0 ≤ (x7).toInt ∧ (x7).toInt < 3 then (if 0 ≤ (x7).toInt ∧ (x7).toInt < 3 then ((f_X9_asksPlan_138 n) (sA (sA h 0 50 (upd (eA h 0 50) ((x7).toNatClampNeg) ((eA h 0 48) ((x7).toNatClampNeg)))) 0 51 (upd (eA h 0 51) ((x7).toNatClampNeg) ((eA h 0 49) ((x7).toNatClampNeg)))) x1 (x7 + 1)) else none) else none) else none) else none))
theorem f_X9_asksPlan_138_s (n : Nat) (h : HS) (x1 : Int32) (x7 : Int32) : f_X9_asksPlan_138 (n + 1) h x1 x7 = (if x1 ≤ x7 then (some h) else (if 0 ≤ (x7).toInt ∧ (x7).toInt < 3 then (if 0 ≤ (x7).toInt ∧ (x7).toInt < 3 then (if 0 ≤ (x7).toInt ∧ (x7).toInt < 3 then (if 0 ≤ (x7).toInt ∧ (x7).toInt < 3 then ((f_X9_asksPlan_138 n) (sA (sA h 0 50 (upd (eA h 0 50) ((x7).toNatClampNeg) ((eA h 0 48) ((x7).toNatClampNeg)))) 0 51 (upd (eA h 0 51) ((x7).toNatClampNeg) ((eA h 0 49) ((x7).toNatClampNeg)))) x1 (x7 + 1)) else none) else none) else none) else none)) := rfl
def f_X9_asksPlan_129 (h : HS) (x1 : Int32) (x5 : Int64) : Option HS := (f_X9_asksPlan_138 8589934592 (sL h 0 52 x5) x1 0)
def f_X9_asksPlan_11 : Nat → HS → Int32 → Int32 → Int64 → Int32 → Option HS
  | 0, _, _, _, _, _ => none
  | n + 1, h, x1, x2, x3, x5 => (if x1 ≤ x5 then (ob2 (f_X9_manyOf h 1) (fun r_3 h_3 => (ob2 (f_X9_manyOf h_3 0) (fun r_4 h_4 => (if (lg_cmp (r_4 * 100) (x3 * ((x2).toInt64))) < 0 then (f_X9_asksPlan_128 h_4) else (if (lg_cmp (eL h_4 0 52) (-1)) = 0 then (f_X9_asksPlan_129 h_4 x1 r_3) else (if (lg_cmp r_3 (eL h_4 0 52)) < 0 then (f_X9_asksPlan_129 h_4 x1 r_3) else (f_X9_asksPlan_128 h_4)))))))) else (if 0 ≤ (x5).toInt ∧ (x5).toInt < 3 then (if 0 ≤ (x5).toInt ∧ (x5).toInt < 3 then (if 0 ≤ (((12 * ((eA h 0 48) ((x5).toNatClampNeg))) + ((eA h 0 49) ((x5).toNatClampNeg)))).toInt ∧ (((12 * ((eA h 0 48) ((x5).toNatClampNeg))) + ((eA h 0 49) ((x5).toNatClampNeg)))).toInt < 120 then (if 0 ≤ (((12 * ((eA h 0 48) ((x5).toNatClampNeg))) + ((eA h 0 49) ((x5).toNatClampNeg)))).toInt ∧ (((12 * ((eA h 0 48) ((x5).toNatClampNeg))) + ((eA h 0 49) ((x5).toNatClampNeg)))).toInt < 120 then (if 0 ≤ (x5).toInt ∧ (x5).toInt < 3 then (if 0 ≤ (((12 * ((eA h 0 48) ((x5).toNatClampNeg))) + ((eA h 0 49) ((x5).toNatClampNeg)))).toInt ∧ (((12 * ((eA h 0 48) ((x5).toNatClampNeg))) + ((eA h 0 49) ((x5).toNatClampNeg)))).toInt < 120 then (ob1 (f_X9_comesMany h ((eA h 0 43) ((((12 * ((eA h 0 48) ((x5).toNatClampNeg))) + ((eA h 0 49) ((x5).toNatClampNeg)))).toNatClampNeg)) ((eA h 0 44) ((((12 * ((eA h 0 48) ((x5).toNatClampNeg))) + ((eA h 0 49) ((x5).toNatClampNeg)))).toNatClampNeg)) (((eA h 0 49) ((x5).toNatClampNeg)) - ((eA h 0 49) ((x5).toNatClampNeg)) / 3 * 3) ((eA h 0 45) ((((12 * ((eA h 0 48) ((x5).toNatClampNeg))) + ((eA h 0 49) ((x5).toNatClampNeg)))).toNatClampNeg))) (fun h_14 => ((f_X9_asksPlan_11 n) h_14 x1 x2 (x3 * 100) (x5 + 1)))) else none) else none) else none) else none) else none) else none))
theorem f_X9_asksPlan_11_s (n : Nat) (h : HS) (x1 : Int32) (x2 : Int32) (x3 : Int64) (x5 : Int32) : f_X9_asksPlan_11 (n + 1) h x1 x2 x3 x5 = (if x1 ≤ x5 then (ob2 (f_X9_manyOf h 1) (fun r_3 h_3 => (ob2 (f_X9_manyOf h_3 0) (fun r_4 h_4 => (if (lg_cmp (r_4 * 100) (x3 * ((x2).toInt64))) < 0 then (f_X9_asksPlan_128 h_4) else (if (lg_cmp (eL h_4 0 52) (-1)) = 0 then (f_X9_asksPlan_129 h_4 x1 r_3) else (if (lg_cmp r_3 (eL h_4 0 52)) < 0 then (f_X9_asksPlan_129 h_4 x1 r_3) else (f_X9_asksPlan_128 h_4)))))))) else (if 0 ≤ (x5).toInt ∧ (x5).toInt < 3 then (if 0 ≤ (x5).toInt ∧ (x5).toInt < 3 then (if 0 ≤ (((12 * ((eA h 0 48) ((x5).toNatClampNeg))) + ((eA h 0 49) ((x5).toNatClampNeg)))).toInt ∧ (((12 * ((eA h 0 48) ((x5).toNatClampNeg))) + ((eA h 0 49) ((x5).toNatClampNeg)))).toInt < 120 then (if 0 ≤ (((12 * ((eA h 0 48) ((x5).toNatClampNeg))) + ((eA h 0 49) ((x5).toNatClampNeg)))).toInt ∧ (((12 * ((eA h 0 48) ((x5).toNatClampNeg))) + ((eA h 0 49) ((x5).toNatClampNeg)))).toInt < 120 then (if 0 ≤ (x5).toInt ∧ (x5).toInt < 3 then (if 0 ≤ (((12 * ((eA h 0 48) ((x5).toNatClampNeg))) + ((eA h 0 49) ((x5).toNatClampNeg)))).toInt ∧ (((12 * ((eA h 0 48) ((x5).toNatClampNeg))) + ((eA h 0 49) ((x5).toNatClampNeg)))).toInt < 120 then (ob1 (f_X9_comesMany h ((eA h 0 43) ((((12 * ((eA h 0 48) ((x5).toNatClampNeg))) + ((eA h 0 49) ((x5).toNatClampNeg)))).toNatClampNeg)) ((eA h 0 44) ((((12 * ((eA h 0 48) ((x5).toNatClampNeg))) + ((eA h 0 49) ((x5).toNatClampNeg)))).toNatClampNeg)) (((eA h 0 49) ((x5).toNatClampNeg)) - ((eA h 0 49) ((x5).toNatClampNeg)) / 3 * 3) ((eA h 0 45) ((((12 * ((eA h 0 48) ((x5).toNatClampNeg))) + ((eA h 0 49) ((x5).toNatClampNeg)))).toNatClampNeg))) (fun h_14 => ((f_X9_asksPlan_11 n) h_14 x1 x2 (x3 * 100) (x5 + 1)))) else none) else none) else none) else none) else none) else none)) := rfl
def f_X9_asksPlan (h : HS) (p1 : Int32) (p2 : Int32) : Option HS := (ob1 (f_X9_startsMany h 0 0) (fun h_1 => (f_X9_asksPlan_11 8589934592 h_1 p1 p2 1 0)))
set_option maxHeartbeats 4000000 in
set_option maxRecDepth 100000 in
theorem c_X9_asksPlan (l : Launch) (G : va_G) (cI cJ cZ cB cT : ClassId) (m0 : Nat) (r : Nat → Nat) (h : HS) (p1 : Int32) (p2 : Int32) (hh : HS) (hF : f_X9_asksPlan h p1 p2 = some hh) : gMv l yX9_asksPlan (gws yX9_asksPlan cX9_asksPlan 8 none) 3 G (gT cI cJ cZ cB cT) [.ref m0, .int p1, .int p2] (wM m0 r cI cJ cZ cB cT h) (fun (_ : Unit) => True) (fun (_ : Unit) => (wM m0 r cI cJ cZ cB cT hh)) := by
  intro sz
  refine gM_start (y := yX9_asksPlan) (av := [.ref m0, .int p1, .int p2]) (ws := (wM m0 r cI cJ cZ cB cT h)) (Qf := fun A => va_Qv (fun (_ : Unit) => True) (gB G (fun (_ : Unit) => (wM m0 r cI cJ cZ cB cT hh)) A) A) (cc := cX9_asksPlan) (maxL := 8) (ret := none) (by decide) (Nat.le_of_ble_eq_true rfl) ?_
  intro p e s m args below meth c A ls H hx hb hr hts hown hin hlocks hml hP hK hD hA hS hl hE
  have hl : lv_has ls 8 [(0, .ref m0), (1, .int p1), (2, .int p2)] := hl
  have hJ_128 : ∀ (h : HS), f_X9_asksPlan_128 h = some hh → ∀ (H : Heap) (locs : List Loc) (ls : Array Slot), va_P G vwCl (wM m0 r cI cJ cZ cB cT h) H → va_D A (wM m0 r cI cJ cZ cB cT h) → va_S A s.heap H locs → lv_has ls 8 [] → W p l e (gRm 3) s m args below meth c H locs 0 0 (MQ below (va_Qv (fun (_ : Unit) => True) (gB G (fun (_ : Unit) => (wM m0 r cI cJ cZ cB cT hh)) A) A) args s 0 0 A) (F0 m 128 ls []) := by
    intro h hF H locs ls hP hD hS hl
    unfold f_X9_asksPlan_128 at hF
    obtain rfl := ob_one hF
    exact gw_vret () hx hb hr hlocks hP hD hS trivial dX9_asksPlan_128
  have hJ_138 : ∀ (n_138 : Nat) (h : HS) (x1 : Int32) (x7 : Int32), f_X9_asksPlan_138 n_138 h x1 x7 = some hh → ∀ (H : Heap) (locs : List Loc) (ls : Array Slot), va_P G vwCl (wM m0 r cI cJ cZ cB cT h) H → va_D A (wM m0 r cI cJ cZ cB cT h) → va_S A s.heap H locs → lv_has ls 8 [(0, .ref m0), (1, .int x1), (7, .int x7)] → W p l e (gRm 3) s m args below meth c H locs 0 0 (MQ below (va_Qv (fun (_ : Unit) => True) (gB G (fun (_ : Unit) => (wM m0 r cI cJ cZ cB cT hh)) A) A) args s 0 0 A) (F0 m 138 ls []) := by
    intro n_138
    induction n_138 with
    | zero =>
      intro h x1 x7 hF
      exact absurd hF (by simp [f_X9_asksPlan_138])
    | succ n_138 ih_138 =>
      intro h x1 x7 hF H locs ls hP hD hS hl
      rw [f_X9_asksPlan_138_s] at hF
      refine lv_iload hx hb dX9_asksPlan_138 (lv_at hl 2 rfl) ?_
      refine lv_iload_n hx hb dX9_asksPlan_140 rfl (lv_at hl 1 rfl) ?_
      refine lv_icmp_ge (tgt := 178) hx hb dX9_asksPlan_141 (by decide) (fun c_15 => ?_) (fun c_15 => ?_)
      · have hF := ob_pos c_15 hF
        obtain rfl := ob_one hF
        exact gw_vret () hx hb hr hlocks hP hD hS trivial dX9_asksPlan_178
      · have hF := ob_neg c_15 hF
        refine lv_aload_n hx hb dX9_asksPlan_144 rfl (lv_at hl 0 rfl) ?_
        refine va_get (D := G) (ci := 9) (v := .ref (r 50)) (C := RX9) (T := TX9) (N := 53) hx hb hts iX9 hown hK hP 0 wM_at0 rfl 50 (by decide) (hts _ m_383) (fun _ h9 => h9) rfl dX9_asksPlan_145 ?_
        refine lv_iload hx hb dX9_asksPlan_148 (lv_at hl 2 rfl) ?_
        refine lv_aload_n hx hb dX9_asksPlan_150 rfl (lv_at hl 0 rfl) ?_
        refine va_get (D := G) (ci := 9) (v := .ref (r 48)) (C := RX9) (T := TX9) (N := 53) hx hb hts iX9 hown hK hP 0 wM_at0 rfl 48 (by decide) (hts _ m_381) (fun _ h9 => h9) rfl dX9_asksPlan_151 ?_
        refine lv_iload hx hb dX9_asksPlan_154 (lv_at hl 2 rfl) ?_
        obtain ⟨hi_16, hF⟩ := ob_if hF
        refine va_iald (D := G) hx hb hK hP 31 0 wM_at31 rfl (vp_in_iff.mpr hi_16) dX9_asksPlan_156 ?_
        refine gw_topi (y := ((eA h 0 48) ((x7).toNatClampNeg))) rfl ?_
        obtain ⟨hi_17, hF⟩ := ob_if hF
        refine va_iast (D := G) hx hb hK hP hD hS 33 0 wM_at33 rfl (vp_in_iff.mpr hi_17) dX9_asksPlan_157 (fun H locs hP hD hS => ?_)
        rw [wM_sA33] at hP hD
        have hP : va_P G vwCl (wM m0 r cI cJ cZ cB cT (sA h 0 50 (upd (eA h 0 50) ((x7).toNatClampNeg) ((eA h 0 48) ((x7).toNatClampNeg))))) H := hP
        have hD : va_D A (wM m0 r cI cJ cZ cB cT (sA h 0 50 (upd (eA h 0 50) ((x7).toNatClampNeg) ((eA h 0 48) ((x7).toNatClampNeg))))) := hD
        refine lv_aload_n hx hb dX9_asksPlan_158 rfl (lv_at hl 0 rfl) ?_
        refine va_get (D := G) (ci := 9) (v := .ref (r 51)) (C := RX9) (T := TX9) (N := 53) hx hb hts iX9 hown hK hP 0 wM_at0 rfl 51 (by decide) (hts _ m_384) (fun _ h9 => h9) rfl dX9_asksPlan_159 ?_
        refine lv_iload hx hb dX9_asksPlan_162 (lv_at hl 2 rfl) ?_
        refine lv_aload_n hx hb dX9_asksPlan_164 rfl (lv_at hl 0 rfl) ?_
        refine va_get (D := G) (ci := 9) (v := .ref (r 49)) (C := RX9) (T := TX9) (N := 53) hx hb hts iX9 hown hK hP 0 wM_at0 rfl 49 (by decide) (hts _ m_382) (fun _ h9 => h9) rfl dX9_asksPlan_165 ?_
        refine lv_iload hx hb dX9_asksPlan_168 (lv_at hl 2 rfl) ?_
        obtain ⟨hi_18, hF⟩ := ob_if hF
        refine va_iald (D := G) hx hb hK hP 32 0 wM_at32 rfl (vp_in_iff.mpr hi_18) dX9_asksPlan_170 ?_
        refine gw_topi (y := ((eA h 0 49) ((x7).toNatClampNeg))) rfl ?_
        obtain ⟨hi_19, hF⟩ := ob_if hF
        refine va_iast (D := G) hx hb hK hP hD hS 34 0 wM_at34 rfl (vp_in_iff.mpr hi_19) dX9_asksPlan_171 (fun H locs hP hD hS => ?_)
        rw [wM_sA34] at hP hD
        have hP : va_P G vwCl (wM m0 r cI cJ cZ cB cT (sA (sA h 0 50 (upd (eA h 0 50) ((x7).toNatClampNeg) ((eA h 0 48) ((x7).toNatClampNeg)))) 0 51 (upd (eA h 0 51) ((x7).toNatClampNeg) ((eA h 0 49) ((x7).toNatClampNeg))))) H := hP
        have hD : va_D A (wM m0 r cI cJ cZ cB cT (sA (sA h 0 50 (upd (eA h 0 50) ((x7).toNatClampNeg) ((eA h 0 48) ((x7).toNatClampNeg)))) 0 51 (upd (eA h 0 51) ((x7).toNatClampNeg) ((eA h 0 49) ((x7).toNatClampNeg))))) := hD
        refine lv_iinc (v := (x7 + 1)) (lv' := [(7, .int (x7 + 1)), (0, .ref m0), (1, .int x1)]) hx hb dX9_asksPlan_172 hl (k := 2) rfl rfl (by decide) rfl (fun ls hl => ?_)
        refine lv_goto (tgt := 138) hx hb dX9_asksPlan_175 (by decide) ?_
        exact ih_138 (sA (sA h 0 50 (upd (eA h 0 50) ((x7).toNatClampNeg) ((eA h 0 48) ((x7).toNatClampNeg)))) 0 51 (upd (eA h 0 51) ((x7).toNatClampNeg) ((eA h 0 49) ((x7).toNatClampNeg)))) x1 (x7 + 1) hF H _ ls hP hD hS (lv_sub hl [1, 2, 0] rfl)
  have hJ_129 : ∀ (h : HS) (x1 : Int32) (x5 : Int64), f_X9_asksPlan_129 h x1 x5 = some hh → ∀ (H : Heap) (locs : List Loc) (ls : Array Slot), va_P G vwCl (wM m0 r cI cJ cZ cB cT h) H → va_D A (wM m0 r cI cJ cZ cB cT h) → va_S A s.heap H locs → lv_has ls 8 [(0, .ref m0), (1, .int x1), (5, .long x5)] → W p l e (gRm 3) s m args below meth c H locs 0 0 (MQ below (va_Qv (fun (_ : Unit) => True) (gB G (fun (_ : Unit) => (wM m0 r cI cJ cZ cB cT hh)) A) A) args s 0 0 A) (F0 m 129 ls []) := by
    intro h x1 x5 hF H locs ls hP hD hS hl
    unfold f_X9_asksPlan_129 at hF
    refine lv_aload_n hx hb dX9_asksPlan_129 rfl (lv_at hl 0 rfl) ?_
    refine lv_lload hx hb dX9_asksPlan_130 (lv_at hl 2 rfl) ?_
    refine va_put (D := G) (ci := 9) (v := .long x5) (ty := .long) (C := RX9) (T := TX9) (N := 53) hx hb hts iX9 tyX9 tyX9_ok nmX9 hown hK hP hD hS 0 wM_at0 rfl 52 (by decide) (hts _ m_380) (fun _ h9 => h9) rfl (tyX9_ok 52 (by decide)) rfl rfl (Nat.le_of_ble_eq_true rfl) dX9_asksPlan_132 (fun H locs hP hD hS => ?_)
    rw [wM_sI0_52] at hP hD
    refine lv_iconst (v := 0) hx hb dX9_asksPlan_135 (by decide) ?_
    refine lv_istore (lv' := [(7, .int 0), (0, .ref m0), (1, .int x1), (5, .long x5)]) hx hb dX9_asksPlan_136 hl (by decide) rfl (fun ls hl => ?_)
    exact hJ_138 8589934592 (sL h 0 52 x5) x1 0 hF H _ ls hP hD hS (lv_sub hl [1, 2, 0] rfl)
  have hJ_11 : ∀ (n_11 : Nat) (h : HS) (x1 : Int32) (x2 : Int32) (x3 : Int64) (x5 : Int32), f_X9_asksPlan_11 n_11 h x1 x2 x3 x5 = some hh → ∀ (H : Heap) (locs : List Loc) (ls : Array Slot), va_P G vwCl (wM m0 r cI cJ cZ cB cT h) H → va_D A (wM m0 r cI cJ cZ cB cT h) → va_S A s.heap H locs → lv_has ls 8 [(0, .ref m0), (1, .int x1), (2, .int x2), (3, .long x3), (5, .int x5)] → W p l e (gRm 3) s m args below meth c H locs 0 0 (MQ below (va_Qv (fun (_ : Unit) => True) (gB G (fun (_ : Unit) => (wM m0 r cI cJ cZ cB cT hh)) A) A) args s 0 0 A) (F0 m 11 ls []) := by
    intro n_11
    induction n_11 with
    | zero =>
      intro h x1 x2 x3 x5 hF
      exact absurd hF (by simp [f_X9_asksPlan_11])
    | succ n_11 ih_11 =>
      intro h x1 x2 x3 x5 hF H locs ls hP hD hS hl
      rw [f_X9_asksPlan_11_s] at hF
      refine lv_iload hx hb dX9_asksPlan_11 (lv_at hl 4 rfl) ?_
      refine lv_iload_n hx hb dX9_asksPlan_13 rfl (lv_at hl 1 rfl) ?_
      refine lv_icmp_ge (tgt := 83) hx hb dX9_asksPlan_14 (by decide) (fun c_2 => ?_) (fun c_2 => ?_)
      · have hF := ob_pos c_2 hF
        refine lv_aload_n hx hb dX9_asksPlan_83 rfl (lv_at hl 0 rfl) ?_
        refine lv_iconst (v := 1) hx hb dX9_asksPlan_84 (by decide) ?_
        obtain ⟨r_3, h_3, e_3, hF⟩ := ob2_some hF
        refine gx_calll (gx_runV (As := [.int 1]) (rest := []) ⟨hx, hb, hml, hown, hts⟩ (c_X9_manyOf l G cI cJ cZ cB cT m0 r h 1 r_3 h_3 e_3 H.size) (gG_V m_367 m_368 m_369 m_64 m_366) rfl e_X9_manyOf ⟨Nat.le_of_ble_eq_true rfl, Nat.le_of_ble_eq_true rfl⟩ hK hP hD hE hS hA 0 wM_at0 rfl rfl hl.1 rfl (Nat.le_of_ble_eq_true rfl) dX9_asksPlan_85 ⟨Nat.le_refl _, Nat.le_refl _⟩) hP hD hS hA (fun x_3 u_3 H locs hw_3 hP hD hS => ?_)
        subst x_3
        refine lv_lstore (lv' := [(5, .long r_3), (0, .ref m0), (1, .int x1), (2, .int x2), (3, .long x3)]) hx hb dX9_asksPlan_88 hl (by decide) rfl (fun ls hl => ?_)
        refine lv_aload_n hx hb dX9_asksPlan_90 rfl (lv_at hl 1 rfl) ?_
        refine lv_iconst (v := 0) hx hb dX9_asksPlan_91 (by decide) ?_
        obtain ⟨r_4, h_4, e_4, hF⟩ := ob2_some hF
        refine gx_calll (gx_runV (As := [.int 0]) (rest := []) ⟨hx, hb, hml, hown, hts⟩ (c_X9_manyOf l G cI cJ cZ cB cT m0 r h_3 0 r_4 h_4 e_4 H.size) (gG_V m_367 m_368 m_369 m_64 m_366) rfl e_X9_manyOf ⟨Nat.le_of_ble_eq_true rfl, Nat.le_of_ble_eq_true rfl⟩ hK hP hD hE hS hA 0 wM_at0 rfl rfl hl.1 rfl (Nat.le_of_ble_eq_true rfl) dX9_asksPlan_92 ⟨Nat.le_refl _, Nat.le_refl _⟩) hP hD hS hA (fun x_4 u_4 H locs hw_4 hP hD hS => ?_)
        subst x_4
        refine lv_ldc2 (v := 100) hx hb hown (hts _ m_374) dX9_asksPlan_95 ?_
        refine lv_lmul hx hb dX9_asksPlan_98 ?_
        refine lv_lload_n hx hb dX9_asksPlan_99 rfl (lv_at hl 4 rfl) ?_
        refine lv_iload_n hx hb dX9_asksPlan_100 rfl (lv_at hl 3 rfl) ?_
        refine lv_i2l (v := (x2).toInt64) hx hb dX9_asksPlan_101 rfl ?_
        refine lv_lmul hx hb dX9_asksPlan_102 ?_
        refine W.lcmp hx hb dX9_asksPlan_103 ?_
        refine lv_if_lt (tgt := 128) hx hb dX9_asksPlan_104 (by decide) (fun c_5 => ?_) (fun c_5 => ?_)
        · have hF := ob_pos c_5 hF
          exact hJ_128 h_4 hF H _ ls hP hD hS (lv_sub hl [] rfl)
        · have hF := ob_neg c_5 hF
          refine lv_aload_n hx hb dX9_asksPlan_107 rfl (lv_at hl 1 rfl) ?_
          refine va_get (D := G) (ci := 9) (v := .long (eL h_4 0 52)) (C := RX9) (T := TX9) (N := 53) hx hb hts iX9 hown hK hP 0 wM_at0 rfl 52 (by decide) (hts _ m_380) (fun _ h9 => h9) rfl dX9_asksPlan_108 ?_
          refine lv_ldc2 (v := (-1)) hx hb hown (hts _ m_365) dX9_asksPlan_111 ?_
          refine W.lcmp hx hb dX9_asksPlan_114 ?_
          refine lv_if_eq (tgt := 129) hx hb dX9_asksPlan_115 (by decide) (fun c_6 => ?_) (fun c_6 => ?_)
          · have hF := ob_pos c_6 hF
            exact hJ_129 h_4 x1 r_3 hF H _ ls hP hD hS (lv_sub hl [1, 2, 0] rfl)
          · have hF := ob_neg c_6 hF
            refine lv_lload hx hb dX9_asksPlan_118 (lv_at hl 0 rfl) ?_
            refine lv_aload_n hx hb dX9_asksPlan_120 rfl (lv_at hl 1 rfl) ?_
            refine va_get (D := G) (ci := 9) (v := .long (eL h_4 0 52)) (C := RX9) (T := TX9) (N := 53) hx hb hts iX9 hown hK hP 0 wM_at0 rfl 52 (by decide) (hts _ m_380) (fun _ h9 => h9) rfl dX9_asksPlan_121 ?_
            refine W.lcmp hx hb dX9_asksPlan_124 ?_
            refine lv_if_lt (tgt := 129) hx hb dX9_asksPlan_125 (by decide) (fun c_7 => ?_) (fun c_7 => ?_)
            · have hF := ob_pos c_7 hF
              exact hJ_129 h_4 x1 r_3 hF H _ ls hP hD hS (lv_sub hl [1, 2, 0] rfl)
            · have hF := ob_neg c_7 hF
              exact hJ_128 h_4 hF H _ ls hP hD hS (lv_sub hl [] rfl)
      · have hF := ob_neg c_2 hF
        refine lv_bipush (v := 12) hx hb dX9_asksPlan_17 (by decide) ?_
        refine lv_aload_n hx hb dX9_asksPlan_19 rfl (lv_at hl 0 rfl) ?_
        refine va_get (D := G) (ci := 9) (v := .ref (r 48)) (C := RX9) (T := TX9) (N := 53) hx hb hts iX9 hown hK hP 0 wM_at0 rfl 48 (by decide) (hts _ m_381) (fun _ h9 => h9) rfl dX9_asksPlan_20 ?_
        refine lv_iload hx hb dX9_asksPlan_23 (lv_at hl 4 rfl) ?_
        obtain ⟨hi_8, hF⟩ := ob_if hF
        refine va_iald (D := G) hx hb hK hP 31 0 wM_at31 rfl (vp_in_iff.mpr hi_8) dX9_asksPlan_25 ?_
        refine gw_topi (y := ((eA h 0 48) ((x5).toNatClampNeg))) rfl ?_
        refine lv_imul hx hb dX9_asksPlan_26 ?_
        refine lv_aload_n hx hb dX9_asksPlan_27 rfl (lv_at hl 0 rfl) ?_
        refine va_get (D := G) (ci := 9) (v := .ref (r 49)) (C := RX9) (T := TX9) (N := 53) hx hb hts iX9 hown hK hP 0 wM_at0 rfl 49 (by decide) (hts _ m_382) (fun _ h9 => h9) rfl dX9_asksPlan_28 ?_
        refine lv_iload hx hb dX9_asksPlan_31 (lv_at hl 4 rfl) ?_
        obtain ⟨hi_9, hF⟩ := ob_if hF
        refine va_iald (D := G) hx hb hK hP 32 0 wM_at32 rfl (vp_in_iff.mpr hi_9) dX9_asksPlan_33 ?_
        refine gw_topi (y := ((eA h 0 49) ((x5).toNatClampNeg))) rfl ?_
        refine lv_iadd hx hb dX9_asksPlan_34 ?_
        refine lv_istore (lv' := [(6, .int ((12 * ((eA h 0 48) ((x5).toNatClampNeg))) + ((eA h 0 49) ((x5).toNatClampNeg)))), (0, .ref m0), (1, .int x1), (2, .int x2), (3, .long x3), (5, .int x5)]) hx hb dX9_asksPlan_35 hl (by decide) rfl (fun ls hl => ?_)
        refine lv_aload_n hx hb dX9_asksPlan_37 rfl (lv_at hl 1 rfl) ?_
        refine lv_aload_n hx hb dX9_asksPlan_38 rfl (lv_at hl 1 rfl) ?_
        refine va_get (D := G) (ci := 9) (v := .ref (r 43)) (C := RX9) (T := TX9) (N := 53) hx hb hts iX9 hown hK hP 0 wM_at0 rfl 43 (by decide) (hts _ m_377) (fun _ h9 => h9) rfl dX9_asksPlan_39 ?_
        refine lv_iload hx hb dX9_asksPlan_42 (lv_at hl 0 rfl) ?_
        obtain ⟨hi_10, hF⟩ := ob_if hF
        refine va_iald (D := G) hx hb hK hP 27 0 wM_at27 rfl (vp_in_iff.mpr hi_10) dX9_asksPlan_44 ?_
        refine gw_topi (y := ((eA h 0 43) ((((12 * ((eA h 0 48) ((x5).toNatClampNeg))) + ((eA h 0 49) ((x5).toNatClampNeg)))).toNatClampNeg))) rfl ?_
        refine lv_aload_n hx hb dX9_asksPlan_45 rfl (lv_at hl 1 rfl) ?_
        refine va_get (D := G) (ci := 9) (v := .ref (r 44)) (C := RX9) (T := TX9) (N := 53) hx hb hts iX9 hown hK hP 0 wM_at0 rfl 44 (by decide) (hts _ m_378) (fun _ h9 => h9) rfl dX9_asksPlan_46 ?_
        refine lv_iload hx hb dX9_asksPlan_49 (lv_at hl 0 rfl) ?_
        obtain ⟨hi_11, hF⟩ := ob_if hF
        refine va_iald (D := G) hx hb hK hP 28 0 wM_at28 rfl (vp_in_iff.mpr hi_11) dX9_asksPlan_51 ?_
        refine gw_topi (y := ((eA h 0 44) ((((12 * ((eA h 0 48) ((x5).toNatClampNeg))) + ((eA h 0 49) ((x5).toNatClampNeg)))).toNatClampNeg))) rfl ?_
        refine lv_aload_n hx hb dX9_asksPlan_52 rfl (lv_at hl 1 rfl) ?_
        refine va_get (D := G) (ci := 9) (v := .ref (r 49)) (C := RX9) (T := TX9) (N := 53) hx hb hts iX9 hown hK hP 0 wM_at0 rfl 49 (by decide) (hts _ m_382) (fun _ h9 => h9) rfl dX9_asksPlan_53 ?_
        refine lv_iload hx hb dX9_asksPlan_56 (lv_at hl 5 rfl) ?_
        obtain ⟨hi_12, hF⟩ := ob_if hF
        refine va_iald (D := G) hx hb hK hP 32 0 wM_at32 rfl (vp_in_iff.mpr hi_12) dX9_asksPlan_58 ?_
        refine gw_topi (y := ((eA h 0 49) ((x5).toNatClampNeg))) rfl ?_
        refine lv_iconst (v := 3) hx hb dX9_asksPlan_59 (by decide) ?_
        refine lv_irem hx hb dX9_asksPlan_60 (by decide) ?_
        refine lv_aload_n hx hb dX9_asksPlan_61 rfl (lv_at hl 1 rfl) ?_
        refine va_get (D := G) (ci := 9) (v := .ref (r 45)) (C := RX9) (T := TX9) (N := 53) hx hb hts iX9 hown hK hP 0 wM_at0 rfl 45 (by decide) (hts _ m_379) (fun _ h9 => h9) rfl dX9_asksPlan_62 ?_
        refine lv_iload hx hb dX9_asksPlan_65 (lv_at hl 0 rfl) ?_
        obtain ⟨hi_13, hF⟩ := ob_if hF
        refine va_zald (D := G) hx hb hK hP 29 2 wM_at29 rfl (vp_in_iff.mpr hi_13) dX9_asksPlan_67 ?_
        refine gw_topi (y := ((eA h 0 45) ((((12 * ((eA h 0 48) ((x5).toNatClampNeg))) + ((eA h 0 49) ((x5).toNatClampNeg)))).toNatClampNeg))) rfl ?_
        obtain ⟨h_14, e_14, hF⟩ := ob1_some hF
        refine gx_callv (gx_runV (As := [.int ((eA h 0 43) ((((12 * ((eA h 0 48) ((x5).toNatClampNeg))) + ((eA h 0 49) ((x5).toNatClampNeg)))).toNatClampNeg)), .int ((eA h 0 44) ((((12 * ((eA h 0 48) ((x5).toNatClampNeg))) + ((eA h 0 49) ((x5).toNatClampNeg)))).toNatClampNeg)), .int (((eA h 0 49) ((x5).toNatClampNeg)) - ((eA h 0 49) ((x5).toNatClampNeg)) / 3 * 3), .int ((eA h 0 45) ((((12 * ((eA h 0 48) ((x5).toNatClampNeg))) + ((eA h 0 49) ((x5).toNatClampNeg)))).toNatClampNeg))]) (rest := []) ⟨hx, hb, hml, hown, hts⟩ (c_X9_comesMany l G cI cJ cZ cB cT m0 r h ((eA h 0 43) ((((12 * ((eA h 0 48) ((x5).toNatClampNeg))) + ((eA h 0 49) ((x5).toNatClampNeg)))).toNatClampNeg)) ((eA h 0 44) ((((12 * ((eA h 0 48) ((x5).toNatClampNeg))) + ((eA h 0 49) ((x5).toNatClampNeg)))).toNatClampNeg)) (((eA h 0 49) ((x5).toNatClampNeg)) - ((eA h 0 49) ((x5).toNatClampNeg)) / 3 * 3) ((eA h 0 45) ((((12 * ((eA h 0 48) ((x5).toNatClampNeg))) + ((eA h 0 49) ((x5).toNatClampNeg)))).toNatClampNeg)) h_14 e_14 H.size) (gG_V m_371 m_372 m_373 m_64 m_370) rfl e_X9_comesMany ⟨Nat.le_of_ble_eq_true rfl, Nat.le_of_ble_eq_true rfl⟩ hK hP hD hE hS hA 0 wM_at0 rfl rfl hl.1 rfl (Nat.le_of_ble_eq_true rfl) dX9_asksPlan_68 ⟨Nat.le_refl _, Nat.le_refl _⟩) hP hD hS hA (fun u_14 H locs hw_14 hP hD hS => ?_)
        refine lv_lload_n hx hb dX9_asksPlan_71 rfl (lv_at hl 4 rfl) ?_
        refine lv_ldc2 (v := 100) hx hb hown (hts _ m_374) dX9_asksPlan_72 ?_
        refine lv_lmul hx hb dX9_asksPlan_75 ?_
        refine lv_lstore_n (lv' := [(3, .long (x3 * 100)), (6, .int ((12 * ((eA h 0 48) ((x5).toNatClampNeg))) + ((eA h 0 49) ((x5).toNatClampNeg)))), (0, .ref m0), (1, .int x1), (2, .int x2), (5, .int x5)]) hx hb dX9_asksPlan_76 rfl hl (by decide) rfl (fun ls hl => ?_)
        refine lv_iinc (v := (x5 + 1)) (lv' := [(5, .int (x5 + 1)), (3, .long (x3 * 100)), (6, .int ((12 * ((eA h 0 48) ((x5).toNatClampNeg))) + ((eA h 0 49) ((x5).toNatClampNeg)))), (0, .ref m0), (1, .int x1), (2, .int x2)]) hx hb dX9_asksPlan_77 hl (k := 5) rfl rfl (by decide) rfl (fun ls hl => ?_)
        refine lv_goto (tgt := 11) hx hb dX9_asksPlan_80 (by decide) ?_
        exact ih_11 h_14 x1 x2 (x3 * 100) (x5 + 1) hF H _ ls hP hD hS (lv_sub hl [3, 4, 5, 1, 0] rfl)
  unfold f_X9_asksPlan at hF
  refine lv_aload_n hx hb dX9_asksPlan_0 rfl (lv_at hl 0 rfl) ?_
  refine lv_iconst (v := 0) hx hb dX9_asksPlan_1 (by decide) ?_
  refine lv_iconst (v := 0) hx hb dX9_asksPlan_2 (by decide) ?_
  obtain ⟨h_1, e_1, hF⟩ := ob1_some hF
  refine gx_callv (gx_runV (As := [.int 0, .int 0]) (rest := []) ⟨hx, hb, hml, hown, hts⟩ (c_X9_startsMany l G cI cJ cZ cB cT m0 r h 0 0 h_1 e_1 H.size) (gG_V m_362 m_363 m_364 m_64 m_361) rfl e_X9_startsMany ⟨Nat.le_of_ble_eq_true rfl, Nat.le_of_ble_eq_true rfl⟩ hK hP hD hE hS hA 0 wM_at0 rfl rfl hl.1 rfl (Nat.le_of_ble_eq_true rfl) dX9_asksPlan_3 ⟨Nat.le_refl _, Nat.le_refl _⟩) hP hD hS hA (fun u_1 H locs hw_1 hP hD hS => ?_)
  refine lv_lconst (v := 1) hx hb dX9_asksPlan_6 (by decide) ?_
  refine lv_lstore_n (lv' := [(3, .long 1), (0, .ref m0), (1, .int p1), (2, .int p2)]) hx hb dX9_asksPlan_7 rfl hl (by decide) rfl (fun ls hl => ?_)
  refine lv_iconst (v := 0) hx hb dX9_asksPlan_8 (by decide) ?_
  refine lv_istore (lv' := [(5, .int 0), (3, .long 1), (0, .ref m0), (1, .int p1), (2, .int p2)]) hx hb dX9_asksPlan_9 hl (by decide) rfl (fun ls hl => ?_)
  exact hJ_11 8589934592 h_1 p1 p2 1 0 hF H _ ls hP hD hS (lv_sub hl [2, 3, 4, 1, 0] rfl)
def f_X9_triesDoings_46 (k31 : HS → Int32 → Int32 → Int32 → Int32 → Option HS) : Nat → HS → Int32 → Int32 → Int32 → Int32 → Int32 → Int32 → Option HS
  | 0, _, _, _, _, _, _, _ => none
  | n + 1, h, x1, x2, x3, x4, x5, x6 => (if x6 < 0 then (ob1 (f_X9_asksPlan h x1 x2) (fun h_4 => (k31 h_4 x1 x2 x3 (x4 + 1)))) else (if ¬ (3 * ((eA h 0 0) 0)) = 0 then (if 0 ≤ (x6).toInt ∧ (x6).toInt < 3 then (if ¬ (3 * ((eA h 0 0) 0)) = 0 then ((f_X9_triesDoings_46 k31 n) (sA h 0 49 (upd (eA h 0 49) ((x6).toNatClampNeg) (x5 - x5 / (3 * ((eA h 0 0) 0)) * (3 * ((eA h 0 0) 0))))) x1 x2 x3 x4 (x5 / (3 * ((eA h 0 0) 0))) (x6 + (-1))) else none) else none) else none))
theorem f_X9_triesDoings_46_s (k31 : HS → Int32 → Int32 → Int32 → Int32 → Option HS) (n : Nat) (h : HS) (x1 : Int32) (x2 : Int32) (x3 : Int32) (x4 : Int32) (x5 : Int32) (x6 : Int32) : f_X9_triesDoings_46 k31 (n + 1) h x1 x2 x3 x4 x5 x6 = (if x6 < 0 then (ob1 (f_X9_asksPlan h x1 x2) (fun h_4 => (k31 h_4 x1 x2 x3 (x4 + 1)))) else (if ¬ (3 * ((eA h 0 0) 0)) = 0 then (if 0 ≤ (x6).toInt ∧ (x6).toInt < 3 then (if ¬ (3 * ((eA h 0 0) 0)) = 0 then ((f_X9_triesDoings_46 k31 n) (sA h 0 49 (upd (eA h 0 49) ((x6).toNatClampNeg) (x5 - x5 / (3 * ((eA h 0 0) 0)) * (3 * ((eA h 0 0) 0))))) x1 x2 x3 x4 (x5 / (3 * ((eA h 0 0) 0))) (x6 + (-1))) else none) else none) else none)) := rfl
def f_X9_triesDoings_31 : Nat → HS → Int32 → Int32 → Int32 → Int32 → Option HS
  | 0, _, _, _, _, _ => none
  | n + 1, h, x1, x2, x3, x4 => (if x3 ≤ x4 then (some h) else (f_X9_triesDoings_46 (f_X9_triesDoings_31 n) 8589934592 h x1 x2 x3 x4 x4 (x1 - 1)))
theorem f_X9_triesDoings_31_s (n : Nat) (h : HS) (x1 : Int32) (x2 : Int32) (x3 : Int32) (x4 : Int32) : f_X9_triesDoings_31 (n + 1) h x1 x2 x3 x4 = (if x3 ≤ x4 then (some h) else (f_X9_triesDoings_46 (f_X9_triesDoings_31 n) 8589934592 h x1 x2 x3 x4 x4 (x1 - 1))) := rfl
def f_X9_triesDoings_5 : Nat → HS → Int32 → Int32 → Int32 → Int32 → Option HS
  | 0, _, _, _, _, _ => none
  | n + 1, h, x1, x2, x3, x4 => (if x1 ≤ x4 then (f_X9_triesDoings_31 8589934592 h x1 x2 x3 0) else ((f_X9_triesDoings_5 n) h x1 x2 ((x3 * 3) * ((eA h 0 0) 0)) (x4 + 1)))
theorem f_X9_triesDoings_5_s (n : Nat) (h : HS) (x1 : Int32) (x2 : Int32) (x3 : Int32) (x4 : Int32) : f_X9_triesDoings_5 (n + 1) h x1 x2 x3 x4 = (if x1 ≤ x4 then (f_X9_triesDoings_31 8589934592 h x1 x2 x3 0) else ((f_X9_triesDoings_5 n) h x1 x2 ((x3 * 3) * ((eA h 0 0) 0)) (x4 + 1))) := rfl
def f_X9_triesDoings (h : HS) (p1 : Int32) (p2 : Int32) : Option HS := (f_X9_triesDoings_5 8589934592 h p1 p2 1 0)
theorem e_X9_asksPlan : yX9_asksPlan.cls = RX9 ∧ yX9_asksPlan.cls ≠ "java/lang/invoke/MethodHandle" ∧ yX9_asksPlan.cls ≠ "java/lang/invoke/VarHandle" ∧ (parseMethodDescriptor yX9_asksPlan.desc).map (fun d => d.parameters.length) = some 2 := by decide +kernel
set_option maxHeartbeats 4000000 in
set_option maxRecDepth 100000 in
theorem c_X9_triesDoings (l : Launch) (G : va_G) (cI cJ cZ cB cT : ClassId) (m0 : Nat) (r : Nat → Nat) (h : HS) (p1 : Int32) (p2 : Int32) (hh : HS) (hF : f_X9_triesDoings h p1 p2 = some hh) : gMv l yX9_triesDoings (gws yX9_triesDoings cX9_triesDoings 7 none) 4 G (gT cI cJ cZ cB cT) [.ref m0, .int p1, .int p2] (wM m0 r cI cJ cZ cB cT h) (fun (_ : Unit) => True) (fun (_ : Unit) => (wM m0 r cI cJ cZ cB cT hh)) := by
  intro sz
  refine gM_start (y := yX9_triesDoings) (av := [.ref m0, .int p1, .int p2]) (ws := (wM m0 r cI cJ cZ cB cT h)) (Qf := fun A => va_Qv (fun (_ : Unit) => True) (gB G (fun (_ : Unit) => (wM m0 r cI cJ cZ cB cT hh)) A) A) (cc := cX9_triesDoings) (maxL := 7) (ret := none) (by decide) (Nat.le_of_ble_eq_true rfl) ?_
  intro p e s m args below meth c A ls H hx hb hr hts hown hin hlocks hml hP hK hD hA hS hl hE
  have hl : lv_has ls 7 [(0, .ref m0), (1, .int p1), (2, .int p2)] := hl
  have hJ_31 : ∀ (n_31 : Nat) (h : HS) (x1 : Int32) (x2 : Int32) (x3 : Int32) (x4 : Int32), f_X9_triesDoings_31 n_31 h x1 x2 x3 x4 = some hh → ∀ (H : Heap) (locs : List Loc) (ls : Array Slot), va_P G vwCl (wM m0 r cI cJ cZ cB cT h) H → va_D A (wM m0 r cI cJ cZ cB cT h) → va_S A s.heap H locs → lv_has ls 7 [(0, .ref m0), (1, .int x1), (2, .int x2), (3, .int x3), (4, .int x4)] → W p l e (gRm 4) s m args below meth c H locs 0 0 (MQ below (va_Qv (fun (_ : Unit) => True) (gB G (fun (_ : Unit) => (wM m0 r cI cJ cZ cB cT hh)) A) A) args s 0 0 A) (F0 m 31 ls []) := by
    intro n_31
    induction n_31 with
    | zero =>
      intro h x1 x2 x3 x4 hF
      exact absurd hF (by simp [f_X9_triesDoings_31])
    | succ n_31 ih_31 =>
      have hJ_46 : ∀ (n_46 : Nat) (h : HS) (x1 : Int32) (x2 : Int32) (x3 : Int32) (x4 : Int32) (x5 : Int32) (x6 : Int32), f_X9_triesDoings_46 (f_X9_triesDoings_31 n_31) n_46 h x1 x2 x3 x4 x5 x6 = some hh → ∀ (H : Heap) (locs : List Loc) (ls : Array Slot), va_P G vwCl (wM m0 r cI cJ cZ cB cT h) H → va_D A (wM m0 r cI cJ cZ cB cT h) → va_S A s.heap H locs → lv_has ls 7 [(0, .ref m0), (1, .int x1), (2, .int x2), (3, .int x3), (4, .int x4), (5, .int x5), (6, .int x6)] → W p l e (gRm 4) s m args below meth c H locs 0 0 (MQ below (va_Qv (fun (_ : Unit) => True) (gB G (fun (_ : Unit) => (wM m0 r cI cJ cZ cB cT hh)) A) A) args s 0 0 A) (F0 m 46 ls []) := by
        intro n_46
        induction n_46 with
        | zero =>
          intro h x1 x2 x3 x4 x5 x6 hF
          exact absurd hF (by simp [f_X9_triesDoings_46])
        | succ n_46 ih_46 =>
          intro h x1 x2 x3 x4 x5 x6 hF H locs ls hP hD hS hl
          rw [f_X9_triesDoings_46_s] at hF
          refine lv_iload hx hb dX9_triesDoings_46 (lv_at hl 6 rfl) ?_
          refine lv_if_lt (tgt := 88) hx hb dX9_triesDoings_48 (by decide) (fun c_3 => ?_) (fun c_3 => ?_)
          · have hF := ob_pos c_3 hF
            refine lv_aload_n hx hb dX9_triesDoings_88 rfl (lv_at hl 0 rfl) ?_
            refine lv_iload_n hx hb dX9_triesDoings_89 rfl (lv_at hl 1 rfl) ?_
            refine lv_iload_n hx hb dX9_triesDoings_90 rfl (lv_at hl 2 rfl) ?_
            obtain ⟨h_4, e_4, hF⟩ := ob1_some hF
            refine gx_callv (gx_runV (As := [.int x1, .int x2]) (rest := []) ⟨hx, hb, hml, hown, hts⟩ (c_X9_asksPlan l G cI cJ cZ cB cT m0 r h x1 x2 h_4 e_4 H.size) (gG_V m_386 m_387 m_388 m_64 m_385) rfl e_X9_asksPlan ⟨Nat.le_of_ble_eq_true rfl, Nat.le_of_ble_eq_true rfl⟩ hK hP hD hE hS hA 0 wM_at0 rfl rfl hl.1 rfl (Nat.le_of_ble_eq_true rfl) dX9_triesDoings_91 ⟨Nat.le_refl _, Nat.le_refl _⟩) hP hD hS hA (fun u_4 H locs hw_4 hP hD hS => ?_)
            refine lv_iinc (v := (x4 + 1)) (lv' := [(4, .int (x4 + 1)), (0, .ref m0), (1, .int x1), (2, .int x2), (3, .int x3), (5, .int x5), (6, .int x6)]) hx hb dX9_triesDoings_94 hl (k := 4) rfl rfl (by decide) rfl (fun ls hl => ?_)
            refine lv_goto (tgt := 31) hx hb dX9_triesDoings_97 (by decide) ?_
            exact ih_31 h_4 x1 x2 x3 (x4 + 1) hF H _ ls hP hD hS (lv_sub hl [1, 2, 3, 4, 0] rfl)
          · have hF := ob_neg c_3 hF
            refine lv_aload_n hx hb dX9_triesDoings_51 rfl (lv_at hl 0 rfl) ?_
            refine va_get (D := G) (ci := 9) (v := .ref (r 49)) (C := RX9) (T := TX9) (N := 53) hx hb hts iX9 hown hK hP 0 wM_at0 rfl 49 (by decide) (hts _ m_382) (fun _ h9 => h9) rfl dX9_triesDoings_52 ?_
            refine lv_iload hx hb dX9_triesDoings_55 (lv_at hl 6 rfl) ?_
            refine lv_iload hx hb dX9_triesDoings_57 (lv_at hl 5 rfl) ?_
            refine lv_iconst (v := 3) hx hb dX9_triesDoings_59 (by decide) ?_
            refine lv_aload_n hx hb dX9_triesDoings_60 rfl (lv_at hl 0 rfl) ?_
            refine va_get (D := G) (ci := 9) (v := .ref (r 0)) (C := RX9) (T := TX9) (N := 53) hx hb hts iX9 hown hK hP 0 wM_at0 rfl 0 (by decide) (hts _ m_92) (fun _ h9 => h9) rfl dX9_triesDoings_61 ?_
            refine lv_iconst (v := 0) hx hb dX9_triesDoings_64 (by decide) ?_
            refine va_iald (D := G) hx hb hK hP 1 0 wM_at1 rfl (vp_in_nI (n := 0) (by decide) (by decide)) dX9_triesDoings_65 ?_
            refine gw_topi (y := ((eA h 0 0) 0)) rfl ?_
            refine lv_imul hx hb dX9_triesDoings_66 ?_
            obtain ⟨hd_5, hF⟩ := ob_if hF
            refine lv_irem hx hb dX9_triesDoings_67 hd_5 ?_
            obtain ⟨hi_6, hF⟩ := ob_if hF
            refine va_iast (D := G) hx hb hK hP hD hS 32 0 wM_at32 rfl (vp_in_iff.mpr hi_6) dX9_triesDoings_68 (fun H locs hP hD hS => ?_)
            rw [wM_sA32] at hP hD
            have hP : va_P G vwCl (wM m0 r cI cJ cZ cB cT (sA h 0 49 (upd (eA h 0 49) ((x6).toNatClampNeg) (x5 - x5 / (3 * ((eA h 0 0) 0)) * (3 * ((eA h 0 0) 0)))))) H := hP
            have hD : va_D A (wM m0 r cI cJ cZ cB cT (sA h 0 49 (upd (eA h 0 49) ((x6).toNatClampNeg) (x5 - x5 / (3 * ((eA h 0 0) 0)) * (3 * ((eA h 0 0) 0)))))) := hD
            refine lv_iload hx hb dX9_triesDoings_69 (lv_at hl 5 rfl) ?_
            refine lv_iconst (v := 3) hx hb dX9_triesDoings_71 (by decide) ?_
            refine lv_aload_n hx hb dX9_triesDoings_72 rfl (lv_at hl 0 rfl) ?_
            refine va_get (D := G) (ci := 9) (v := .ref (r 0)) (C := RX9) (T := TX9) (N := 53) hx hb hts iX9 hown hK hP 0 wM_at0 rfl 0 (by decide) (hts _ m_92) (fun _ h9 => h9) rfl dX9_triesDoings_73 ?_
            refine lv_iconst (v := 0) hx hb dX9_triesDoings_76 (by decide) ?_
            refine va_iald (D := G) hx hb hK hP 1 0 wM_at1 rfl (vp_in_nI (n := 0) (by decide) (by decide)) dX9_triesDoings_77 ?_
            refine gw_topi (y := ((eA h 0 0) 0)) rfl ?_
            refine lv_imul hx hb dX9_triesDoings_78 ?_
            obtain ⟨hd_7, hF⟩ := ob_if hF
            refine lv_idiv hx hb dX9_triesDoings_79 hd_7 ?_
            refine lv_istore (lv' := [(5, .int (x5 / (3 * ((eA h 0 0) 0)))), (0, .ref m0), (1, .int x1), (2, .int x2), (3, .int x3), (4, .int x4), (6, .int x6)]) hx hb dX9_triesDoings_80 hl (by decide) rfl (fun ls hl => ?_)
            refine lv_iinc (v := (x6 + (-1))) (lv' := [(6, .int (x6 + (-1))), (5, .int (x5 / (3 * ((eA h 0 0) 0)))), (0, .ref m0), (1, .int x1), (2, .int x2), (3, .int x3), (4, .int x4)]) hx hb dX9_triesDoings_82 hl (k := 6) rfl rfl (by decide) rfl (fun ls hl => ?_)
            refine lv_goto (tgt := 46) hx hb dX9_triesDoings_85 (by decide) ?_
            exact ih_46 (sA h 0 49 (upd (eA h 0 49) ((x6).toNatClampNeg) (x5 - x5 / (3 * ((eA h 0 0) 0)) * (3 * ((eA h 0 0) 0))))) x1 x2 x3 x4 (x5 / (3 * ((eA h 0 0) 0))) (x6 + (-1)) hF H _ ls hP hD hS (lv_sub hl [2, 3, 4, 5, 6, 1, 0] rfl)
      intro h x1 x2 x3 x4 hF H locs ls hP hD hS hl
      rw [f_X9_triesDoings_31_s] at hF
      refine lv_iload hx hb dX9_triesDoings_31 (lv_at hl 4 rfl) ?_
      refine lv_iload_n hx hb dX9_triesDoings_33 rfl (lv_at hl 3 rfl) ?_
      refine lv_icmp_ge (tgt := 100) hx hb dX9_triesDoings_34 (by decide) (fun c_2 => ?_) (fun c_2 => ?_)
      · have hF := ob_pos c_2 hF
        obtain rfl := ob_one hF
        exact gw_vret () hx hb hr hlocks hP hD hS trivial dX9_triesDoings_100
      · have hF := ob_neg c_2 hF
        refine lv_iload hx hb dX9_triesDoings_37 (lv_at hl 4 rfl) ?_
        refine lv_istore (lv' := [(5, .int x4), (0, .ref m0), (1, .int x1), (2, .int x2), (3, .int x3), (4, .int x4)]) hx hb dX9_triesDoings_39 hl (by decide) rfl (fun ls hl => ?_)
        refine lv_iload_n hx hb dX9_triesDoings_41 rfl (lv_at hl 2 rfl) ?_
        refine lv_iconst (v := 1) hx hb dX9_triesDoings_42 (by decide) ?_
        refine lv_isub hx hb dX9_triesDoings_43 ?_
        refine lv_istore (lv' := [(6, .int (x1 - 1)), (5, .int x4), (0, .ref m0), (1, .int x1), (2, .int x2), (3, .int x3), (4, .int x4)]) hx hb dX9_triesDoings_44 hl (by decide) rfl (fun ls hl => ?_)
        exact hJ_46 8589934592 h x1 x2 x3 x4 x4 (x1 - 1) hF H _ ls hP hD hS (lv_sub hl [2, 3, 4, 5, 6, 1, 0] rfl)
  have hJ_5 : ∀ (n_5 : Nat) (h : HS) (x1 : Int32) (x2 : Int32) (x3 : Int32) (x4 : Int32), f_X9_triesDoings_5 n_5 h x1 x2 x3 x4 = some hh → ∀ (H : Heap) (locs : List Loc) (ls : Array Slot), va_P G vwCl (wM m0 r cI cJ cZ cB cT h) H → va_D A (wM m0 r cI cJ cZ cB cT h) → va_S A s.heap H locs → lv_has ls 7 [(0, .ref m0), (1, .int x1), (2, .int x2), (3, .int x3), (4, .int x4)] → W p l e (gRm 4) s m args below meth c H locs 0 0 (MQ below (va_Qv (fun (_ : Unit) => True) (gB G (fun (_ : Unit) => (wM m0 r cI cJ cZ cB cT hh)) A) A) args s 0 0 A) (F0 m 5 ls []) := by
    intro n_5
    induction n_5 with
    | zero =>
      intro h x1 x2 x3 x4 hF
      exact absurd hF (by simp [f_X9_triesDoings_5])
    | succ n_5 ih_5 =>
      intro h x1 x2 x3 x4 hF H locs ls hP hD hS hl
      rw [f_X9_triesDoings_5_s] at hF
      refine lv_iload hx hb dX9_triesDoings_5 (lv_at hl 4 rfl) ?_
      refine lv_iload_n hx hb dX9_triesDoings_7 rfl (lv_at hl 1 rfl) ?_
      refine lv_icmp_ge (tgt := 28) hx hb dX9_triesDoings_8 (by decide) (fun c_1 => ?_) (fun c_1 => ?_)
      · have hF := ob_pos c_1 hF
        refine lv_iconst (v := 0) hx hb dX9_triesDoings_28 (by decide) ?_
        refine lv_istore (lv' := [(4, .int 0), (0, .ref m0), (1, .int x1), (2, .int x2), (3, .int x3)]) hx hb dX9_triesDoings_29 hl (by decide) rfl (fun ls hl => ?_)
        exact hJ_31 8589934592 h x1 x2 x3 0 hF H _ ls hP hD hS (lv_sub hl [1, 2, 3, 4, 0] rfl)
      · have hF := ob_neg c_1 hF
        refine lv_iload_n hx hb dX9_triesDoings_11 rfl (lv_at hl 3 rfl) ?_
        refine lv_iconst (v := 3) hx hb dX9_triesDoings_12 (by decide) ?_
        refine lv_imul hx hb dX9_triesDoings_13 ?_
        refine lv_aload_n hx hb dX9_triesDoings_14 rfl (lv_at hl 0 rfl) ?_
        refine va_get (D := G) (ci := 9) (v := .ref (r 0)) (C := RX9) (T := TX9) (N := 53) hx hb hts iX9 hown hK hP 0 wM_at0 rfl 0 (by decide) (hts _ m_92) (fun _ h9 => h9) rfl dX9_triesDoings_15 ?_
        refine lv_iconst (v := 0) hx hb dX9_triesDoings_18 (by decide) ?_
        refine va_iald (D := G) hx hb hK hP 1 0 wM_at1 rfl (vp_in_nI (n := 0) (by decide) (by decide)) dX9_triesDoings_19 ?_
        refine gw_topi (y := ((eA h 0 0) 0)) rfl ?_
        refine lv_imul hx hb dX9_triesDoings_20 ?_
        refine lv_istore_n (lv' := [(3, .int ((x3 * 3) * ((eA h 0 0) 0))), (0, .ref m0), (1, .int x1), (2, .int x2), (4, .int x4)]) hx hb dX9_triesDoings_21 rfl hl (by decide) rfl (fun ls hl => ?_)
        refine lv_iinc (v := (x4 + 1)) (lv' := [(4, .int (x4 + 1)), (3, .int ((x3 * 3) * ((eA h 0 0) 0))), (0, .ref m0), (1, .int x1), (2, .int x2)]) hx hb dX9_triesDoings_22 hl (k := 4) rfl rfl (by decide) rfl (fun ls hl => ?_)
        refine lv_goto (tgt := 5) hx hb dX9_triesDoings_25 (by decide) ?_
        exact ih_5 h x1 x2 ((x3 * 3) * ((eA h 0 0) 0)) (x4 + 1) hF H _ ls hP hD hS (lv_sub hl [2, 3, 4, 1, 0] rfl)
  unfold f_X9_triesDoings at hF
  refine lv_iconst (v := 1) hx hb dX9_triesDoings_0 (by decide) ?_
  refine lv_istore_n (lv' := [(3, .int 1), (0, .ref m0), (1, .int p1), (2, .int p2)]) hx hb dX9_triesDoings_1 rfl hl (by decide) rfl (fun ls hl => ?_)
  refine lv_iconst (v := 0) hx hb dX9_triesDoings_2 (by decide) ?_
  refine lv_istore (lv' := [(4, .int 0), (3, .int 1), (0, .ref m0), (1, .int p1), (2, .int p2)]) hx hb dX9_triesDoings_3 hl (by decide) rfl (fun ls hl => ?_)
  exact hJ_5 8589934592 h p1 p2 1 0 hF H _ ls hP hD hS (lv_sub hl [2, 3, 4, 1, 0] rfl)
def f_X9_plansOf_167 (h : HS) (y0 : Int32) : Option (Int32 × HS) := (if y0 = 0 ∨ y0 = 1 then (some (y0, h)) else none)
def f_X9_plansOf_145 (k9 : HS → Int32 → Int32 → Int32 → Option (Int32 × HS)) (h : HS) (x1 : Int32) (x2 : Int32) (x3 : Int32) : Option (Int32 × HS) := (k9 h x1 x2 (x3 + 1))
def f_X9_plansOf_122 (k9 : HS → Int32 → Int32 → Int32 → Option (Int32 × HS)) (k25 : HS → Int32 → Int32 → Int32 → Int32 → Int32 → Int32 → Option (Int32 × HS)) (h : HS) (x1 : Int32) (x2 : Int32) (x3 : Int32) (x4 : Int32) (x5 : Int32) (x6 : Int32) : Option (Int32 × HS) := (k25 h x1 x2 x3 x4 x5 (x6 + 1))
def f_X9_plansOf_119 (k9 : HS → Int32 → Int32 → Int32 → Option (Int32 × HS)) (k25 : HS → Int32 → Int32 → Int32 → Int32 → Int32 → Int32 → Option (Int32 × HS)) (h : HS) (x1 : Int32) (x2 : Int32) (x3 : Int32) (x4 : Int32) (x5 : Int32) (x6 : Int32) : Option (Int32 × HS) := (f_X9_plansOf_122 k9 k25 h x1 x2 x3 (x4 + 1) x5 x6)
def f_X9_plansOf_102 (k9 : HS → Int32 → Int32 → Int32 → Option (Int32 × HS)) (k25 : HS → Int32 → Int32 → Int32 → Int32 → Int32 → Int32 → Option (Int32 × HS)) (h : HS) (x1 : Int32) (x2 : Int32) (x3 : Int32) (x4 : Int32) (x6 : Int32) (y0 : Int32) : Option (Int32 × HS) := (if 3 ≤ x4 then (f_X9_plansOf_119 k9 k25 h x1 x2 x3 x4 y0 x6) else (if 0 ≤ (x4).toInt ∧ (x4).toInt < 3 then (f_X9_plansOf_119 k9 k25 (sA h 0 48 (upd (eA h 0 48) ((x4).toNatClampNeg) x6)) x1 x2 x3 x4 y0 x6) else none))
def f_X9_plansOf_101 (k9 : HS → Int32 → Int32 → Int32 → Option (Int32 × HS)) (k25 : HS → Int32 → Int32 → Int32 → Int32 → Int32 → Int32 → Option (Int32 × HS)) (h : HS) (x1 : Int32) (x2 : Int32) (x3 : Int32) (x4 : Int32) (x6 : Int32) : Option (Int32 × HS) := (f_X9_plansOf_102 k9 k25 h x1 x2 x3 x4 x6 0)
def f_X9_plansOf_79 (k9 : HS → Int32 → Int32 → Int32 → Option (Int32 × HS)) (k25 : HS → Int32 → Int32 → Int32 → Int32 → Int32 → Int32 → Option (Int32 × HS)) (k48 : HS → Int32 → Int32 → Int32 → Int32 → Int32 → Int32 → Int32 → Int32 → Option (Int32 × HS)) (h : HS) (x1 : Int32) (x2 : Int32) (x3 : Int32) (x4 : Int32) (x5 : Int32) (x6 : Int32) (x8 : Int32) (y0 : Int32) : Option (Int32 × HS) := (k48 h x1 x2 x3 x4 x5 x6 y0 (x8 + 1))
def f_X9_plansOf_74 (k9 : HS → Int32 → Int32 → Int32 → Option (Int32 × HS)) (k25 : HS → Int32 → Int32 → Int32 → Int32 → Int32 → Int32 → Option (Int32 × HS)) (k48 : HS → Int32 → Int32 → Int32 → Int32 → Int32 → Int32 → Int32 → Int32 → Option (Int32 × HS)) (h : HS) (x1 : Int32) (x2 : Int32) (x3 : Int32) (x4 : Int32) (x5 : Int32) (x6 : Int32) (x8 : Int32) : Option (Int32 × HS) := (f_X9_plansOf_79 k9 k25 k48 h x1 x2 x3 x4 x5 x6 x8 1)
def f_X9_plansOf_48 (k9 : HS → Int32 → Int32 → Int32 → Option (Int32 × HS)) (k25 : HS → Int32 → Int32 → Int32 → Int32 → Int32 → Int32 → Option (Int32 × HS)) : Nat → HS → Int32 → Int32 → Int32 → Int32 → Int32 → Int32 → Int32 → Int32 → Option (Int32 × HS)
  | 0, _, _, _, _, _, _, _, _, _ => none
  | n + 1, h, x1, x2, x3, x4, x5, x6, x7, x8 => (if (eI h 0 47) ≤ x8 then (if x5 = 0 then (f_X9_plansOf_101 k9 k25 h x1 x2 x3 x4 x6) else (if x7 = 0 then (f_X9_plansOf_101 k9 k25 h x1 x2 x3 x4 x6) else (f_X9_plansOf_102 k9 k25 h x1 x2 x3 x4 x6 1))) else (if x7 = 0 then (if 0 ≤ (x8).toInt ∧ (x8).toInt < 10 then (if ((eA h 0 46) ((x8).toNatClampNeg)) = x6 then (f_X9_plansOf_74 k9 k25 (f_X9_plansOf_48 k9 k25 n) h x1 x2 x3 x4 x5 x6 x8) else (f_X9_plansOf_79 k9 k25 (f_X9_plansOf_48 k9 k25 n) h x1 x2 x3 x4 x5 x6 x8 0)) else none) else (f_X9_plansOf_74 k9 k25 (f_X9_plansOf_48 k9 k25 n) h x1 x2 x3 x4 x5 x6 x8)))
theorem f_X9_plansOf_48_s (k9 : HS → Int32 → Int32 → Int32 → Option (Int32 × HS)) (k25 : HS → Int32 → Int32 → Int32 → Int32 → Int32 → Int32 → Option (Int32 × HS)) (n : Nat) (h : HS) (x1 : Int32) (x2 : Int32) (x3 : Int32) (x4 : Int32) (x5 : Int32) (x6 : Int32) (x7 : Int32) (x8 : Int32) : f_X9_plansOf_48 k9 k25 (n + 1) h x1 x2 x3 x4 x5 x6 x7 x8 = (if (eI h 0 47) ≤ x8 then (if x5 = 0 then (f_X9_plansOf_101 k9 k25 h x1 x2 x3 x4 x6) else (if x7 = 0 then (f_X9_plansOf_101 k9 k25 h x1 x2 x3 x4 x6) else (f_X9_plansOf_102 k9 k25 h x1 x2 x3 x4 x6 1))) else (if x7 = 0 then (if 0 ≤ (x8).toInt ∧ (x8).toInt < 10 then (if ((eA h 0 46) ((x8).toNatClampNeg)) = x6 then (f_X9_plansOf_74 k9 k25 (f_X9_plansOf_48 k9 k25 n) h x1 x2 x3 x4 x5 x6 x8) else (f_X9_plansOf_79 k9 k25 (f_X9_plansOf_48 k9 k25 n) h x1 x2 x3 x4 x5 x6 x8 0)) else none) else (f_X9_plansOf_74 k9 k25 (f_X9_plansOf_48 k9 k25 n) h x1 x2 x3 x4 x5 x6 x8))) := rfl
def f_X9_plansOf_25 (k9 : HS → Int32 → Int32 → Int32 → Option (Int32 × HS)) : Nat → HS → Int32 → Int32 → Int32 → Int32 → Int32 → Int32 → Option (Int32 × HS)
  | 0, _, _, _, _, _, _, _ => none
  | n + 1, h, x1, x2, x3, x4, x5, x6 => (if 10 ≤ x6 then (if x5 = 0 then (f_X9_plansOf_145 k9 h x1 x2 x3) else (if x4 = x1 then (ob1 (f_X9_triesDoings h x1 x2) (fun h_7 => (f_X9_plansOf_145 k9 h_7 x1 x2 x3))) else (f_X9_plansOf_145 k9 h x1 x2 x3))) else (if ((x3 >>> (x6 &&& 31)) &&& 1) = 1 then (f_X9_plansOf_48 k9 (f_X9_plansOf_25 k9 n) 8589934592 h x1 x2 x3 x4 x5 x6 0 0) else (f_X9_plansOf_122 k9 (f_X9_plansOf_25 k9 n) h x1 x2 x3 x4 x5 x6)))
theorem f_X9_plansOf_25_s (k9 : HS → Int32 → Int32 → Int32 → Option (Int32 × HS)) (n : Nat) (h : HS) (x1 : Int32) (x2 : Int32) (x3 : Int32) (x4 : Int32) (x5 : Int32) (x6 : Int32) : f_X9_plansOf_25 k9 (n + 1) h x1 x2 x3 x4 x5 x6 = (if 10 ≤ x6 then (if x5 = 0 then (f_X9_plansOf_145 k9 h x1 x2 x3) else (if x4 = x1 then (ob1 (f_X9_triesDoings h x1 x2) (fun h_7 => (f_X9_plansOf_145 k9 h_7 x1 x2 x3))) else (f_X9_plansOf_145 k9 h x1 x2 x3))) else (if ((x3 >>> (x6 &&& 31)) &&& 1) = 1 then (f_X9_plansOf_48 k9 (f_X9_plansOf_25 k9 n) 8589934592 h x1 x2 x3 x4 x5 x6 0 0) else (f_X9_plansOf_122 k9 (f_X9_plansOf_25 k9 n) h x1 x2 x3 x4 x5 x6))) := rfl
def f_X9_plansOf_9 : Nat → HS → Int32 → Int32 → Int32 → Option (Int32 × HS)
  | 0, _, _, _, _ => none
  | n + 1, h, x1, x2, x3 => (if 1024 ≤ x3 then (if (lg_cmp (eL h 0 52) (-1)) = 0 then (f_X9_plansOf_167 h 0) else (f_X9_plansOf_167 h 1)) else (f_X9_plansOf_25 (f_X9_plansOf_9 n) 8589934592 h x1 x2 x3 0 1 0))
theorem f_X9_plansOf_9_s (n : Nat) (h : HS) (x1 : Int32) (x2 : Int32) (x3 : Int32) : f_X9_plansOf_9 (n + 1) h x1 x2 x3 = (if 1024 ≤ x3 then (if (lg_cmp (eL h 0 52) (-1)) = 0 then (f_X9_plansOf_167 h 0) else (f_X9_plansOf_167 h 1)) else (f_X9_plansOf_25 (f_X9_plansOf_9 n) 8589934592 h x1 x2 x3 0 1 0)) := rfl
def f_X9_plansOf (h : HS) (p1 : Int32) (p2 : Int32) : Option (Int32 × HS) := (f_X9_plansOf_9 8589934592 (sL h 0 52 (-1)) p1 p2 0)
theorem e_X9_triesDoings : yX9_triesDoings.cls = RX9 ∧ yX9_triesDoings.cls ≠ "java/lang/invoke/MethodHandle" ∧ yX9_triesDoings.cls ≠ "java/lang/invoke/VarHandle" ∧ (parseMethodDescriptor yX9_triesDoings.desc).map (fun d => d.parameters.length) = some 2 := by decide +kernel
set_option maxHeartbeats 4000000 in
set_option maxRecDepth 100000 in
theorem c_X9_plansOf (l : Launch) (G : va_G) (cI cJ cZ cB cT : ClassId) (m0 : Nat) (r : Nat → Nat) (h : HS) (p1 : Int32) (p2 : Int32) (rr : Int32) (hh : HS) (hF : f_X9_plansOf h p1 p2 = some (rr, hh)) : gMi l yX9_plansOf (gws yX9_plansOf cX9_plansOf 9 (some .boolean)) 5 G (gT cI cJ cZ cB cT) [.ref m0, .int p1, .int p2] (wM m0 r cI cJ cZ cB cT h) (fun x (_ : Unit) => x = rr) (fun (_ : Unit) => (wM m0 r cI cJ cZ cB cT hh)) := by
  intro sz
  refine gM_start (y := yX9_plansOf) (av := [.ref m0, .int p1, .int p2]) (ws := (wM m0 r cI cJ cZ cB cT h)) (Qf := fun A => va_Qi (fun x (_ : Unit) => x = rr) (gB G (fun (_ : Unit) => (wM m0 r cI cJ cZ cB cT hh)) A) A) (cc := cX9_plansOf) (maxL := 9) (ret := (some .boolean)) (by decide) (Nat.le_of_ble_eq_true rfl) ?_
  intro p e s m args below meth c A ls H hx hb hr hts hown hin hlocks hml hP hK hD hA hS hl hE
  have hl : lv_has ls 9 [(0, .ref m0), (1, .int p1), (2, .int p2)] := hl
  have hJ_167 : ∀ (h : HS) (y0 : Int32), f_X9_plansOf_167 h y0 = some (rr, hh) → ∀ (H : Heap) (locs : List Loc) (ls : Array Slot), va_P G vwCl (wM m0 r cI cJ cZ cB cT h) H → va_D A (wM m0 r cI cJ cZ cB cT h) → va_S A s.heap H locs → lv_has ls 9 [] → W p l e (gRm 5) s m args below meth c H locs 0 0 (MQ below (va_Qi (fun x (_ : Unit) => x = rr) (gB G (fun (_ : Unit) => (wM m0 r cI cJ cZ cB cT hh)) A) A) args s 0 0 A) (F0 m 167 ls [.int y0]) := by
    intro h y0 hF H locs ls hP hD hS hl
    unfold f_X9_plansOf_167 at hF
    obtain ⟨hz_3, hF⟩ := ob_if hF
    obtain ⟨rfl, rfl⟩ := ob_pair hF
    exact gw_zret () hx hb hr hlocks (gz hz_3) hP hD hS rfl dX9_plansOf_167
  have hJ_9 : ∀ (n_9 : Nat) (h : HS) (x1 : Int32) (x2 : Int32) (x3 : Int32), f_X9_plansOf_9 n_9 h x1 x2 x3 = some (rr, hh) → ∀ (H : Heap) (locs : List Loc) (ls : Array Slot), va_P G vwCl (wM m0 r cI cJ cZ cB cT h) H → va_D A (wM m0 r cI cJ cZ cB cT h) → va_S A s.heap H locs → lv_has ls 9 [(0, .ref m0), (1, .int x1), (2, .int x2), (3, .int x3)] → W p l e (gRm 5) s m args below meth c H locs 0 0 (MQ below (va_Qi (fun x (_ : Unit) => x = rr) (gB G (fun (_ : Unit) => (wM m0 r cI cJ cZ cB cT hh)) A) A) args s 0 0 A) (F0 m 9 ls []) := by
    intro n_9
    induction n_9 with
    | zero =>
      intro h x1 x2 x3 hF
      exact absurd hF (by simp [f_X9_plansOf_9])
    | succ n_9 ih_9 =>
      have hJ_145 : ∀ (h : HS) (x1 : Int32) (x2 : Int32) (x3 : Int32), f_X9_plansOf_145 (f_X9_plansOf_9 n_9) h x1 x2 x3 = some (rr, hh) → ∀ (H : Heap) (locs : List Loc) (ls : Array Slot), va_P G vwCl (wM m0 r cI cJ cZ cB cT h) H → va_D A (wM m0 r cI cJ cZ cB cT h) → va_S A s.heap H locs → lv_has ls 9 [(0, .ref m0), (1, .int x1), (2, .int x2), (3, .int x3)] → W p l e (gRm 5) s m args below meth c H locs 0 0 (MQ below (va_Qi (fun x (_ : Unit) => x = rr) (gB G (fun (_ : Unit) => (wM m0 r cI cJ cZ cB cT hh)) A) A) args s 0 0 A) (F0 m 145 ls []) := by
        intro h x1 x2 x3 hF H locs ls hP hD hS hl
        unfold f_X9_plansOf_145 at hF
        refine lv_iinc (v := (x3 + 1)) (lv' := [(3, .int (x3 + 1)), (0, .ref m0), (1, .int x1), (2, .int x2)]) hx hb dX9_plansOf_145 hl (k := 3) rfl rfl (by decide) rfl (fun ls hl => ?_)
        refine lv_goto (tgt := 9) hx hb dX9_plansOf_148 (by decide) ?_
        exact ih_9 h x1 x2 (x3 + 1) hF H _ ls hP hD hS (lv_sub hl [1, 2, 3, 0] rfl)
      have hJ_25 : ∀ (n_25 : Nat) (h : HS) (x1 : Int32) (x2 : Int32) (x3 : Int32) (x4 : Int32) (x5 : Int32) (x6 : Int32), f_X9_plansOf_25 (f_X9_plansOf_9 n_9) n_25 h x1 x2 x3 x4 x5 x6 = some (rr, hh) → ∀ (H : Heap) (locs : List Loc) (ls : Array Slot), va_P G vwCl (wM m0 r cI cJ cZ cB cT h) H → va_D A (wM m0 r cI cJ cZ cB cT h) → va_S A s.heap H locs → lv_has ls 9 [(0, .ref m0), (1, .int x1), (2, .int x2), (3, .int x3), (4, .int x4), (5, .int x5), (6, .int x6)] → W p l e (gRm 5) s m args below meth c H locs 0 0 (MQ below (va_Qi (fun x (_ : Unit) => x = rr) (gB G (fun (_ : Unit) => (wM m0 r cI cJ cZ cB cT hh)) A) A) args s 0 0 A) (F0 m 25 ls []) := by
        intro n_25
        induction n_25 with
        | zero =>
          intro h x1 x2 x3 x4 x5 x6 hF
          exact absurd hF (by simp [f_X9_plansOf_25])
        | succ n_25 ih_25 =>
          have hJ_122 : ∀ (h : HS) (x1 : Int32) (x2 : Int32) (x3 : Int32) (x4 : Int32) (x5 : Int32) (x6 : Int32), f_X9_plansOf_122 (f_X9_plansOf_9 n_9) (f_X9_plansOf_25 (f_X9_plansOf_9 n_9) n_25) h x1 x2 x3 x4 x5 x6 = some (rr, hh) → ∀ (H : Heap) (locs : List Loc) (ls : Array Slot), va_P G vwCl (wM m0 r cI cJ cZ cB cT h) H → va_D A (wM m0 r cI cJ cZ cB cT h) → va_S A s.heap H locs → lv_has ls 9 [(0, .ref m0), (1, .int x1), (2, .int x2), (3, .int x3), (4, .int x4), (5, .int x5), (6, .int x6)] → W p l e (gRm 5) s m args below meth c H locs 0 0 (MQ below (va_Qi (fun x (_ : Unit) => x = rr) (gB G (fun (_ : Unit) => (wM m0 r cI cJ cZ cB cT hh)) A) A) args s 0 0 A) (F0 m 122 ls []) := by
            intro h x1 x2 x3 x4 x5 x6 hF H locs ls hP hD hS hl
            unfold f_X9_plansOf_122 at hF
            refine lv_iinc (v := (x6 + 1)) (lv' := [(6, .int (x6 + 1)), (0, .ref m0), (1, .int x1), (2, .int x2), (3, .int x3), (4, .int x4), (5, .int x5)]) hx hb dX9_plansOf_122 hl (k := 6) rfl rfl (by decide) rfl (fun ls hl => ?_)
            refine lv_goto (tgt := 25) hx hb dX9_plansOf_125 (by decide) ?_
            exact ih_25 h x1 x2 x3 x4 x5 (x6 + 1) hF H _ ls hP hD hS (lv_sub hl [1, 2, 3, 4, 5, 6, 0] rfl)
          have hJ_119 : ∀ (h : HS) (x1 : Int32) (x2 : Int32) (x3 : Int32) (x4 : Int32) (x5 : Int32) (x6 : Int32), f_X9_plansOf_119 (f_X9_plansOf_9 n_9) (f_X9_plansOf_25 (f_X9_plansOf_9 n_9) n_25) h x1 x2 x3 x4 x5 x6 = some (rr, hh) → ∀ (H : Heap) (locs : List Loc) (ls : Array Slot), va_P G vwCl (wM m0 r cI cJ cZ cB cT h) H → va_D A (wM m0 r cI cJ cZ cB cT h) → va_S A s.heap H locs → lv_has ls 9 [(0, .ref m0), (1, .int x1), (2, .int x2), (3, .int x3), (4, .int x4), (5, .int x5), (6, .int x6)] → W p l e (gRm 5) s m args below meth c H locs 0 0 (MQ below (va_Qi (fun x (_ : Unit) => x = rr) (gB G (fun (_ : Unit) => (wM m0 r cI cJ cZ cB cT hh)) A) A) args s 0 0 A) (F0 m 119 ls []) := by
            intro h x1 x2 x3 x4 x5 x6 hF H locs ls hP hD hS hl
            unfold f_X9_plansOf_119 at hF
            refine lv_iinc (v := (x4 + 1)) (lv' := [(4, .int (x4 + 1)), (0, .ref m0), (1, .int x1), (2, .int x2), (3, .int x3), (5, .int x5), (6, .int x6)]) hx hb dX9_plansOf_119 hl (k := 4) rfl rfl (by decide) rfl (fun ls hl => ?_)
            exact hJ_122 h x1 x2 x3 (x4 + 1) x5 x6 hF H _ ls hP hD hS (lv_sub hl [1, 2, 3, 4, 0, 5, 6] rfl)
          have hJ_102 : ∀ (h : HS) (x1 : Int32) (x2 : Int32) (x3 : Int32) (x4 : Int32) (x6 : Int32) (y0 : Int32), f_X9_plansOf_102 (f_X9_plansOf_9 n_9) (f_X9_plansOf_25 (f_X9_plansOf_9 n_9) n_25) h x1 x2 x3 x4 x6 y0 = some (rr, hh) → ∀ (H : Heap) (locs : List Loc) (ls : Array Slot), va_P G vwCl (wM m0 r cI cJ cZ cB cT h) H → va_D A (wM m0 r cI cJ cZ cB cT h) → va_S A s.heap H locs → lv_has ls 9 [(0, .ref m0), (1, .int x1), (2, .int x2), (3, .int x3), (4, .int x4), (6, .int x6)] → W p l e (gRm 5) s m args below meth c H locs 0 0 (MQ below (va_Qi (fun x (_ : Unit) => x = rr) (gB G (fun (_ : Unit) => (wM m0 r cI cJ cZ cB cT hh)) A) A) args s 0 0 A) (F0 m 102 ls [.int y0]) := by
            intro h x1 x2 x3 x4 x6 y0 hF H locs ls hP hD hS hl
            unfold f_X9_plansOf_102 at hF
            refine lv_istore (lv' := [(5, .int y0), (0, .ref m0), (1, .int x1), (2, .int x2), (3, .int x3), (4, .int x4), (6, .int x6)]) hx hb dX9_plansOf_102 hl (by decide) rfl (fun ls hl => ?_)
            refine lv_iload hx hb dX9_plansOf_104 (lv_at hl 5 rfl) ?_
            refine lv_iconst (v := 3) hx hb dX9_plansOf_106 (by decide) ?_
            refine lv_icmp_ge (tgt := 119) hx hb dX9_plansOf_107 (by decide) (fun c_15 => ?_) (fun c_15 => ?_)
            · have hF := ob_pos c_15 hF
              exact hJ_119 h x1 x2 x3 x4 y0 x6 hF H _ ls hP hD hS (lv_sub hl [1, 2, 3, 4, 5, 0, 6] rfl)
            · have hF := ob_neg c_15 hF
              refine lv_aload_n hx hb dX9_plansOf_110 rfl (lv_at hl 1 rfl) ?_
              refine va_get (D := G) (ci := 9) (v := .ref (r 48)) (C := RX9) (T := TX9) (N := 53) hx hb hts iX9 hown hK hP 0 wM_at0 rfl 48 (by decide) (hts _ m_381) (fun _ h9 => h9) rfl dX9_plansOf_111 ?_
              refine lv_iload hx hb dX9_plansOf_114 (lv_at hl 5 rfl) ?_
              refine lv_iload hx hb dX9_plansOf_116 (lv_at hl 6 rfl) ?_
              obtain ⟨hi_16, hF⟩ := ob_if hF
              refine va_iast (D := G) hx hb hK hP hD hS 31 0 wM_at31 rfl (vp_in_iff.mpr hi_16) dX9_plansOf_118 (fun H locs hP hD hS => ?_)
              rw [wM_sA31] at hP hD
              have hP : va_P G vwCl (wM m0 r cI cJ cZ cB cT (sA h 0 48 (upd (eA h 0 48) ((x4).toNatClampNeg) x6))) H := hP
              have hD : va_D A (wM m0 r cI cJ cZ cB cT (sA h 0 48 (upd (eA h 0 48) ((x4).toNatClampNeg) x6))) := hD
              exact hJ_119 (sA h 0 48 (upd (eA h 0 48) ((x4).toNatClampNeg) x6)) x1 x2 x3 x4 y0 x6 hF H _ ls hP hD hS (lv_sub hl [1, 2, 3, 4, 5, 0, 6] rfl)
          have hJ_101 : ∀ (h : HS) (x1 : Int32) (x2 : Int32) (x3 : Int32) (x4 : Int32) (x6 : Int32), f_X9_plansOf_101 (f_X9_plansOf_9 n_9) (f_X9_plansOf_25 (f_X9_plansOf_9 n_9) n_25) h x1 x2 x3 x4 x6 = some (rr, hh) → ∀ (H : Heap) (locs : List Loc) (ls : Array Slot), va_P G vwCl (wM m0 r cI cJ cZ cB cT h) H → va_D A (wM m0 r cI cJ cZ cB cT h) → va_S A s.heap H locs → lv_has ls 9 [(0, .ref m0), (1, .int x1), (2, .int x2), (3, .int x3), (4, .int x4), (6, .int x6)] → W p l e (gRm 5) s m args below meth c H locs 0 0 (MQ below (va_Qi (fun x (_ : Unit) => x = rr) (gB G (fun (_ : Unit) => (wM m0 r cI cJ cZ cB cT hh)) A) A) args s 0 0 A) (F0 m 101 ls []) := by
            intro h x1 x2 x3 x4 x6 hF H locs ls hP hD hS hl
            unfold f_X9_plansOf_101 at hF
            refine lv_iconst (v := 0) hx hb dX9_plansOf_101 (by decide) ?_
            exact hJ_102 h x1 x2 x3 x4 x6 0 hF H _ ls hP hD hS (lv_sub hl [0, 1, 2, 3, 4, 5] rfl)
          have hJ_48 : ∀ (n_48 : Nat) (h : HS) (x1 : Int32) (x2 : Int32) (x3 : Int32) (x4 : Int32) (x5 : Int32) (x6 : Int32) (x7 : Int32) (x8 : Int32), f_X9_plansOf_48 (f_X9_plansOf_9 n_9) (f_X9_plansOf_25 (f_X9_plansOf_9 n_9) n_25) n_48 h x1 x2 x3 x4 x5 x6 x7 x8 = some (rr, hh) → ∀ (H : Heap) (locs : List Loc) (ls : Array Slot), va_P G vwCl (wM m0 r cI cJ cZ cB cT h) H → va_D A (wM m0 r cI cJ cZ cB cT h) → va_S A s.heap H locs → lv_has ls 9 [(0, .ref m0), (1, .int x1), (2, .int x2), (3, .int x3), (4, .int x4), (5, .int x5), (6, .int x6), (7, .int x7), (8, .int x8)] → W p l e (gRm 5) s m args below meth c H locs 0 0 (MQ below (va_Qi (fun x (_ : Unit) => x = rr) (gB G (fun (_ : Unit) => (wM m0 r cI cJ cZ cB cT hh)) A) A) args s 0 0 A) (F0 m 48 ls []) := by
            intro n_48
            induction n_48 with
            | zero =>
              intro h x1 x2 x3 x4 x5 x6 x7 x8 hF
              exact absurd hF (by simp [f_X9_plansOf_48])
            | succ n_48 ih_48 =>
              have hJ_79 : ∀ (h : HS) (x1 : Int32) (x2 : Int32) (x3 : Int32) (x4 : Int32) (x5 : Int32) (x6 : Int32) (x8 : Int32) (y0 : Int32), f_X9_plansOf_79 (f_X9_plansOf_9 n_9) (f_X9_plansOf_25 (f_X9_plansOf_9 n_9) n_25) (f_X9_plansOf_48 (f_X9_plansOf_9 n_9) (f_X9_plansOf_25 (f_X9_plansOf_9 n_9) n_25) n_48) h x1 x2 x3 x4 x5 x6 x8 y0 = some (rr, hh) → ∀ (H : Heap) (locs : List Loc) (ls : Array Slot), va_P G vwCl (wM m0 r cI cJ cZ cB cT h) H → va_D A (wM m0 r cI cJ cZ cB cT h) → va_S A s.heap H locs → lv_has ls 9 [(0, .ref m0), (1, .int x1), (2, .int x2), (3, .int x3), (4, .int x4), (5, .int x5), (6, .int x6), (8, .int x8)] → W p l e (gRm 5) s m args below meth c H locs 0 0 (MQ below (va_Qi (fun x (_ : Unit) => x = rr) (gB G (fun (_ : Unit) => (wM m0 r cI cJ cZ cB cT hh)) A) A) args s 0 0 A) (F0 m 79 ls [.int y0]) := by
                intro h x1 x2 x3 x4 x5 x6 x8 y0 hF H locs ls hP hD hS hl
                unfold f_X9_plansOf_79 at hF
                refine lv_istore (lv' := [(7, .int y0), (0, .ref m0), (1, .int x1), (2, .int x2), (3, .int x3), (4, .int x4), (5, .int x5), (6, .int x6), (8, .int x8)]) hx hb dX9_plansOf_79 hl (by decide) rfl (fun ls hl => ?_)
                refine lv_iinc (v := (x8 + 1)) (lv' := [(8, .int (x8 + 1)), (7, .int y0), (0, .ref m0), (1, .int x1), (2, .int x2), (3, .int x3), (4, .int x4), (5, .int x5), (6, .int x6)]) hx hb dX9_plansOf_81 hl (k := 8) rfl rfl (by decide) rfl (fun ls hl => ?_)
                refine lv_goto (tgt := 48) hx hb dX9_plansOf_84 (by decide) ?_
                exact ih_48 h x1 x2 x3 x4 x5 x6 y0 (x8 + 1) hF H _ ls hP hD hS (lv_sub hl [2, 3, 4, 5, 6, 7, 8, 1, 0] rfl)
              have hJ_74 : ∀ (h : HS) (x1 : Int32) (x2 : Int32) (x3 : Int32) (x4 : Int32) (x5 : Int32) (x6 : Int32) (x8 : Int32), f_X9_plansOf_74 (f_X9_plansOf_9 n_9) (f_X9_plansOf_25 (f_X9_plansOf_9 n_9) n_25) (f_X9_plansOf_48 (f_X9_plansOf_9 n_9) (f_X9_plansOf_25 (f_X9_plansOf_9 n_9) n_25) n_48) h x1 x2 x3 x4 x5 x6 x8 = some (rr, hh) → ∀ (H : Heap) (locs : List Loc) (ls : Array Slot), va_P G vwCl (wM m0 r cI cJ cZ cB cT h) H → va_D A (wM m0 r cI cJ cZ cB cT h) → va_S A s.heap H locs → lv_has ls 9 [(0, .ref m0), (1, .int x1), (2, .int x2), (3, .int x3), (4, .int x4), (5, .int x5), (6, .int x6), (8, .int x8)] → W p l e (gRm 5) s m args below meth c H locs 0 0 (MQ below (va_Qi (fun x (_ : Unit) => x = rr) (gB G (fun (_ : Unit) => (wM m0 r cI cJ cZ cB cT hh)) A) A) args s 0 0 A) (F0 m 74 ls []) := by
                intro h x1 x2 x3 x4 x5 x6 x8 hF H locs ls hP hD hS hl
                unfold f_X9_plansOf_74 at hF
                refine lv_iconst (v := 1) hx hb dX9_plansOf_74 (by decide) ?_
                refine lv_goto (tgt := 79) hx hb dX9_plansOf_75 (by decide) ?_
                exact hJ_79 h x1 x2 x3 x4 x5 x6 x8 1 hF H _ ls hP hD hS (lv_sub hl [0, 1, 2, 3, 4, 5, 6, 7] rfl)
              intro h x1 x2 x3 x4 x5 x6 x7 x8 hF H locs ls hP hD hS hl
              rw [f_X9_plansOf_48_s] at hF
              refine lv_iload hx hb dX9_plansOf_48 (lv_at hl 8 rfl) ?_
              refine lv_aload_n hx hb dX9_plansOf_50 rfl (lv_at hl 0 rfl) ?_
              refine va_get (D := G) (ci := 9) (v := .int (eI h 0 47)) (C := RX9) (T := TX9) (N := 53) hx hb hts iX9 hown hK hP 0 wM_at0 rfl 47 (by decide) (hts _ m_375) (fun _ h9 => h9) rfl dX9_plansOf_51 ?_
              refine lv_icmp_ge (tgt := 87) hx hb dX9_plansOf_54 (by decide) (fun c_9 => ?_) (fun c_9 => ?_)
              · have hF := ob_pos c_9 hF
                refine lv_iload hx hb dX9_plansOf_87 (lv_at hl 5 rfl) ?_
                refine lv_if_eq (tgt := 101) hx hb dX9_plansOf_89 (by decide) (fun c_10 => ?_) (fun c_10 => ?_)
                · have hF := ob_pos c_10 hF
                  exact hJ_101 h x1 x2 x3 x4 x6 hF H _ ls hP hD hS (lv_sub hl [0, 1, 2, 3, 4, 6] rfl)
                · have hF := ob_neg c_10 hF
                  refine lv_iload hx hb dX9_plansOf_92 (lv_at hl 7 rfl) ?_
                  refine lv_if_eq (tgt := 101) hx hb dX9_plansOf_94 (by decide) (fun c_11 => ?_) (fun c_11 => ?_)
                  · have hF := ob_pos c_11 hF
                    exact hJ_101 h x1 x2 x3 x4 x6 hF H _ ls hP hD hS (lv_sub hl [0, 1, 2, 3, 4, 6] rfl)
                  · have hF := ob_neg c_11 hF
                    refine lv_iconst (v := 1) hx hb dX9_plansOf_97 (by decide) ?_
                    refine lv_goto (tgt := 102) hx hb dX9_plansOf_98 (by decide) ?_
                    exact hJ_102 h x1 x2 x3 x4 x6 1 hF H _ ls hP hD hS (lv_sub hl [0, 1, 2, 3, 4, 6] rfl)
              · have hF := ob_neg c_9 hF
                refine lv_iload hx hb dX9_plansOf_57 (lv_at hl 7 rfl) ?_
                refine lv_if_ne (tgt := 74) hx hb dX9_plansOf_59 (by decide) (fun c_12 => ?_) (fun c_12 => ?_)
                · have hF := ob_neg c_12 hF
                  exact hJ_74 h x1 x2 x3 x4 x5 x6 x8 hF H _ ls hP hD hS (lv_sub hl [0, 1, 2, 3, 4, 5, 6, 8] rfl)
                · have hF := ob_pos c_12 hF
                  refine lv_aload_n hx hb dX9_plansOf_62 rfl (lv_at hl 0 rfl) ?_
                  refine va_get (D := G) (ci := 9) (v := .ref (r 46)) (C := RX9) (T := TX9) (N := 53) hx hb hts iX9 hown hK hP 0 wM_at0 rfl 46 (by decide) (hts _ m_376) (fun _ h9 => h9) rfl dX9_plansOf_63 ?_
                  refine lv_iload hx hb dX9_plansOf_66 (lv_at hl 8 rfl) ?_
                  obtain ⟨hi_13, hF⟩ := ob_if hF
                  refine va_iald (D := G) hx hb hK hP 30 0 wM_at30 rfl (vp_in_iff.mpr hi_13) dX9_plansOf_68 ?_
                  refine gw_topi (y := ((eA h 0 46) ((x8).toNatClampNeg))) rfl ?_
                  refine lv_iload hx hb dX9_plansOf_69 (lv_at hl 6 rfl) ?_
                  refine lv_icmp_ne (tgt := 78) hx hb dX9_plansOf_71 (by decide) (fun c_14 => ?_) (fun c_14 => ?_)
                  · have hF := ob_neg c_14 hF
                    refine lv_iconst (v := 0) hx hb dX9_plansOf_78 (by decide) ?_
                    exact hJ_79 h x1 x2 x3 x4 x5 x6 x8 0 hF H _ ls hP hD hS (lv_sub hl [0, 1, 2, 3, 4, 5, 6, 8] rfl)
                  · have hF := ob_pos c_14 hF
                    exact hJ_74 h x1 x2 x3 x4 x5 x6 x8 hF H _ ls hP hD hS (lv_sub hl [0, 1, 2, 3, 4, 5, 6, 8] rfl)
          intro h x1 x2 x3 x4 x5 x6 hF H locs ls hP hD hS hl
          rw [f_X9_plansOf_25_s] at hF
          refine lv_iload hx hb dX9_plansOf_25 (lv_at hl 6 rfl) ?_
          refine lv_bipush (v := 10) hx hb dX9_plansOf_27 (by decide) ?_
          refine lv_icmp_ge (tgt := 128) hx hb dX9_plansOf_29 (by decide) (fun c_4 => ?_) (fun c_4 => ?_)
          · have hF := ob_pos c_4 hF
            refine lv_iload hx hb dX9_plansOf_128 (lv_at hl 5 rfl) ?_
            refine lv_if_eq (tgt := 145) hx hb dX9_plansOf_130 (by decide) (fun c_5 => ?_) (fun c_5 => ?_)
            · have hF := ob_pos c_5 hF
              exact hJ_145 h x1 x2 x3 hF H _ ls hP hD hS (lv_sub hl [0, 1, 2, 3] rfl)
            · have hF := ob_neg c_5 hF
              refine lv_iload hx hb dX9_plansOf_133 (lv_at hl 4 rfl) ?_
              refine lv_iload_n hx hb dX9_plansOf_135 rfl (lv_at hl 1 rfl) ?_
              refine lv_icmp_ne (tgt := 145) hx hb dX9_plansOf_136 (by decide) (fun c_6 => ?_) (fun c_6 => ?_)
              · have hF := ob_neg c_6 hF
                exact hJ_145 h x1 x2 x3 hF H _ ls hP hD hS (lv_sub hl [0, 1, 2, 3] rfl)
              · have hF := ob_pos c_6 hF
                refine lv_aload_n hx hb dX9_plansOf_139 rfl (lv_at hl 0 rfl) ?_
                refine lv_iload_n hx hb dX9_plansOf_140 rfl (lv_at hl 1 rfl) ?_
                refine lv_iload_n hx hb dX9_plansOf_141 rfl (lv_at hl 2 rfl) ?_
                obtain ⟨h_7, e_7, hF⟩ := ob1_some hF
                refine gx_callv (gx_runV (As := [.int x1, .int x2]) (rest := []) ⟨hx, hb, hml, hown, hts⟩ (c_X9_triesDoings l G cI cJ cZ cB cT m0 r h x1 x2 h_7 e_7 H.size) (gG_V m_390 m_391 m_392 m_64 m_389) rfl e_X9_triesDoings ⟨Nat.le_of_ble_eq_true rfl, Nat.le_of_ble_eq_true rfl⟩ hK hP hD hE hS hA 0 wM_at0 rfl rfl hl.1 rfl (Nat.le_of_ble_eq_true rfl) dX9_plansOf_142 ⟨Nat.le_refl _, Nat.le_refl _⟩) hP hD hS hA (fun u_7 H locs hw_7 hP hD hS => ?_)
                exact hJ_145 h_7 x1 x2 x3 hF H _ ls hP hD hS (lv_sub hl [0, 1, 2, 3] rfl)
          · have hF := ob_neg c_4 hF
            refine lv_iload_n hx hb dX9_plansOf_32 rfl (lv_at hl 3 rfl) ?_
            refine lv_iload hx hb dX9_plansOf_33 (lv_at hl 6 rfl) ?_
            refine lv_ishr hx hb dX9_plansOf_35 ?_
            refine lv_iconst (v := 1) hx hb dX9_plansOf_36 (by decide) ?_
            refine lv_iand hx hb dX9_plansOf_37 ?_
            refine lv_iconst (v := 1) hx hb dX9_plansOf_38 (by decide) ?_
            refine lv_icmp_ne (tgt := 122) hx hb dX9_plansOf_39 (by decide) (fun c_8 => ?_) (fun c_8 => ?_)
            · have hF := ob_neg c_8 hF
              exact hJ_122 h x1 x2 x3 x4 x5 x6 hF H _ ls hP hD hS (lv_sub hl [0, 1, 2, 3, 4, 5, 6] rfl)
            · have hF := ob_pos c_8 hF
              refine lv_iconst (v := 0) hx hb dX9_plansOf_42 (by decide) ?_
              refine lv_istore (lv' := [(7, .int 0), (0, .ref m0), (1, .int x1), (2, .int x2), (3, .int x3), (4, .int x4), (5, .int x5), (6, .int x6)]) hx hb dX9_plansOf_43 hl (by decide) rfl (fun ls hl => ?_)
              refine lv_iconst (v := 0) hx hb dX9_plansOf_45 (by decide) ?_
              refine lv_istore (lv' := [(8, .int 0), (7, .int 0), (0, .ref m0), (1, .int x1), (2, .int x2), (3, .int x3), (4, .int x4), (5, .int x5), (6, .int x6)]) hx hb dX9_plansOf_46 hl (by decide) rfl (fun ls hl => ?_)
              exact hJ_48 8589934592 h x1 x2 x3 x4 x5 x6 0 0 hF H _ ls hP hD hS (lv_sub hl [2, 3, 4, 5, 6, 7, 8, 1, 0] rfl)
      intro h x1 x2 x3 hF H locs ls hP hD hS hl
      rw [f_X9_plansOf_9_s] at hF
      refine lv_iload_n hx hb dX9_plansOf_9 rfl (lv_at hl 3 rfl) ?_
      refine lv_sipush (v := 1024) hx hb dX9_plansOf_10 (by decide) ?_
      refine lv_icmp_ge (tgt := 151) hx hb dX9_plansOf_13 (by decide) (fun c_1 => ?_) (fun c_1 => ?_)
      · have hF := ob_pos c_1 hF
        refine lv_aload_n hx hb dX9_plansOf_151 rfl (lv_at hl 0 rfl) ?_
        refine va_get (D := G) (ci := 9) (v := .long (eL h 0 52)) (C := RX9) (T := TX9) (N := 53) hx hb hts iX9 hown hK hP 0 wM_at0 rfl 52 (by decide) (hts _ m_380) (fun _ h9 => h9) rfl dX9_plansOf_152 ?_
        refine lv_ldc2 (v := (-1)) hx hb hown (hts _ m_365) dX9_plansOf_155 ?_
        refine W.lcmp hx hb dX9_plansOf_158 ?_
        refine lv_if_eq (tgt := 166) hx hb dX9_plansOf_159 (by decide) (fun c_2 => ?_) (fun c_2 => ?_)
        · have hF := ob_pos c_2 hF
          refine lv_iconst (v := 0) hx hb dX9_plansOf_166 (by decide) ?_
          exact hJ_167 h 0 hF H _ ls hP hD hS (lv_sub hl [] rfl)
        · have hF := ob_neg c_2 hF
          refine lv_iconst (v := 1) hx hb dX9_plansOf_162 (by decide) ?_
          refine lv_goto (tgt := 167) hx hb dX9_plansOf_163 (by decide) ?_
          exact hJ_167 h 1 hF H _ ls hP hD hS (lv_sub hl [] rfl)
      · have hF := ob_neg c_1 hF
        refine lv_iconst (v := 0) hx hb dX9_plansOf_16 (by decide) ?_
        refine lv_istore (lv' := [(4, .int 0), (0, .ref m0), (1, .int x1), (2, .int x2), (3, .int x3)]) hx hb dX9_plansOf_17 hl (by decide) rfl (fun ls hl => ?_)
        refine lv_iconst (v := 1) hx hb dX9_plansOf_19 (by decide) ?_
        refine lv_istore (lv' := [(5, .int 1), (4, .int 0), (0, .ref m0), (1, .int x1), (2, .int x2), (3, .int x3)]) hx hb dX9_plansOf_20 hl (by decide) rfl (fun ls hl => ?_)
        refine lv_iconst (v := 0) hx hb dX9_plansOf_22 (by decide) ?_
        refine lv_istore (lv' := [(6, .int 0), (5, .int 1), (4, .int 0), (0, .ref m0), (1, .int x1), (2, .int x2), (3, .int x3)]) hx hb dX9_plansOf_23 hl (by decide) rfl (fun ls hl => ?_)
        exact hJ_25 8589934592 h x1 x2 x3 0 1 0 hF H _ ls hP hD hS (lv_sub hl [3, 4, 5, 6, 2, 1, 0] rfl)
  unfold f_X9_plansOf at hF
  refine lv_aload_n hx hb dX9_plansOf_0 rfl (lv_at hl 0 rfl) ?_
  refine lv_ldc2 (v := (-1)) hx hb hown (hts _ m_365) dX9_plansOf_1 ?_
  refine va_put (D := G) (ci := 9) (v := .long (-1)) (ty := .long) (C := RX9) (T := TX9) (N := 53) hx hb hts iX9 tyX9 tyX9_ok nmX9 hown hK hP hD hS 0 wM_at0 rfl 52 (by decide) (hts _ m_380) (fun _ h9 => h9) rfl (tyX9_ok 52 (by decide)) rfl rfl (Nat.le_of_ble_eq_true rfl) dX9_plansOf_4 (fun H locs hP hD hS => ?_)
  rw [wM_sI0_52] at hP hD
  refine lv_iconst (v := 0) hx hb dX9_plansOf_7 (by decide) ?_
  refine lv_istore_n (lv' := [(3, .int 0), (0, .ref m0), (1, .int p1), (2, .int p2)]) hx hb dX9_plansOf_8 rfl hl (by decide) rfl (fun ls hl => ?_)
  exact hJ_9 8589934592 (sL h 0 52 (-1)) p1 p2 0 hF H _ ls hP hD hS (lv_sub hl [1, 2, 3, 0] rfl)
def f_X9_plan_30 (h : HS) : Option (Int32 × HS) := (some ((-2), h))
def f_X9_plan_131 (h : HS) (x5 : Int32) : Option (Int32 × HS) := (some (x5, h))
def f_X9_plan_123 (k73 : HS → Int32 → Int32 → Int32 → Int32 → Option (Int32 × HS)) (h : HS) (x3 : Int32) (x4 : Int32) (x6 : Int32) (y0 : Int32) : Option (Int32 × HS) := (k73 h x3 x4 y0 (x6 + 1))
def f_X9_plan_73 : Nat → HS → Int32 → Int32 → Int32 → Int32 → Option (Int32 × HS)
  | 0, _, _, _, _, _ => none
  | n + 1, h, x3, x4, x5, x6 => (if x4 ≤ x6 then (f_X9_plan_131 h x5) else (if x3 = (-1) then (f_X9_plan_131 h x5) else (if 0 ≤ (x6).toInt ∧ (x6).toInt < 3 then (if ((eA h 0 50) ((x6).toNatClampNeg)) = x3 then (if 0 ≤ (x6).toInt ∧ (x6).toInt < 3 then (if 0 ≤ (x6).toInt ∧ (x6).toInt < 3 then (f_X9_plan_123 (f_X9_plan_73 n) h x3 x4 x6 ((10 * (((eA h 0 51) ((x6).toNatClampNeg)) / 3)) + (((eA h 0 51) ((x6).toNatClampNeg)) - ((eA h 0 51) ((x6).toNatClampNeg)) / 3 * 3))) else none) else none) else (f_X9_plan_123 (f_X9_plan_73 n) h x3 x4 x6 x5)) else none)))
theorem f_X9_plan_73_s (n : Nat) (h : HS) (x3 : Int32) (x4 : Int32) (x5 : Int32) (x6 : Int32) : f_X9_plan_73 (n + 1) h x3 x4 x5 x6 = (if x4 ≤ x6 then (f_X9_plan_131 h x5) else (if x3 = (-1) then (f_X9_plan_131 h x5) else (if 0 ≤ (x6).toInt ∧ (x6).toInt < 3 then (if ((eA h 0 50) ((x6).toNatClampNeg)) = x3 then (if 0 ≤ (x6).toInt ∧ (x6).toInt < 3 then (if 0 ≤ (x6).toInt ∧ (x6).toInt < 3 then (f_X9_plan_123 (f_X9_plan_73 n) h x3 x4 x6 ((10 * (((eA h 0 51) ((x6).toNatClampNeg)) / 3)) + (((eA h 0 51) ((x6).toNatClampNeg)) - ((eA h 0 51) ((x6).toNatClampNeg)) / 3 * 3))) else none) else none) else (f_X9_plan_123 (f_X9_plan_73 n) h x3 x4 x6 x5)) else none))) := rfl
def f_X9_plan_68 (h : HS) (x3 : Int32) (x4 : Int32) (y0 : Int32) : Option (Int32 × HS) := (f_X9_plan_73 8589934592 h x3 x4 y0 0)
def f_X9_plan_41 : Nat → HS → Int32 → Int32 → Int32 → Option (Int32 × HS)
  | 0, _, _, _, _ => none
  | n + 1, h, x2, x3, x4 => (if 4 ≤ x4 then (some ((-2), h)) else (ob2 (f_X9_plansOf h x4 x2) (fun r_10 h_10 => (if r_10 = 0 then ((f_X9_plan_41 n) h_10 x2 x3 (x4 + 1)) else (if x3 = (-1) then (f_X9_plan_68 h_10 x3 x4 x4) else (f_X9_plan_68 h_10 x3 x4 (-1)))))))
theorem f_X9_plan_41_s (n : Nat) (h : HS) (x2 : Int32) (x3 : Int32) (x4 : Int32) : f_X9_plan_41 (n + 1) h x2 x3 x4 = (if 4 ≤ x4 then (some ((-2), h)) else (ob2 (f_X9_plansOf h x4 x2) (fun r_10 h_10 => (if r_10 = 0 then ((f_X9_plan_41 n) h_10 x2 x3 (x4 + 1)) else (if x3 = (-1) then (f_X9_plan_68 h_10 x3 x4 x4) else (f_X9_plan_68 h_10 x3 x4 (-1))))))) := rfl
def f_X9_plan_33 (h : HS) (x1 : Int32) (x2 : Int32) (x3 : Int32) : Option (Int32 × HS) := (ob1 (f_X9_laysFlock h x1) (fun h_8 => (f_X9_plan_41 8589934592 h_8 x2 x3 1)))
def f_X9_plan (h : HS) (p1 : Int32) (p2 : Int32) (p3 : Int32) : Option (Int32 × HS) := (ob1 (f_X9_isLetterNumber p1) (fun r_1 => (if r_1 = 0 then (f_X9_plan_30 h) else (ob1 (f_X9_in p2 1 100) (fun r_3 => (if r_3 = 0 then (f_X9_plan_30 h) else (if p3 = (-1) then (f_X9_plan_33 h p1 p2 p3) else (ob2 (f_X9_isGoose h p3) (fun r_6 h_6 => (if r_6 = 0 then (f_X9_plan_30 h_6) else (f_X9_plan_33 h_6 p1 p2 p3)))))))))))
theorem e_X9_laysFlock : yX9_laysFlock.cls = RX9 ∧ yX9_laysFlock.cls ≠ "java/lang/invoke/MethodHandle" ∧ yX9_laysFlock.cls ≠ "java/lang/invoke/VarHandle" ∧ (parseMethodDescriptor yX9_laysFlock.desc).map (fun d => d.parameters.length) = some 1 := by decide +kernel
theorem e_X9_plansOf : yX9_plansOf.cls = RX9 ∧ yX9_plansOf.cls ≠ "java/lang/invoke/MethodHandle" ∧ yX9_plansOf.cls ≠ "java/lang/invoke/VarHandle" ∧ (parseMethodDescriptor yX9_plansOf.desc).map (fun d => d.parameters.length) = some 2 := by decide +kernel
set_option maxHeartbeats 4000000 in
set_option maxRecDepth 100000 in
theorem c_X9_plan (l : Launch) (G : va_G) (cI cJ cZ cB cT : ClassId) (m0 : Nat) (r : Nat → Nat) (h : HS) (p1 : Int32) (p2 : Int32) (p3 : Int32) (rr : Int32) (hh : HS) (hF : f_X9_plan h p1 p2 p3 = some (rr, hh)) : gMi l yX9_plan (gws yX9_plan cX9_plan 7 (some .int)) 6 G (gT cI cJ cZ cB cT) [.ref m0, .int p1, .int p2, .int p3] (wM m0 r cI cJ cZ cB cT h) (fun x (_ : Unit) => x = rr) (fun (_ : Unit) => (wM m0 r cI cJ cZ cB cT hh)) := by
  intro sz
  refine gM_start (y := yX9_plan) (av := [.ref m0, .int p1, .int p2, .int p3]) (ws := (wM m0 r cI cJ cZ cB cT h)) (Qf := fun A => va_Qi (fun x (_ : Unit) => x = rr) (gB G (fun (_ : Unit) => (wM m0 r cI cJ cZ cB cT hh)) A) A) (cc := cX9_plan) (maxL := 7) (ret := (some .int)) (by decide) (Nat.le_of_ble_eq_true rfl) ?_
  intro p e s m args below meth c A ls H hx hb hr hts hown hin hlocks hml hP hK hD hA hS hl hE
  have hl : lv_has ls 7 [(0, .ref m0), (1, .int p1), (2, .int p2), (3, .int p3)] := hl
  have hJ_30 : ∀ (h : HS), f_X9_plan_30 h = some (rr, hh) → ∀ (H : Heap) (locs : List Loc) (ls : Array Slot), va_P G vwCl (wM m0 r cI cJ cZ cB cT h) H → va_D A (wM m0 r cI cJ cZ cB cT h) → va_S A s.heap H locs → lv_has ls 7 [] → W p l e (gRm 6) s m args below meth c H locs 0 0 (MQ below (va_Qi (fun x (_ : Unit) => x = rr) (gB G (fun (_ : Unit) => (wM m0 r cI cJ cZ cB cT hh)) A) A) args s 0 0 A) (F0 m 30 ls []) := by
    intro h hF H locs ls hP hD hS hl
    unfold f_X9_plan_30 at hF
    refine lv_bipush (v := (-2)) hx hb dX9_plan_30 (by decide) ?_
    obtain ⟨rfl, rfl⟩ := ob_pair hF
    exact gw_iret () hx hb hr hlocks hP hD hS rfl dX9_plan_32
  have hJ_131 : ∀ (h : HS) (x5 : Int32), f_X9_plan_131 h x5 = some (rr, hh) → ∀ (H : Heap) (locs : List Loc) (ls : Array Slot), va_P G vwCl (wM m0 r cI cJ cZ cB cT h) H → va_D A (wM m0 r cI cJ cZ cB cT h) → va_S A s.heap H locs → lv_has ls 7 [(5, .int x5)] → W p l e (gRm 6) s m args below meth c H locs 0 0 (MQ below (va_Qi (fun x (_ : Unit) => x = rr) (gB G (fun (_ : Unit) => (wM m0 r cI cJ cZ cB cT hh)) A) A) args s 0 0 A) (F0 m 131 ls []) := by
    intro h x5 hF H locs ls hP hD hS hl
    unfold f_X9_plan_131 at hF
    refine lv_iload hx hb dX9_plan_131 (lv_at hl 0 rfl) ?_
    obtain ⟨rfl, rfl⟩ := ob_pair hF
    exact gw_iret () hx hb hr hlocks hP hD hS rfl dX9_plan_133
  have hJ_73 : ∀ (n_73 : Nat) (h : HS) (x3 : Int32) (x4 : Int32) (x5 : Int32) (x6 : Int32), f_X9_plan_73 n_73 h x3 x4 x5 x6 = some (rr, hh) → ∀ (H : Heap) (locs : List Loc) (ls : Array Slot), va_P G vwCl (wM m0 r cI cJ cZ cB cT h) H → va_D A (wM m0 r cI cJ cZ cB cT h) → va_S A s.heap H locs → lv_has ls 7 [(0, .ref m0), (3, .int x3), (4, .int x4), (5, .int x5), (6, .int x6)] → W p l e (gRm 6) s m args below meth c H locs 0 0 (MQ below (va_Qi (fun x (_ : Unit) => x = rr) (gB G (fun (_ : Unit) => (wM m0 r cI cJ cZ cB cT hh)) A) A) args s 0 0 A) (F0 m 73 ls []) := by
    intro n_73
    induction n_73 with
    | zero =>
      intro h x3 x4 x5 x6 hF
      exact absurd hF (by simp [f_X9_plan_73])
    | succ n_73 ih_73 =>
      have hJ_123 : ∀ (h : HS) (x3 : Int32) (x4 : Int32) (x6 : Int32) (y0 : Int32), f_X9_plan_123 (f_X9_plan_73 n_73) h x3 x4 x6 y0 = some (rr, hh) → ∀ (H : Heap) (locs : List Loc) (ls : Array Slot), va_P G vwCl (wM m0 r cI cJ cZ cB cT h) H → va_D A (wM m0 r cI cJ cZ cB cT h) → va_S A s.heap H locs → lv_has ls 7 [(0, .ref m0), (3, .int x3), (4, .int x4), (6, .int x6)] → W p l e (gRm 6) s m args below meth c H locs 0 0 (MQ below (va_Qi (fun x (_ : Unit) => x = rr) (gB G (fun (_ : Unit) => (wM m0 r cI cJ cZ cB cT hh)) A) A) args s 0 0 A) (F0 m 123 ls [.int y0]) := by
        intro h x3 x4 x6 y0 hF H locs ls hP hD hS hl
        unfold f_X9_plan_123 at hF
        refine lv_istore (lv' := [(5, .int y0), (0, .ref m0), (3, .int x3), (4, .int x4), (6, .int x6)]) hx hb dX9_plan_123 hl (by decide) rfl (fun ls hl => ?_)
        refine lv_iinc (v := (x6 + 1)) (lv' := [(6, .int (x6 + 1)), (5, .int y0), (0, .ref m0), (3, .int x3), (4, .int x4)]) hx hb dX9_plan_125 hl (k := 4) rfl rfl (by decide) rfl (fun ls hl => ?_)
        refine lv_goto (tgt := 73) hx hb dX9_plan_128 (by decide) ?_
        exact ih_73 h x3 x4 y0 (x6 + 1) hF H _ ls hP hD hS (lv_sub hl [2, 3, 4, 1, 0] rfl)
      intro h x3 x4 x5 x6 hF H locs ls hP hD hS hl
      rw [f_X9_plan_73_s] at hF
      refine lv_iload hx hb dX9_plan_73 (lv_at hl 4 rfl) ?_
      refine lv_iload hx hb dX9_plan_75 (lv_at hl 2 rfl) ?_
      refine lv_icmp_ge (tgt := 131) hx hb dX9_plan_77 (by decide) (fun c_13 => ?_) (fun c_13 => ?_)
      · have hF := ob_pos c_13 hF
        exact hJ_131 h x5 hF H _ ls hP hD hS (lv_sub hl [3] rfl)
      · have hF := ob_neg c_13 hF
        refine lv_iload_n hx hb dX9_plan_80 rfl (lv_at hl 1 rfl) ?_
        refine lv_iconst (v := (-1)) hx hb dX9_plan_81 (by decide) ?_
        refine lv_icmp_eq (tgt := 131) hx hb dX9_plan_82 (by decide) (fun c_14 => ?_) (fun c_14 => ?_)
        · have hF := ob_pos c_14 hF
          exact hJ_131 h x5 hF H _ ls hP hD hS (lv_sub hl [3] rfl)
        · have hF := ob_neg c_14 hF
          refine lv_aload_n hx hb dX9_plan_85 rfl (lv_at hl 0 rfl) ?_
          refine va_get (D := G) (ci := 9) (v := .ref (r 50)) (C := RX9) (T := TX9) (N := 53) hx hb hts iX9 hown hK hP 0 wM_at0 rfl 50 (by decide) (hts _ m_383) (fun _ h9 => h9) rfl dX9_plan_86 ?_
          refine lv_iload hx hb dX9_plan_89 (lv_at hl 4 rfl) ?_
          obtain ⟨hi_15, hF⟩ := ob_if hF
          refine va_iald (D := G) hx hb hK hP 33 0 wM_at33 rfl (vp_in_iff.mpr hi_15) dX9_plan_91 ?_
          refine gw_topi (y := ((eA h 0 50) ((x6).toNatClampNeg))) rfl ?_
          refine lv_iload_n hx hb dX9_plan_92 rfl (lv_at hl 1 rfl) ?_
          refine lv_icmp_ne (tgt := 121) hx hb dX9_plan_93 (by decide) (fun c_16 => ?_) (fun c_16 => ?_)
          · have hF := ob_neg c_16 hF
            refine lv_iload hx hb dX9_plan_121 (lv_at hl 3 rfl) ?_
            exact hJ_123 h x3 x4 x6 x5 hF H _ ls hP hD hS (lv_sub hl [0, 1, 2, 4] rfl)
          · have hF := ob_pos c_16 hF
            refine lv_bipush (v := 10) hx hb dX9_plan_96 (by decide) ?_
            refine lv_aload_n hx hb dX9_plan_98 rfl (lv_at hl 0 rfl) ?_
            refine va_get (D := G) (ci := 9) (v := .ref (r 51)) (C := RX9) (T := TX9) (N := 53) hx hb hts iX9 hown hK hP 0 wM_at0 rfl 51 (by decide) (hts _ m_384) (fun _ h9 => h9) rfl dX9_plan_99 ?_
            refine lv_iload hx hb dX9_plan_102 (lv_at hl 4 rfl) ?_
            obtain ⟨hi_17, hF⟩ := ob_if hF
            refine va_iald (D := G) hx hb hK hP 34 0 wM_at34 rfl (vp_in_iff.mpr hi_17) dX9_plan_104 ?_
            refine gw_topi (y := ((eA h 0 51) ((x6).toNatClampNeg))) rfl ?_
            refine lv_iconst (v := 3) hx hb dX9_plan_105 (by decide) ?_
            refine lv_idiv hx hb dX9_plan_106 (by decide) ?_
            refine lv_imul hx hb dX9_plan_107 ?_
            refine lv_aload_n hx hb dX9_plan_108 rfl (lv_at hl 0 rfl) ?_
            refine va_get (D := G) (ci := 9) (v := .ref (r 51)) (C := RX9) (T := TX9) (N := 53) hx hb hts iX9 hown hK hP 0 wM_at0 rfl 51 (by decide) (hts _ m_384) (fun _ h9 => h9) rfl dX9_plan_109 ?_
            refine lv_iload hx hb dX9_plan_112 (lv_at hl 4 rfl) ?_
            obtain ⟨hi_18, hF⟩ := ob_if hF
            refine va_iald (D := G) hx hb hK hP 34 0 wM_at34 rfl (vp_in_iff.mpr hi_18) dX9_plan_114 ?_
            refine gw_topi (y := ((eA h 0 51) ((x6).toNatClampNeg))) rfl ?_
            refine lv_iconst (v := 3) hx hb dX9_plan_115 (by decide) ?_
            refine lv_irem hx hb dX9_plan_116 (by decide) ?_
            refine lv_iadd hx hb dX9_plan_117 ?_
            refine lv_goto (tgt := 123) hx hb dX9_plan_118 (by decide) ?_
            exact hJ_123 h x3 x4 x6 ((10 * (((eA h 0 51) ((x6).toNatClampNeg)) / 3)) + (((eA h 0 51) ((x6).toNatClampNeg)) - ((eA h 0 51) ((x6).toNatClampNeg)) / 3 * 3)) hF H _ ls hP hD hS (lv_sub hl [0, 1, 2, 4] rfl)
  have hJ_68 : ∀ (h : HS) (x3 : Int32) (x4 : Int32) (y0 : Int32), f_X9_plan_68 h x3 x4 y0 = some (rr, hh) → ∀ (H : Heap) (locs : List Loc) (ls : Array Slot), va_P G vwCl (wM m0 r cI cJ cZ cB cT h) H → va_D A (wM m0 r cI cJ cZ cB cT h) → va_S A s.heap H locs → lv_has ls 7 [(0, .ref m0), (3, .int x3), (4, .int x4)] → W p l e (gRm 6) s m args below meth c H locs 0 0 (MQ below (va_Qi (fun x (_ : Unit) => x = rr) (gB G (fun (_ : Unit) => (wM m0 r cI cJ cZ cB cT hh)) A) A) args s 0 0 A) (F0 m 68 ls [.int y0]) := by
    intro h x3 x4 y0 hF H locs ls hP hD hS hl
    unfold f_X9_plan_68 at hF
    refine lv_istore (lv' := [(5, .int y0), (0, .ref m0), (3, .int x3), (4, .int x4)]) hx hb dX9_plan_68 hl (by decide) rfl (fun ls hl => ?_)
    refine lv_iconst (v := 0) hx hb dX9_plan_70 (by decide) ?_
    refine lv_istore (lv' := [(6, .int 0), (5, .int y0), (0, .ref m0), (3, .int x3), (4, .int x4)]) hx hb dX9_plan_71 hl (by decide) rfl (fun ls hl => ?_)
    exact hJ_73 8589934592 h x3 x4 y0 0 hF H _ ls hP hD hS (lv_sub hl [2, 3, 4, 1, 0] rfl)
  have hJ_41 : ∀ (n_41 : Nat) (h : HS) (x2 : Int32) (x3 : Int32) (x4 : Int32), f_X9_plan_41 n_41 h x2 x3 x4 = some (rr, hh) → ∀ (H : Heap) (locs : List Loc) (ls : Array Slot), va_P G vwCl (wM m0 r cI cJ cZ cB cT h) H → va_D A (wM m0 r cI cJ cZ cB cT h) → va_S A s.heap H locs → lv_has ls 7 [(0, .ref m0), (2, .int x2), (3, .int x3), (4, .int x4)] → W p l e (gRm 6) s m args below meth c H locs 0 0 (MQ below (va_Qi (fun x (_ : Unit) => x = rr) (gB G (fun (_ : Unit) => (wM m0 r cI cJ cZ cB cT hh)) A) A) args s 0 0 A) (F0 m 41 ls []) := by
    intro n_41
    induction n_41 with
    | zero =>
      intro h x2 x3 x4 hF
      exact absurd hF (by simp [f_X9_plan_41])
    | succ n_41 ih_41 =>
      intro h x2 x3 x4 hF H locs ls hP hD hS hl
      rw [f_X9_plan_41_s] at hF
      refine lv_iload hx hb dX9_plan_41 (lv_at hl 3 rfl) ?_
      refine lv_iconst (v := 4) hx hb dX9_plan_43 (by decide) ?_
      refine lv_icmp_ge (tgt := 140) hx hb dX9_plan_44 (by decide) (fun c_9 => ?_) (fun c_9 => ?_)
      · have hF := ob_pos c_9 hF
        refine lv_bipush (v := (-2)) hx hb dX9_plan_140 (by decide) ?_
        obtain ⟨rfl, rfl⟩ := ob_pair hF
        exact gw_iret () hx hb hr hlocks hP hD hS rfl dX9_plan_142
      · have hF := ob_neg c_9 hF
        refine lv_aload_n hx hb dX9_plan_47 rfl (lv_at hl 0 rfl) ?_
        refine lv_iload hx hb dX9_plan_48 (lv_at hl 3 rfl) ?_
        refine lv_iload_n hx hb dX9_plan_50 rfl (lv_at hl 1 rfl) ?_
        obtain ⟨r_10, h_10, e_10, hF⟩ := ob2_some hF
        refine gx_calli (gx_runV (As := [.int x4, .int x2]) (rest := []) ⟨hx, hb, hml, hown, hts⟩ (c_X9_plansOf l G cI cJ cZ cB cT m0 r h x4 x2 r_10 h_10 e_10 H.size) (gG_V m_398 m_399 m_400 m_64 m_397) rfl e_X9_plansOf ⟨Nat.le_of_ble_eq_true rfl, Nat.le_of_ble_eq_true rfl⟩ hK hP hD hE hS hA 0 wM_at0 rfl rfl hl.1 rfl (Nat.le_of_ble_eq_true rfl) dX9_plan_51 ⟨Nat.le_refl _, Nat.le_refl _⟩) hP hD hS hA (fun x_10 u_10 H locs hw_10 hP hD hS => ?_)
        subst x_10
        refine lv_if_eq (tgt := 134) hx hb dX9_plan_54 (by decide) (fun c_11 => ?_) (fun c_11 => ?_)
        · have hF := ob_pos c_11 hF
          refine lv_iinc (v := (x4 + 1)) (lv' := [(4, .int (x4 + 1)), (0, .ref m0), (2, .int x2), (3, .int x3)]) hx hb dX9_plan_134 hl (k := 3) rfl rfl (by decide) rfl (fun ls hl => ?_)
          refine lv_goto (tgt := 41) hx hb dX9_plan_137 (by decide) ?_
          exact ih_41 h_10 x2 x3 (x4 + 1) hF H _ ls hP hD hS (lv_sub hl [1, 2, 3, 0] rfl)
        · have hF := ob_neg c_11 hF
          refine lv_iload_n hx hb dX9_plan_57 rfl (lv_at hl 2 rfl) ?_
          refine lv_iconst (v := (-1)) hx hb dX9_plan_58 (by decide) ?_
          refine lv_icmp_ne (tgt := 67) hx hb dX9_plan_59 (by decide) (fun c_12 => ?_) (fun c_12 => ?_)
          · have hF := ob_neg c_12 hF
            refine lv_iconst (v := (-1)) hx hb dX9_plan_67 (by decide) ?_
            exact hJ_68 h_10 x3 x4 (-1) hF H _ ls hP hD hS (lv_sub hl [0, 2, 3] rfl)
          · have hF := ob_pos c_12 hF
            refine lv_iload hx hb dX9_plan_62 (lv_at hl 3 rfl) ?_
            refine lv_goto (tgt := 68) hx hb dX9_plan_64 (by decide) ?_
            exact hJ_68 h_10 x3 x4 x4 hF H _ ls hP hD hS (lv_sub hl [0, 2, 3] rfl)
  have hJ_33 : ∀ (h : HS) (x1 : Int32) (x2 : Int32) (x3 : Int32), f_X9_plan_33 h x1 x2 x3 = some (rr, hh) → ∀ (H : Heap) (locs : List Loc) (ls : Array Slot), va_P G vwCl (wM m0 r cI cJ cZ cB cT h) H → va_D A (wM m0 r cI cJ cZ cB cT h) → va_S A s.heap H locs → lv_has ls 7 [(0, .ref m0), (1, .int x1), (2, .int x2), (3, .int x3)] → W p l e (gRm 6) s m args below meth c H locs 0 0 (MQ below (va_Qi (fun x (_ : Unit) => x = rr) (gB G (fun (_ : Unit) => (wM m0 r cI cJ cZ cB cT hh)) A) A) args s 0 0 A) (F0 m 33 ls []) := by
    intro h x1 x2 x3 hF H locs ls hP hD hS hl
    unfold f_X9_plan_33 at hF
    refine lv_aload_n hx hb dX9_plan_33 rfl (lv_at hl 0 rfl) ?_
    refine lv_iload_n hx hb dX9_plan_34 rfl (lv_at hl 1 rfl) ?_
    obtain ⟨h_8, e_8, hF⟩ := ob1_some hF
    refine gx_callv (gx_runV (As := [.int x1]) (rest := []) ⟨hx, hb, hml, hown, hts⟩ (c_X9_laysFlock l G cI cJ cZ cB cT m0 r h x1 h_8 e_8 H.size) (gG_V m_394 m_395 m_396 m_64 m_393) rfl e_X9_laysFlock ⟨Nat.le_of_ble_eq_true rfl, Nat.le_of_ble_eq_true rfl⟩ hK hP hD hE hS hA 0 wM_at0 rfl rfl hl.1 rfl (Nat.le_of_ble_eq_true rfl) dX9_plan_35 ⟨Nat.le_refl _, Nat.le_refl _⟩) hP hD hS hA (fun u_8 H locs hw_8 hP hD hS => ?_)
    refine lv_iconst (v := 1) hx hb dX9_plan_38 (by decide) ?_
    refine lv_istore (lv' := [(4, .int 1), (0, .ref m0), (1, .int x1), (2, .int x2), (3, .int x3)]) hx hb dX9_plan_39 hl (by decide) rfl (fun ls hl => ?_)
    exact hJ_41 8589934592 h_8 x2 x3 1 hF H _ ls hP hD hS (lv_sub hl [1, 3, 4, 0] rfl)
  unfold f_X9_plan at hF
  refine lv_iload_n hx hb dX9_plan_0 rfl (lv_at hl 1 rfl) ?_
  obtain ⟨r_1, e_1, hF⟩ := ob1_some hF
  refine gx_calli0 (gx_runS0 (As := [.int p1]) (rest := []) ⟨hx, hb, hml, hown, hts⟩ (c_X9_isLetterNumber l G cI cJ cZ cB cT   p1 r_1 e_1 H.size) (gG_S m_348 m_349 m_64 m_347) rfl e_X9_isLetterNumber ⟨Nat.le_of_ble_eq_true rfl, Nat.le_of_ble_eq_true rfl⟩ hK hE hS hA rfl hl.1 rfl (Nat.le_of_ble_eq_true rfl) dX9_plan_1 ⟨Nat.le_refl _, Nat.le_refl _⟩) hP hD hS hA (fun x_1 u_1 H locs hw_1 hP hD hS => ?_)
  subst x_1
  refine lv_if_eq (tgt := 30) hx hb dX9_plan_4 (by decide) (fun c_2 => ?_) (fun c_2 => ?_)
  · have hF := ob_pos c_2 hF
    exact hJ_30 h hF H _ ls hP hD hS (lv_sub hl [] rfl)
  · have hF := ob_neg c_2 hF
    refine lv_iload_n hx hb dX9_plan_7 rfl (lv_at hl 2 rfl) ?_
    refine lv_iconst (v := 1) hx hb dX9_plan_8 (by decide) ?_
    refine lv_bipush (v := 100) hx hb dX9_plan_9 (by decide) ?_
    obtain ⟨r_3, e_3, hF⟩ := ob1_some hF
    refine gx_calli0 (gx_runS0 (As := [.int p2, .int 1, .int 100]) (rest := []) ⟨hx, hb, hml, hown, hts⟩ (c_X9_in l G cI cJ cZ cB cT   p2 1 100 r_3 e_3 H.size) (gG_S m_62 m_63 m_64 m_61) rfl e_X9_in ⟨Nat.le_of_ble_eq_true rfl, Nat.le_of_ble_eq_true rfl⟩ hK hE hS hA rfl hl.1 rfl (Nat.le_of_ble_eq_true rfl) dX9_plan_11 ⟨Nat.le_refl _, Nat.le_refl _⟩) hP hD hS hA (fun x_3 u_3 H locs hw_3 hP hD hS => ?_)
    subst x_3
    refine lv_if_eq (tgt := 30) hx hb dX9_plan_14 (by decide) (fun c_4 => ?_) (fun c_4 => ?_)
    · have hF := ob_pos c_4 hF
      exact hJ_30 h hF H _ ls hP hD hS (lv_sub hl [] rfl)
    · have hF := ob_neg c_4 hF
      refine lv_iload_n hx hb dX9_plan_17 rfl (lv_at hl 3 rfl) ?_
      refine lv_iconst (v := (-1)) hx hb dX9_plan_18 (by decide) ?_
      refine lv_icmp_eq (tgt := 33) hx hb dX9_plan_19 (by decide) (fun c_5 => ?_) (fun c_5 => ?_)
      · have hF := ob_pos c_5 hF
        exact hJ_33 h p1 p2 p3 hF H _ ls hP hD hS (lv_sub hl [0, 1, 2, 3] rfl)
      · have hF := ob_neg c_5 hF
        refine lv_aload_n hx hb dX9_plan_22 rfl (lv_at hl 0 rfl) ?_
        refine lv_iload_n hx hb dX9_plan_23 rfl (lv_at hl 3 rfl) ?_
        obtain ⟨r_6, h_6, e_6, hF⟩ := ob2_some hF
        refine gx_calli (gx_runV (As := [.int p3]) (rest := []) ⟨hx, hb, hml, hown, hts⟩ (c_X9_isGoose l G cI cJ cZ cB cT m0 r h p3 r_6 h_6 e_6 H.size) (gG_V m_99 m_100 m_101 m_64 m_98) rfl e_X9_isGoose ⟨Nat.le_of_ble_eq_true rfl, Nat.le_of_ble_eq_true rfl⟩ hK hP hD hE hS hA 0 wM_at0 rfl rfl hl.1 rfl (Nat.le_of_ble_eq_true rfl) dX9_plan_24 ⟨Nat.le_refl _, Nat.le_refl _⟩) hP hD hS hA (fun x_6 u_6 H locs hw_6 hP hD hS => ?_)
        subst x_6
        refine lv_if_ne (tgt := 33) hx hb dX9_plan_27 (by decide) (fun c_7 => ?_) (fun c_7 => ?_)
        · have hF := ob_neg c_7 hF
          exact hJ_33 h_6 p1 p2 p3 hF H _ ls hP hD hS (lv_sub hl [0, 1, 2, 3] rfl)
        · have hF := ob_pos c_7 hF
          exact hJ_30 h_6 hF H _ ls hP hD hS (lv_sub hl [] rfl)
def f_X5_addFour_45 (k3 : HS → Int32 → Int32 → Option HS) (h : HS) (x1 : Int32) (x2 : Int32) : Option HS := (k3 h x1 (x2 + (-8)))
def f_X5_addFour_3 : Nat → HS → Int32 → Int32 → Option HS
  | 0, _, _, _ => none
  | n + 1, h, x1, x2 => (if x2 < 0 then (some h) else (if 300 ≤ (eI h 3 1) then (f_X5_addFour_45 (f_X5_addFour_3 n) h x1 x2) else (if 0 ≤ ((eI h 3 1)).toInt ∧ ((eI h 3 1)).toInt < 300 then (f_X5_addFour_45 (f_X5_addFour_3 n) (sI (sA h 3 0 (upd (eA h 3 0) (((eI h 3 1)).toNatClampNeg) ((x1 >>> (x2 &&& 31)) &&& 255))) 3 1 ((eI h 3 1) + 1)) x1 x2) else none)))
theorem f_X5_addFour_3_s (n : Nat) (h : HS) (x1 : Int32) (x2 : Int32) : f_X5_addFour_3 (n + 1) h x1 x2 = (if x2 < 0 then (some h) else (if 300 ≤ (eI h 3 1) then (f_X5_addFour_45 (f_X5_addFour_3 n) h x1 x2) else (if 0 ≤ ((eI h 3 1)).toInt ∧ ((eI h 3 1)).toInt < 300 then (f_X5_addFour_45 (f_X5_addFour_3 n) (sI (sA h 3 0 (upd (eA h 3 0) (((eI h 3 1)).toNatClampNeg) ((x1 >>> (x2 &&& 31)) &&& 255))) 3 1 ((eI h 3 1) + 1)) x1 x2) else none))) := rfl
def f_X5_addFour (h : HS) (p1 : Int32) : Option HS := (f_X5_addFour_3 8589934592 h p1 24)
set_option maxHeartbeats 4000000 in
set_option maxRecDepth 100000 in
theorem c_X5_addFour (l : Launch) (G : va_G) (cI cJ cZ cB cT : ClassId) (q : Nat → Nat) (h : HS) (p1 : Int32) (hh : HS) (hF : f_X5_addFour h p1 = some hh) : gMv l yX5_addFour (gws yX5_addFour cX5_addFour 3 none) 1 G (gT cI cJ cZ cB cT) [.ref (q 9), .int p1] (wC q cI cJ cZ cB cT h) (fun (_ : Unit) => True) (fun (_ : Unit) => (wC q cI cJ cZ cB cT hh)) := by
  intro sz
  refine gM_start (y := yX5_addFour) (av := [.ref (q 9), .int p1]) (ws := (wC q cI cJ cZ cB cT h)) (Qf := fun A => va_Qv (fun (_ : Unit) => True) (gB G (fun (_ : Unit) => (wC q cI cJ cZ cB cT hh)) A) A) (cc := cX5_addFour) (maxL := 3) (ret := none) (by decide) (Nat.le_of_ble_eq_true rfl) ?_
  intro p e s m args below meth c A ls H hx hb hr hts hown hin hlocks hml hP hK hD hA hS hl hE
  have hl : lv_has ls 3 [(0, .ref (q 9)), (1, .int p1)] := hl
  have hJ_3 : ∀ (n_3 : Nat) (h : HS) (x1 : Int32) (x2 : Int32), f_X5_addFour_3 n_3 h x1 x2 = some hh → ∀ (H : Heap) (locs : List Loc) (ls : Array Slot), va_P G vwCl (wC q cI cJ cZ cB cT h) H → va_D A (wC q cI cJ cZ cB cT h) → va_S A s.heap H locs → lv_has ls 3 [(0, .ref (q 9)), (1, .int x1), (2, .int x2)] → W p l e (gRm 1) s m args below meth c H locs 0 0 (MQ below (va_Qv (fun (_ : Unit) => True) (gB G (fun (_ : Unit) => (wC q cI cJ cZ cB cT hh)) A) A) args s 0 0 A) (F0 m 3 ls []) := by
    intro n_3
    induction n_3 with
    | zero =>
      intro h x1 x2 hF
      exact absurd hF (by simp [f_X5_addFour_3])
    | succ n_3 ih_3 =>
      have hJ_45 : ∀ (h : HS) (x1 : Int32) (x2 : Int32), f_X5_addFour_45 (f_X5_addFour_3 n_3) h x1 x2 = some hh → ∀ (H : Heap) (locs : List Loc) (ls : Array Slot), va_P G vwCl (wC q cI cJ cZ cB cT h) H → va_D A (wC q cI cJ cZ cB cT h) → va_S A s.heap H locs → lv_has ls 3 [(0, .ref (q 9)), (1, .int x1), (2, .int x2)] → W p l e (gRm 1) s m args below meth c H locs 0 0 (MQ below (va_Qv (fun (_ : Unit) => True) (gB G (fun (_ : Unit) => (wC q cI cJ cZ cB cT hh)) A) A) args s 0 0 A) (F0 m 45 ls []) := by
        intro h x1 x2 hF H locs ls hP hD hS hl
        unfold f_X5_addFour_45 at hF
        refine lv_iinc (v := (x2 + (-8))) (lv' := [(2, .int (x2 + (-8))), (0, .ref (q 9)), (1, .int x1)]) hx hb dX5_addFour_45 hl (k := 2) rfl rfl (by decide) rfl (fun ls hl => ?_)
        refine lv_goto (tgt := 3) hx hb dX5_addFour_48 (by decide) ?_
        exact ih_3 h x1 (x2 + (-8)) hF H _ ls hP hD hS (lv_sub hl [1, 2, 0] rfl)
      intro h x1 x2 hF H locs ls hP hD hS hl
      rw [f_X5_addFour_3_s] at hF
      refine lv_iload_n hx hb dX5_addFour_3 rfl (lv_at hl 2 rfl) ?_
      refine lv_if_lt (tgt := 51) hx hb dX5_addFour_4 (by decide) (fun c_1 => ?_) (fun c_1 => ?_)
      · have hF := ob_pos c_1 hF
        obtain rfl := ob_one hF
        exact gw_vret () hx hb hr hlocks hP hD hS trivial dX5_addFour_51
      · have hF := ob_neg c_1 hF
        refine lv_aload_n hx hb dX5_addFour_7 rfl (lv_at hl 0 rfl) ?_
        refine va_get (D := G) (ci := 5) (v := .int (eI h 3 1)) (C := RX5) (T := TX5) (N := 2) hx hb hts iX5 hown hK hP 9 wC_at9 rfl 1 (by decide) (hts _ m_401) (fun _ h9 => h9) rfl dX5_addFour_8 ?_
        refine lv_aload_n hx hb dX5_addFour_11 rfl (lv_at hl 0 rfl) ?_
        refine va_get (D := G) (ci := 5) (v := .ref (q 10)) (C := RX5) (T := TX5) (N := 2) hx hb hts iX5 hown hK hP 9 wC_at9 rfl 0 (by decide) (hts _ m_402) (fun _ h9 => h9) rfl dX5_addFour_12 ?_
        refine va_alen (D := G) hx hb hK hP 10 0 wC_at10 rfl (v := 300) rfl dX5_addFour_15 ?_
        refine lv_icmp_ge (tgt := 45) hx hb dX5_addFour_16 (by decide) (fun c_2 => ?_) (fun c_2 => ?_)
        · have hF := ob_pos c_2 hF
          exact hJ_45 h x1 x2 hF H _ ls hP hD hS (lv_sub hl [0, 1, 2] rfl)
        · have hF := ob_neg c_2 hF
          refine lv_aload_n hx hb dX5_addFour_19 rfl (lv_at hl 0 rfl) ?_
          refine va_get (D := G) (ci := 5) (v := .ref (q 10)) (C := RX5) (T := TX5) (N := 2) hx hb hts iX5 hown hK hP 9 wC_at9 rfl 0 (by decide) (hts _ m_402) (fun _ h9 => h9) rfl dX5_addFour_20 ?_
          refine lv_aload_n hx hb dX5_addFour_23 rfl (lv_at hl 0 rfl) ?_
          refine va_get (D := G) (ci := 5) (v := .int (eI h 3 1)) (C := RX5) (T := TX5) (N := 2) hx hb hts iX5 hown hK hP 9 wC_at9 rfl 1 (by decide) (hts _ m_401) (fun _ h9 => h9) rfl dX5_addFour_24 ?_
          refine lv_iload_n hx hb dX5_addFour_27 rfl (lv_at hl 1 rfl) ?_
          refine lv_iload_n hx hb dX5_addFour_28 rfl (lv_at hl 2 rfl) ?_
          refine lv_ishr hx hb dX5_addFour_29 ?_
          refine lv_sipush (v := 255) hx hb dX5_addFour_30 (by decide) ?_
          refine lv_iand hx hb dX5_addFour_33 ?_
          obtain ⟨hi_3, hF⟩ := ob_if hF
          refine va_iast (D := G) hx hb hK hP hD hS 10 0 wC_at10 rfl (vp_in_iff.mpr hi_3) dX5_addFour_34 (fun H locs hP hD hS => ?_)
          rw [wC_sA10] at hP hD
          have hP : va_P G vwCl (wC q cI cJ cZ cB cT (sA h 3 0 (upd (eA h 3 0) (((eI h 3 1)).toNatClampNeg) ((x1 >>> (x2 &&& 31)) &&& 255)))) H := hP
          have hD : va_D A (wC q cI cJ cZ cB cT (sA h 3 0 (upd (eA h 3 0) (((eI h 3 1)).toNatClampNeg) ((x1 >>> (x2 &&& 31)) &&& 255)))) := hD
          refine lv_aload_n hx hb dX5_addFour_35 rfl (lv_at hl 0 rfl) ?_
          refine lv_dup hx hb dX5_addFour_36 rfl ?_
          refine va_get (D := G) (ci := 5) (v := .int (eI h 3 1)) (C := RX5) (T := TX5) (N := 2) hx hb hts iX5 hown hK hP 9 wC_at9 rfl 1 (by decide) (hts _ m_401) (fun _ h9 => h9) rfl dX5_addFour_37 ?_
          refine lv_iconst (v := 1) hx hb dX5_addFour_40 (by decide) ?_
          refine lv_iadd hx hb dX5_addFour_41 ?_
          refine va_put (D := G) (ci := 5) (v := .int ((eI h 3 1) + 1)) (ty := .int) (C := RX5) (T := TX5) (N := 2) hx hb hts iX5 tyX5 tyX5_ok nmX5 hown hK hP hD hS 9 wC_at9 rfl 1 (by decide) (hts _ m_401) (fun _ h9 => h9) rfl (tyX5_ok 1 (by decide)) rfl rfl (Nat.le_of_ble_eq_true rfl) dX5_addFour_42 (fun H locs hP hD hS => ?_)
          rw [wC_sI9_1] at hP hD
          exact hJ_45 (sI (sA h 3 0 (upd (eA h 3 0) (((eI h 3 1)).toNatClampNeg) ((x1 >>> (x2 &&& 31)) &&& 255))) 3 1 ((eI h 3 1) + 1)) x1 x2 hF H _ ls hP hD hS (lv_sub hl [0, 1, 2] rfl)
  unfold f_X5_addFour at hF
  refine lv_bipush (v := 24) hx hb dX5_addFour_0 (by decide) ?_
  refine lv_istore_n (lv' := [(2, .int 24), (0, .ref (q 9)), (1, .int p1)]) hx hb dX5_addFour_2 rfl hl (by decide) rfl (fun ls hl => ?_)
  exact hJ_3 8589934592 h p1 24 hF H _ ls hP hD hS (lv_sub hl [1, 2, 0] rfl)
def f_X5_byteAt_31 (h : HS) (y0 : Int32) : Option (Int32 × HS) := (some (y0, h))
def f_X5_byteAt_30 (h : HS) : Option (Int32 × HS) := (f_X5_byteAt_31 h 0)
def f_X5_byteAt (h : HS) (p1 : Int32) : Option (Int32 × HS) := (if p1 < 0 then (f_X5_byteAt_30 h) else (if (eI h 3 1) ≤ p1 then (f_X5_byteAt_30 h) else (if 300 ≤ p1 then (f_X5_byteAt_30 h) else (if 0 ≤ (p1).toInt ∧ (p1).toInt < 300 then (f_X5_byteAt_31 h ((eA h 3 0) ((p1).toNatClampNeg))) else none))))
set_option maxHeartbeats 4000000 in
set_option maxRecDepth 100000 in
theorem c_X5_byteAt (l : Launch) (G : va_G) (cI cJ cZ cB cT : ClassId) (q : Nat → Nat) (h : HS) (p1 : Int32) (rr : Int32) (hh : HS) (hF : f_X5_byteAt h p1 = some (rr, hh)) : gMi l yX5_byteAt (gws yX5_byteAt cX5_byteAt 2 (some .int)) 1 G (gT cI cJ cZ cB cT) [.ref (q 9), .int p1] (wC q cI cJ cZ cB cT h) (fun x (_ : Unit) => x = rr) (fun (_ : Unit) => (wC q cI cJ cZ cB cT hh)) := by
  intro sz
  refine gM_start (y := yX5_byteAt) (av := [.ref (q 9), .int p1]) (ws := (wC q cI cJ cZ cB cT h)) (Qf := fun A => va_Qi (fun x (_ : Unit) => x = rr) (gB G (fun (_ : Unit) => (wC q cI cJ cZ cB cT hh)) A) A) (cc := cX5_byteAt) (maxL := 2) (ret := (some .int)) (by decide) (Nat.le_of_ble_eq_true rfl) ?_
  intro p e s m args below meth c A ls H hx hb hr hts hown hin hlocks hml hP hK hD hA hS hl hE
  have hl : lv_has ls 2 [(0, .ref (q 9)), (1, .int p1)] := hl
  have hJ_31 : ∀ (h : HS) (y0 : Int32), f_X5_byteAt_31 h y0 = some (rr, hh) → ∀ (H : Heap) (locs : List Loc) (ls : Array Slot), va_P G vwCl (wC q cI cJ cZ cB cT h) H → va_D A (wC q cI cJ cZ cB cT h) → va_S A s.heap H locs → lv_has ls 2 [] → W p l e (gRm 1) s m args below meth c H locs 0 0 (MQ below (va_Qi (fun x (_ : Unit) => x = rr) (gB G (fun (_ : Unit) => (wC q cI cJ cZ cB cT hh)) A) A) args s 0 0 A) (F0 m 31 ls [.int y0]) := by
    intro h y0 hF H locs ls hP hD hS hl
    unfold f_X5_byteAt_31 at hF
    obtain ⟨rfl, rfl⟩ := ob_pair hF
    exact gw_iret () hx hb hr hlocks hP hD hS rfl dX5_byteAt_31
  have hJ_30 : ∀ (h : HS), f_X5_byteAt_30 h = some (rr, hh) → ∀ (H : Heap) (locs : List Loc) (ls : Array Slot), va_P G vwCl (wC q cI cJ cZ cB cT h) H → va_D A (wC q cI cJ cZ cB cT h) → va_S A s.heap H locs → lv_has ls 2 [] → W p l e (gRm 1) s m args below meth c H locs 0 0 (MQ below (va_Qi (fun x (_ : Unit) => x = rr) (gB G (fun (_ : Unit) => (wC q cI cJ cZ cB cT hh)) A) A) args s 0 0 A) (F0 m 30 ls []) := by
    intro h hF H locs ls hP hD hS hl
    unfold f_X5_byteAt_30 at hF
    refine lv_iconst (v := 0) hx hb dX5_byteAt_30 (by decide) ?_
    exact hJ_31 h 0 hF H _ ls hP hD hS (lv_sub hl [] rfl)
  unfold f_X5_byteAt at hF
  refine lv_iload_n hx hb dX5_byteAt_0 rfl (lv_at hl 1 rfl) ?_
  refine lv_if_lt (tgt := 30) hx hb dX5_byteAt_1 (by decide) (fun c_1 => ?_) (fun c_1 => ?_)
  · have hF := ob_pos c_1 hF
    exact hJ_30 h hF H _ ls hP hD hS (lv_sub hl [] rfl)
  · have hF := ob_neg c_1 hF
    refine lv_iload_n hx hb dX5_byteAt_4 rfl (lv_at hl 1 rfl) ?_
    refine lv_aload_n hx hb dX5_byteAt_5 rfl (lv_at hl 0 rfl) ?_
    refine va_get (D := G) (ci := 5) (v := .int (eI h 3 1)) (C := RX5) (T := TX5) (N := 2) hx hb hts iX5 hown hK hP 9 wC_at9 rfl 1 (by decide) (hts _ m_401) (fun _ h9 => h9) rfl dX5_byteAt_6 ?_
    refine lv_icmp_ge (tgt := 30) hx hb dX5_byteAt_9 (by decide) (fun c_2 => ?_) (fun c_2 => ?_)
    · have hF := ob_pos c_2 hF
      exact hJ_30 h hF H _ ls hP hD hS (lv_sub hl [] rfl)
    · have hF := ob_neg c_2 hF
      refine lv_iload_n hx hb dX5_byteAt_12 rfl (lv_at hl 1 rfl) ?_
      refine lv_aload_n hx hb dX5_byteAt_13 rfl (lv_at hl 0 rfl) ?_
      refine va_get (D := G) (ci := 5) (v := .ref (q 10)) (C := RX5) (T := TX5) (N := 2) hx hb hts iX5 hown hK hP 9 wC_at9 rfl 0 (by decide) (hts _ m_402) (fun _ h9 => h9) rfl dX5_byteAt_14 ?_
      refine va_alen (D := G) hx hb hK hP 10 0 wC_at10 rfl (v := 300) rfl dX5_byteAt_17 ?_
      refine lv_icmp_ge (tgt := 30) hx hb dX5_byteAt_18 (by decide) (fun c_3 => ?_) (fun c_3 => ?_)
      · have hF := ob_pos c_3 hF
        exact hJ_30 h hF H _ ls hP hD hS (lv_sub hl [] rfl)
      · have hF := ob_neg c_3 hF
        refine lv_aload_n hx hb dX5_byteAt_21 rfl (lv_at hl 0 rfl) ?_
        refine va_get (D := G) (ci := 5) (v := .ref (q 10)) (C := RX5) (T := TX5) (N := 2) hx hb hts iX5 hown hK hP 9 wC_at9 rfl 0 (by decide) (hts _ m_402) (fun _ h9 => h9) rfl dX5_byteAt_22 ?_
        refine lv_iload_n hx hb dX5_byteAt_25 rfl (lv_at hl 1 rfl) ?_
        obtain ⟨hi_4, hF⟩ := ob_if hF
        refine va_iald (D := G) hx hb hK hP 10 0 wC_at10 rfl (vp_in_iff.mpr hi_4) dX5_byteAt_26 ?_
        refine gw_topi (y := ((eA h 3 0) ((p1).toNatClampNeg))) rfl ?_
        refine lv_goto (tgt := 31) hx hb dX5_byteAt_27 (by decide) ?_
        exact hJ_31 h ((eA h 3 0) ((p1).toNatClampNeg)) hF H _ ls hP hD hS (lv_sub hl [] rfl)
def f_X7_kind_36 (h : HS) (y0 : Int32) : Option (Int32 × HS) := (some (y0, h))
def f_X7_kind_35 (h : HS) : Option (Int32 × HS) := (f_X7_kind_36 h 0)
def f_X7_kind (h : HS) : Option (Int32 × HS) := (if (eI h 4 3) ≤ (eI h 4 4) then (f_X7_kind_35 h) else (if 301 ≤ (eI h 4 4) then (f_X7_kind_35 h) else (if 0 ≤ ((eI h 4 4)).toInt ∧ ((eI h 4 4)).toInt < 301 then (f_X7_kind_36 h ((eA h 4 0) (((eI h 4 4)).toNatClampNeg))) else none)))
set_option maxHeartbeats 4000000 in
set_option maxRecDepth 100000 in
theorem c_X7_kind (l : Launch) (G : va_G) (cI cJ cZ cB cT : ClassId) (q : Nat → Nat) (h : HS)  (rr : Int32) (hh : HS) (hF : f_X7_kind h = some (rr, hh)) : gMi l yX7_kind (gws yX7_kind cX7_kind 1 (some .int)) 1 G (gT cI cJ cZ cB cT) [.ref (q 11)] (wC q cI cJ cZ cB cT h) (fun x (_ : Unit) => x = rr) (fun (_ : Unit) => (wC q cI cJ cZ cB cT hh)) := by
  intro sz
  refine gM_start (y := yX7_kind) (av := [.ref (q 11)]) (ws := (wC q cI cJ cZ cB cT h)) (Qf := fun A => va_Qi (fun x (_ : Unit) => x = rr) (gB G (fun (_ : Unit) => (wC q cI cJ cZ cB cT hh)) A) A) (cc := cX7_kind) (maxL := 1) (ret := (some .int)) (by decide) (Nat.le_of_ble_eq_true rfl) ?_
  intro p e s m args below meth c A ls H hx hb hr hts hown hin hlocks hml hP hK hD hA hS hl hE
  have hl : lv_has ls 1 [(0, .ref (q 11))] := hl
  have hJ_36 : ∀ (h : HS) (y0 : Int32), f_X7_kind_36 h y0 = some (rr, hh) → ∀ (H : Heap) (locs : List Loc) (ls : Array Slot), va_P G vwCl (wC q cI cJ cZ cB cT h) H → va_D A (wC q cI cJ cZ cB cT h) → va_S A s.heap H locs → lv_has ls 1 [] → W p l e (gRm 1) s m args below meth c H locs 0 0 (MQ below (va_Qi (fun x (_ : Unit) => x = rr) (gB G (fun (_ : Unit) => (wC q cI cJ cZ cB cT hh)) A) A) args s 0 0 A) (F0 m 36 ls [.int y0]) := by
    intro h y0 hF H locs ls hP hD hS hl
    unfold f_X7_kind_36 at hF
    obtain ⟨rfl, rfl⟩ := ob_pair hF
    exact gw_iret () hx hb hr hlocks hP hD hS rfl dX7_kind_36
  have hJ_35 : ∀ (h : HS), f_X7_kind_35 h = some (rr, hh) → ∀ (H : Heap) (locs : List Loc) (ls : Array Slot), va_P G vwCl (wC q cI cJ cZ cB cT h) H → va_D A (wC q cI cJ cZ cB cT h) → va_S A s.heap H locs → lv_has ls 1 [] → W p l e (gRm 1) s m args below meth c H locs 0 0 (MQ below (va_Qi (fun x (_ : Unit) => x = rr) (gB G (fun (_ : Unit) => (wC q cI cJ cZ cB cT hh)) A) A) args s 0 0 A) (F0 m 35 ls []) := by
    intro h hF H locs ls hP hD hS hl
    unfold f_X7_kind_35 at hF
    refine lv_iconst (v := 0) hx hb dX7_kind_35 (by decide) ?_
    exact hJ_36 h 0 hF H _ ls hP hD hS (lv_sub hl [] rfl)
  unfold f_X7_kind at hF
  refine lv_aload_n hx hb dX7_kind_0 rfl (lv_at hl 0 rfl) ?_
  refine va_get (D := G) (ci := 7) (v := .int (eI h 4 4)) (C := RX7) (T := TX7) (N := 5) hx hb hts iX7 hown hK hP 11 wC_at11 rfl 4 (by decide) (hts _ m_403) (fun _ h9 => h9) rfl dX7_kind_1 ?_
  refine lv_aload_n hx hb dX7_kind_4 rfl (lv_at hl 0 rfl) ?_
  refine va_get (D := G) (ci := 7) (v := .int (eI h 4 3)) (C := RX7) (T := TX7) (N := 5) hx hb hts iX7 hown hK hP 11 wC_at11 rfl 3 (by decide) (hts _ m_404) (fun _ h9 => h9) rfl dX7_kind_5 ?_
  refine lv_icmp_ge (tgt := 35) hx hb dX7_kind_8 (by decide) (fun c_1 => ?_) (fun c_1 => ?_)
  · have hF := ob_pos c_1 hF
    exact hJ_35 h hF H _ ls hP hD hS (lv_sub hl [] rfl)
  · have hF := ob_neg c_1 hF
    refine lv_aload_n hx hb dX7_kind_11 rfl (lv_at hl 0 rfl) ?_
    refine va_get (D := G) (ci := 7) (v := .int (eI h 4 4)) (C := RX7) (T := TX7) (N := 5) hx hb hts iX7 hown hK hP 11 wC_at11 rfl 4 (by decide) (hts _ m_403) (fun _ h9 => h9) rfl dX7_kind_12 ?_
    refine lv_aload_n hx hb dX7_kind_15 rfl (lv_at hl 0 rfl) ?_
    refine va_get (D := G) (ci := 7) (v := .ref (q 12)) (C := RX7) (T := TX7) (N := 5) hx hb hts iX7 hown hK hP 11 wC_at11 rfl 0 (by decide) (hts _ m_405) (fun _ h9 => h9) rfl dX7_kind_16 ?_
    refine va_alen (D := G) hx hb hK hP 12 0 wC_at12 rfl (v := 301) rfl dX7_kind_19 ?_
    refine lv_icmp_ge (tgt := 35) hx hb dX7_kind_20 (by decide) (fun c_2 => ?_) (fun c_2 => ?_)
    · have hF := ob_pos c_2 hF
      exact hJ_35 h hF H _ ls hP hD hS (lv_sub hl [] rfl)
    · have hF := ob_neg c_2 hF
      refine lv_aload_n hx hb dX7_kind_23 rfl (lv_at hl 0 rfl) ?_
      refine va_get (D := G) (ci := 7) (v := .ref (q 12)) (C := RX7) (T := TX7) (N := 5) hx hb hts iX7 hown hK hP 11 wC_at11 rfl 0 (by decide) (hts _ m_405) (fun _ h9 => h9) rfl dX7_kind_24 ?_
      refine lv_aload_n hx hb dX7_kind_27 rfl (lv_at hl 0 rfl) ?_
      refine va_get (D := G) (ci := 7) (v := .int (eI h 4 4)) (C := RX7) (T := TX7) (N := 5) hx hb hts iX7 hown hK hP 11 wC_at11 rfl 4 (by decide) (hts _ m_403) (fun _ h9 => h9) rfl dX7_kind_28 ?_
      obtain ⟨hi_3, hF⟩ := ob_if hF
      refine va_iald (D := G) hx hb hK hP 12 0 wC_at12 rfl (vp_in_iff.mpr hi_3) dX7_kind_31 ?_
      refine gw_topi (y := ((eA h 4 0) (((eI h 4 4)).toNatClampNeg))) rfl ?_
      refine lv_goto (tgt := 36) hx hb dX7_kind_32 (by decide) ?_
      exact hJ_36 h ((eA h 4 0) (((eI h 4 4)).toNatClampNeg)) hF H _ ls hP hD hS (lv_sub hl [] rfl)
def f_X7_start_36 (h : HS) (y0 : Int32) : Option (Int32 × HS) := (some (y0, h))
def f_X7_start_35 (h : HS) : Option (Int32 × HS) := (f_X7_start_36 h 0)
def f_X7_start (h : HS) : Option (Int32 × HS) := (if (eI h 4 3) ≤ (eI h 4 4) then (f_X7_start_35 h) else (if 301 ≤ (eI h 4 4) then (f_X7_start_35 h) else (if 0 ≤ ((eI h 4 4)).toInt ∧ ((eI h 4 4)).toInt < 301 then (f_X7_start_36 h ((eA h 4 1) (((eI h 4 4)).toNatClampNeg))) else none)))
set_option maxHeartbeats 4000000 in
set_option maxRecDepth 100000 in
theorem c_X7_start (l : Launch) (G : va_G) (cI cJ cZ cB cT : ClassId) (q : Nat → Nat) (h : HS)  (rr : Int32) (hh : HS) (hF : f_X7_start h = some (rr, hh)) : gMi l yX7_start (gws yX7_start cX7_start 1 (some .int)) 1 G (gT cI cJ cZ cB cT) [.ref (q 11)] (wC q cI cJ cZ cB cT h) (fun x (_ : Unit) => x = rr) (fun (_ : Unit) => (wC q cI cJ cZ cB cT hh)) := by
  intro sz
  refine gM_start (y := yX7_start) (av := [.ref (q 11)]) (ws := (wC q cI cJ cZ cB cT h)) (Qf := fun A => va_Qi (fun x (_ : Unit) => x = rr) (gB G (fun (_ : Unit) => (wC q cI cJ cZ cB cT hh)) A) A) (cc := cX7_start) (maxL := 1) (ret := (some .int)) (by decide) (Nat.le_of_ble_eq_true rfl) ?_
  intro p e s m args below meth c A ls H hx hb hr hts hown hin hlocks hml hP hK hD hA hS hl hE
  have hl : lv_has ls 1 [(0, .ref (q 11))] := hl
  have hJ_36 : ∀ (h : HS) (y0 : Int32), f_X7_start_36 h y0 = some (rr, hh) → ∀ (H : Heap) (locs : List Loc) (ls : Array Slot), va_P G vwCl (wC q cI cJ cZ cB cT h) H → va_D A (wC q cI cJ cZ cB cT h) → va_S A s.heap H locs → lv_has ls 1 [] → W p l e (gRm 1) s m args below meth c H locs 0 0 (MQ below (va_Qi (fun x (_ : Unit) => x = rr) (gB G (fun (_ : Unit) => (wC q cI cJ cZ cB cT hh)) A) A) args s 0 0 A) (F0 m 36 ls [.int y0]) := by
    intro h y0 hF H locs ls hP hD hS hl
    unfold f_X7_start_36 at hF
    obtain ⟨rfl, rfl⟩ := ob_pair hF
    exact gw_iret () hx hb hr hlocks hP hD hS rfl dX7_start_36
  have hJ_35 : ∀ (h : HS), f_X7_start_35 h = some (rr, hh) → ∀ (H : Heap) (locs : List Loc) (ls : Array Slot), va_P G vwCl (wC q cI cJ cZ cB cT h) H → va_D A (wC q cI cJ cZ cB cT h) → va_S A s.heap H locs → lv_has ls 1 [] → W p l e (gRm 1) s m args below meth c H locs 0 0 (MQ below (va_Qi (fun x (_ : Unit) => x = rr) (gB G (fun (_ : Unit) => (wC q cI cJ cZ cB cT hh)) A) A) args s 0 0 A) (F0 m 35 ls []) := by
    intro h hF H locs ls hP hD hS hl
    unfold f_X7_start_35 at hF
    refine lv_iconst (v := 0) hx hb dX7_start_35 (by decide) ?_
    exact hJ_36 h 0 hF H _ ls hP hD hS (lv_sub hl [] rfl)
  unfold f_X7_start at hF
  refine lv_aload_n hx hb dX7_start_0 rfl (lv_at hl 0 rfl) ?_
  refine va_get (D := G) (ci := 7) (v := .int (eI h 4 4)) (C := RX7) (T := TX7) (N := 5) hx hb hts iX7 hown hK hP 11 wC_at11 rfl 4 (by decide) (hts _ m_403) (fun _ h9 => h9) rfl dX7_start_1 ?_
  refine lv_aload_n hx hb dX7_start_4 rfl (lv_at hl 0 rfl) ?_
  refine va_get (D := G) (ci := 7) (v := .int (eI h 4 3)) (C := RX7) (T := TX7) (N := 5) hx hb hts iX7 hown hK hP 11 wC_at11 rfl 3 (by decide) (hts _ m_404) (fun _ h9 => h9) rfl dX7_start_5 ?_
  refine lv_icmp_ge (tgt := 35) hx hb dX7_start_8 (by decide) (fun c_1 => ?_) (fun c_1 => ?_)
  · have hF := ob_pos c_1 hF
    exact hJ_35 h hF H _ ls hP hD hS (lv_sub hl [] rfl)
  · have hF := ob_neg c_1 hF
    refine lv_aload_n hx hb dX7_start_11 rfl (lv_at hl 0 rfl) ?_
    refine va_get (D := G) (ci := 7) (v := .int (eI h 4 4)) (C := RX7) (T := TX7) (N := 5) hx hb hts iX7 hown hK hP 11 wC_at11 rfl 4 (by decide) (hts _ m_403) (fun _ h9 => h9) rfl dX7_start_12 ?_
    refine lv_aload_n hx hb dX7_start_15 rfl (lv_at hl 0 rfl) ?_
    refine va_get (D := G) (ci := 7) (v := .ref (q 13)) (C := RX7) (T := TX7) (N := 5) hx hb hts iX7 hown hK hP 11 wC_at11 rfl 1 (by decide) (hts _ m_406) (fun _ h9 => h9) rfl dX7_start_16 ?_
    refine va_alen (D := G) hx hb hK hP 13 0 wC_at13 rfl (v := 301) rfl dX7_start_19 ?_
    refine lv_icmp_ge (tgt := 35) hx hb dX7_start_20 (by decide) (fun c_2 => ?_) (fun c_2 => ?_)
    · have hF := ob_pos c_2 hF
      exact hJ_35 h hF H _ ls hP hD hS (lv_sub hl [] rfl)
    · have hF := ob_neg c_2 hF
      refine lv_aload_n hx hb dX7_start_23 rfl (lv_at hl 0 rfl) ?_
      refine va_get (D := G) (ci := 7) (v := .ref (q 13)) (C := RX7) (T := TX7) (N := 5) hx hb hts iX7 hown hK hP 11 wC_at11 rfl 1 (by decide) (hts _ m_406) (fun _ h9 => h9) rfl dX7_start_24 ?_
      refine lv_aload_n hx hb dX7_start_27 rfl (lv_at hl 0 rfl) ?_
      refine va_get (D := G) (ci := 7) (v := .int (eI h 4 4)) (C := RX7) (T := TX7) (N := 5) hx hb hts iX7 hown hK hP 11 wC_at11 rfl 4 (by decide) (hts _ m_403) (fun _ h9 => h9) rfl dX7_start_28 ?_
      obtain ⟨hi_3, hF⟩ := ob_if hF
      refine va_iald (D := G) hx hb hK hP 13 0 wC_at13 rfl (vp_in_iff.mpr hi_3) dX7_start_31 ?_
      refine gw_topi (y := ((eA h 4 1) (((eI h 4 4)).toNatClampNeg))) rfl ?_
      refine lv_goto (tgt := 36) hx hb dX7_start_32 (by decide) ?_
      exact hJ_36 h ((eA h 4 1) (((eI h 4 4)).toNatClampNeg)) hF H _ ls hP hD hS (lv_sub hl [] rfl)
def f_X7_value_36 (h : HS) (y0 : Int32) : Option (Int32 × HS) := (some (y0, h))
def f_X7_value_35 (h : HS) : Option (Int32 × HS) := (f_X7_value_36 h 0)
def f_X7_value (h : HS) : Option (Int32 × HS) := (if (eI h 4 3) ≤ (eI h 4 4) then (f_X7_value_35 h) else (if 301 ≤ (eI h 4 4) then (f_X7_value_35 h) else (if 0 ≤ ((eI h 4 4)).toInt ∧ ((eI h 4 4)).toInt < 301 then (f_X7_value_36 h ((eA h 4 2) (((eI h 4 4)).toNatClampNeg))) else none)))
set_option maxHeartbeats 4000000 in
set_option maxRecDepth 100000 in
theorem c_X7_value (l : Launch) (G : va_G) (cI cJ cZ cB cT : ClassId) (q : Nat → Nat) (h : HS)  (rr : Int32) (hh : HS) (hF : f_X7_value h = some (rr, hh)) : gMi l yX7_value (gws yX7_value cX7_value 1 (some .int)) 1 G (gT cI cJ cZ cB cT) [.ref (q 11)] (wC q cI cJ cZ cB cT h) (fun x (_ : Unit) => x = rr) (fun (_ : Unit) => (wC q cI cJ cZ cB cT hh)) := by
  intro sz
  refine gM_start (y := yX7_value) (av := [.ref (q 11)]) (ws := (wC q cI cJ cZ cB cT h)) (Qf := fun A => va_Qi (fun x (_ : Unit) => x = rr) (gB G (fun (_ : Unit) => (wC q cI cJ cZ cB cT hh)) A) A) (cc := cX7_value) (maxL := 1) (ret := (some .int)) (by decide) (Nat.le_of_ble_eq_true rfl) ?_
  intro p e s m args below meth c A ls H hx hb hr hts hown hin hlocks hml hP hK hD hA hS hl hE
  have hl : lv_has ls 1 [(0, .ref (q 11))] := hl
  have hJ_36 : ∀ (h : HS) (y0 : Int32), f_X7_value_36 h y0 = some (rr, hh) → ∀ (H : Heap) (locs : List Loc) (ls : Array Slot), va_P G vwCl (wC q cI cJ cZ cB cT h) H → va_D A (wC q cI cJ cZ cB cT h) → va_S A s.heap H locs → lv_has ls 1 [] → W p l e (gRm 1) s m args below meth c H locs 0 0 (MQ below (va_Qi (fun x (_ : Unit) => x = rr) (gB G (fun (_ : Unit) => (wC q cI cJ cZ cB cT hh)) A) A) args s 0 0 A) (F0 m 36 ls [.int y0]) := by
    intro h y0 hF H locs ls hP hD hS hl
    unfold f_X7_value_36 at hF
    obtain ⟨rfl, rfl⟩ := ob_pair hF
    exact gw_iret () hx hb hr hlocks hP hD hS rfl dX7_value_36
  have hJ_35 : ∀ (h : HS), f_X7_value_35 h = some (rr, hh) → ∀ (H : Heap) (locs : List Loc) (ls : Array Slot), va_P G vwCl (wC q cI cJ cZ cB cT h) H → va_D A (wC q cI cJ cZ cB cT h) → va_S A s.heap H locs → lv_has ls 1 [] → W p l e (gRm 1) s m args below meth c H locs 0 0 (MQ below (va_Qi (fun x (_ : Unit) => x = rr) (gB G (fun (_ : Unit) => (wC q cI cJ cZ cB cT hh)) A) A) args s 0 0 A) (F0 m 35 ls []) := by
    intro h hF H locs ls hP hD hS hl
    unfold f_X7_value_35 at hF
    refine lv_iconst (v := 0) hx hb dX7_value_35 (by decide) ?_
    exact hJ_36 h 0 hF H _ ls hP hD hS (lv_sub hl [] rfl)
  unfold f_X7_value at hF
  refine lv_aload_n hx hb dX7_value_0 rfl (lv_at hl 0 rfl) ?_
  refine va_get (D := G) (ci := 7) (v := .int (eI h 4 4)) (C := RX7) (T := TX7) (N := 5) hx hb hts iX7 hown hK hP 11 wC_at11 rfl 4 (by decide) (hts _ m_403) (fun _ h9 => h9) rfl dX7_value_1 ?_
  refine lv_aload_n hx hb dX7_value_4 rfl (lv_at hl 0 rfl) ?_
  refine va_get (D := G) (ci := 7) (v := .int (eI h 4 3)) (C := RX7) (T := TX7) (N := 5) hx hb hts iX7 hown hK hP 11 wC_at11 rfl 3 (by decide) (hts _ m_404) (fun _ h9 => h9) rfl dX7_value_5 ?_
  refine lv_icmp_ge (tgt := 35) hx hb dX7_value_8 (by decide) (fun c_1 => ?_) (fun c_1 => ?_)
  · have hF := ob_pos c_1 hF
    exact hJ_35 h hF H _ ls hP hD hS (lv_sub hl [] rfl)
  · have hF := ob_neg c_1 hF
    refine lv_aload_n hx hb dX7_value_11 rfl (lv_at hl 0 rfl) ?_
    refine va_get (D := G) (ci := 7) (v := .int (eI h 4 4)) (C := RX7) (T := TX7) (N := 5) hx hb hts iX7 hown hK hP 11 wC_at11 rfl 4 (by decide) (hts _ m_403) (fun _ h9 => h9) rfl dX7_value_12 ?_
    refine lv_aload_n hx hb dX7_value_15 rfl (lv_at hl 0 rfl) ?_
    refine va_get (D := G) (ci := 7) (v := .ref (q 14)) (C := RX7) (T := TX7) (N := 5) hx hb hts iX7 hown hK hP 11 wC_at11 rfl 2 (by decide) (hts _ m_407) (fun _ h9 => h9) rfl dX7_value_16 ?_
    refine va_alen (D := G) hx hb hK hP 14 0 wC_at14 rfl (v := 301) rfl dX7_value_19 ?_
    refine lv_icmp_ge (tgt := 35) hx hb dX7_value_20 (by decide) (fun c_2 => ?_) (fun c_2 => ?_)
    · have hF := ob_pos c_2 hF
      exact hJ_35 h hF H _ ls hP hD hS (lv_sub hl [] rfl)
    · have hF := ob_neg c_2 hF
      refine lv_aload_n hx hb dX7_value_23 rfl (lv_at hl 0 rfl) ?_
      refine va_get (D := G) (ci := 7) (v := .ref (q 14)) (C := RX7) (T := TX7) (N := 5) hx hb hts iX7 hown hK hP 11 wC_at11 rfl 2 (by decide) (hts _ m_407) (fun _ h9 => h9) rfl dX7_value_24 ?_
      refine lv_aload_n hx hb dX7_value_27 rfl (lv_at hl 0 rfl) ?_
      refine va_get (D := G) (ci := 7) (v := .int (eI h 4 4)) (C := RX7) (T := TX7) (N := 5) hx hb hts iX7 hown hK hP 11 wC_at11 rfl 4 (by decide) (hts _ m_403) (fun _ h9 => h9) rfl dX7_value_28 ?_
      obtain ⟨hi_3, hF⟩ := ob_if hF
      refine va_iald (D := G) hx hb hK hP 14 0 wC_at14 rfl (vp_in_iff.mpr hi_3) dX7_value_31 ?_
      refine gw_topi (y := ((eA h 4 2) (((eI h 4 4)).toNatClampNeg))) rfl ?_
      refine lv_goto (tgt := 36) hx hb dX7_value_32 (by decide) ?_
      exact hJ_36 h ((eA h 4 2) (((eI h 4 4)).toNatClampNeg)) hF H _ ls hP hD hS (lv_sub hl [] rfl)
def f_X7_advance_23 (h : HS) : Option HS := (some h)
def f_X7_advance (h : HS) : Option HS := (if ((eI h 4 3) - 1) ≤ (eI h 4 4) then (f_X7_advance_23 h) else (f_X7_advance_23 (sI h 4 4 ((eI h 4 4) + 1))))
set_option maxHeartbeats 4000000 in
set_option maxRecDepth 100000 in
theorem c_X7_advance (l : Launch) (G : va_G) (cI cJ cZ cB cT : ClassId) (q : Nat → Nat) (h : HS)  (hh : HS) (hF : f_X7_advance h = some hh) : gMv l yX7_advance (gws yX7_advance cX7_advance 1 none) 1 G (gT cI cJ cZ cB cT) [.ref (q 11)] (wC q cI cJ cZ cB cT h) (fun (_ : Unit) => True) (fun (_ : Unit) => (wC q cI cJ cZ cB cT hh)) := by
  intro sz
  refine gM_start (y := yX7_advance) (av := [.ref (q 11)]) (ws := (wC q cI cJ cZ cB cT h)) (Qf := fun A => va_Qv (fun (_ : Unit) => True) (gB G (fun (_ : Unit) => (wC q cI cJ cZ cB cT hh)) A) A) (cc := cX7_advance) (maxL := 1) (ret := none) (by decide) (Nat.le_of_ble_eq_true rfl) ?_
  intro p e s m args below meth c A ls H hx hb hr hts hown hin hlocks hml hP hK hD hA hS hl hE
  have hl : lv_has ls 1 [(0, .ref (q 11))] := hl
  have hJ_23 : ∀ (h : HS), f_X7_advance_23 h = some hh → ∀ (H : Heap) (locs : List Loc) (ls : Array Slot), va_P G vwCl (wC q cI cJ cZ cB cT h) H → va_D A (wC q cI cJ cZ cB cT h) → va_S A s.heap H locs → lv_has ls 1 [] → W p l e (gRm 1) s m args below meth c H locs 0 0 (MQ below (va_Qv (fun (_ : Unit) => True) (gB G (fun (_ : Unit) => (wC q cI cJ cZ cB cT hh)) A) A) args s 0 0 A) (F0 m 23 ls []) := by
    intro h hF H locs ls hP hD hS hl
    unfold f_X7_advance_23 at hF
    obtain rfl := ob_one hF
    exact gw_vret () hx hb hr hlocks hP hD hS trivial dX7_advance_23
  unfold f_X7_advance at hF
  refine lv_aload_n hx hb dX7_advance_0 rfl (lv_at hl 0 rfl) ?_
  refine va_get (D := G) (ci := 7) (v := .int (eI h 4 4)) (C := RX7) (T := TX7) (N := 5) hx hb hts iX7 hown hK hP 11 wC_at11 rfl 4 (by decide) (hts _ m_403) (fun _ h9 => h9) rfl dX7_advance_1 ?_
  refine lv_aload_n hx hb dX7_advance_4 rfl (lv_at hl 0 rfl) ?_
  refine va_get (D := G) (ci := 7) (v := .int (eI h 4 3)) (C := RX7) (T := TX7) (N := 5) hx hb hts iX7 hown hK hP 11 wC_at11 rfl 3 (by decide) (hts _ m_404) (fun _ h9 => h9) rfl dX7_advance_5 ?_
  refine lv_iconst (v := 1) hx hb dX7_advance_8 (by decide) ?_
  refine lv_isub hx hb dX7_advance_9 ?_
  refine lv_icmp_ge (tgt := 23) hx hb dX7_advance_10 (by decide) (fun c_1 => ?_) (fun c_1 => ?_)
  · have hF := ob_pos c_1 hF
    exact hJ_23 h hF H _ ls hP hD hS (lv_sub hl [] rfl)
  · have hF := ob_neg c_1 hF
    refine lv_aload_n hx hb dX7_advance_13 rfl (lv_at hl 0 rfl) ?_
    refine lv_dup hx hb dX7_advance_14 rfl ?_
    refine va_get (D := G) (ci := 7) (v := .int (eI h 4 4)) (C := RX7) (T := TX7) (N := 5) hx hb hts iX7 hown hK hP 11 wC_at11 rfl 4 (by decide) (hts _ m_403) (fun _ h9 => h9) rfl dX7_advance_15 ?_
    refine lv_iconst (v := 1) hx hb dX7_advance_18 (by decide) ?_
    refine lv_iadd hx hb dX7_advance_19 ?_
    refine va_put (D := G) (ci := 7) (v := .int ((eI h 4 4) + 1)) (ty := .int) (C := RX7) (T := TX7) (N := 5) hx hb hts iX7 tyX7 tyX7_ok nmX7 hown hK hP hD hS 11 wC_at11 rfl 4 (by decide) (hts _ m_403) (fun _ h9 => h9) rfl (tyX7_ok 4 (by decide)) rfl rfl (Nat.le_of_ble_eq_true rfl) dX7_advance_20 (fun H locs hP hD hS => ?_)
    rw [wC_sI11_4] at hP hD
    exact hJ_23 (sI h 4 4 ((eI h 4 4) + 1)) hF H _ ls hP hD hS (lv_sub hl [] rfl)
def f_X7_add_76 (h : HS) : Option HS := (some h)
def f_X7_add (h : HS) (p1 : Int32) (p2 : Int32) (p3 : Int32) : Option HS := (if 301 ≤ (eI h 4 3) then (f_X7_add_76 h) else (if 0 ≤ ((eI h 4 3)).toInt ∧ ((eI h 4 3)).toInt < 301 then (if 0 ≤ ((eI h 4 3)).toInt ∧ ((eI h 4 3)).toInt < 301 then (if 0 ≤ ((eI h 4 3)).toInt ∧ ((eI h 4 3)).toInt < 301 then (f_X7_add_76 (sI (sA (sA (sA h 4 0 (upd (eA h 4 0) (((eI h 4 3)).toNatClampNeg) p1)) 4 1 (upd (eA h 4 1) (((eI h 4 3)).toNatClampNeg) p2)) 4 2 (upd (eA h 4 2) (((eI h 4 3)).toNatClampNeg) p3)) 4 3 ((eI h 4 3) + 1))) else none) else none) else none))
set_option maxHeartbeats 4000000 in
set_option maxRecDepth 100000 in
theorem c_X7_add (l : Launch) (G : va_G) (cI cJ cZ cB cT : ClassId) (q : Nat → Nat) (h : HS) (p1 : Int32) (p2 : Int32) (p3 : Int32) (hh : HS) (hF : f_X7_add h p1 p2 p3 = some hh) : gMv l yX7_add (gws yX7_add cX7_add 4 none) 1 G (gT cI cJ cZ cB cT) [.ref (q 11), .int p1, .int p2, .int p3] (wC q cI cJ cZ cB cT h) (fun (_ : Unit) => True) (fun (_ : Unit) => (wC q cI cJ cZ cB cT hh)) := by
  intro sz
  refine gM_start (y := yX7_add) (av := [.ref (q 11), .int p1, .int p2, .int p3]) (ws := (wC q cI cJ cZ cB cT h)) (Qf := fun A => va_Qv (fun (_ : Unit) => True) (gB G (fun (_ : Unit) => (wC q cI cJ cZ cB cT hh)) A) A) (cc := cX7_add) (maxL := 4) (ret := none) (by decide) (Nat.le_of_ble_eq_true rfl) ?_
  intro p e s m args below meth c A ls H hx hb hr hts hown hin hlocks hml hP hK hD hA hS hl hE
  have hl : lv_has ls 4 [(0, .ref (q 11)), (1, .int p1), (2, .int p2), (3, .int p3)] := hl
  have hJ_76 : ∀ (h : HS), f_X7_add_76 h = some hh → ∀ (H : Heap) (locs : List Loc) (ls : Array Slot), va_P G vwCl (wC q cI cJ cZ cB cT h) H → va_D A (wC q cI cJ cZ cB cT h) → va_S A s.heap H locs → lv_has ls 4 [] → W p l e (gRm 1) s m args below meth c H locs 0 0 (MQ below (va_Qv (fun (_ : Unit) => True) (gB G (fun (_ : Unit) => (wC q cI cJ cZ cB cT hh)) A) A) args s 0 0 A) (F0 m 76 ls []) := by
    intro h hF H locs ls hP hD hS hl
    unfold f_X7_add_76 at hF
    obtain rfl := ob_one hF
    exact gw_vret () hx hb hr hlocks hP hD hS trivial dX7_add_76
  unfold f_X7_add at hF
  refine lv_aload_n hx hb dX7_add_0 rfl (lv_at hl 0 rfl) ?_
  refine va_get (D := G) (ci := 7) (v := .int (eI h 4 3)) (C := RX7) (T := TX7) (N := 5) hx hb hts iX7 hown hK hP 11 wC_at11 rfl 3 (by decide) (hts _ m_404) (fun _ h9 => h9) rfl dX7_add_1 ?_
  refine lv_aload_n hx hb dX7_add_4 rfl (lv_at hl 0 rfl) ?_
  refine va_get (D := G) (ci := 7) (v := .ref (q 12)) (C := RX7) (T := TX7) (N := 5) hx hb hts iX7 hown hK hP 11 wC_at11 rfl 0 (by decide) (hts _ m_405) (fun _ h9 => h9) rfl dX7_add_5 ?_
  refine va_alen (D := G) hx hb hK hP 12 0 wC_at12 rfl (v := 301) rfl dX7_add_8 ?_
  refine lv_icmp_ge (tgt := 76) hx hb dX7_add_9 (by decide) (fun c_1 => ?_) (fun c_1 => ?_)
  · have hF := ob_pos c_1 hF
    exact hJ_76 h hF H _ ls hP hD hS (lv_sub hl [] rfl)
  · have hF := ob_neg c_1 hF
    refine lv_aload_n hx hb dX7_add_12 rfl (lv_at hl 0 rfl) ?_
    refine va_get (D := G) (ci := 7) (v := .int (eI h 4 3)) (C := RX7) (T := TX7) (N := 5) hx hb hts iX7 hown hK hP 11 wC_at11 rfl 3 (by decide) (hts _ m_404) (fun _ h9 => h9) rfl dX7_add_13 ?_
    refine lv_aload_n hx hb dX7_add_16 rfl (lv_at hl 0 rfl) ?_
    refine va_get (D := G) (ci := 7) (v := .ref (q 13)) (C := RX7) (T := TX7) (N := 5) hx hb hts iX7 hown hK hP 11 wC_at11 rfl 1 (by decide) (hts _ m_406) (fun _ h9 => h9) rfl dX7_add_17 ?_
    refine va_alen (D := G) hx hb hK hP 13 0 wC_at13 rfl (v := 301) rfl dX7_add_20 ?_
    refine lv_icmp_ge (tgt := 76) hx hb dX7_add_21 (by decide) (fun c => absurd c c_1) (fun _ => ?_)
    refine lv_aload_n hx hb dX7_add_24 rfl (lv_at hl 0 rfl) ?_
    refine va_get (D := G) (ci := 7) (v := .int (eI h 4 3)) (C := RX7) (T := TX7) (N := 5) hx hb hts iX7 hown hK hP 11 wC_at11 rfl 3 (by decide) (hts _ m_404) (fun _ h9 => h9) rfl dX7_add_25 ?_
    refine lv_aload_n hx hb dX7_add_28 rfl (lv_at hl 0 rfl) ?_
    refine va_get (D := G) (ci := 7) (v := .ref (q 14)) (C := RX7) (T := TX7) (N := 5) hx hb hts iX7 hown hK hP 11 wC_at11 rfl 2 (by decide) (hts _ m_407) (fun _ h9 => h9) rfl dX7_add_29 ?_
    refine va_alen (D := G) hx hb hK hP 14 0 wC_at14 rfl (v := 301) rfl dX7_add_32 ?_
    refine lv_icmp_ge (tgt := 76) hx hb dX7_add_33 (by decide) (fun c => absurd c c_1) (fun _ => ?_)
    refine lv_aload_n hx hb dX7_add_36 rfl (lv_at hl 0 rfl) ?_
    refine va_get (D := G) (ci := 7) (v := .ref (q 12)) (C := RX7) (T := TX7) (N := 5) hx hb hts iX7 hown hK hP 11 wC_at11 rfl 0 (by decide) (hts _ m_405) (fun _ h9 => h9) rfl dX7_add_37 ?_
    refine lv_aload_n hx hb dX7_add_40 rfl (lv_at hl 0 rfl) ?_
    refine va_get (D := G) (ci := 7) (v := .int (eI h 4 3)) (C := RX7) (T := TX7) (N := 5) hx hb hts iX7 hown hK hP 11 wC_at11 rfl 3 (by decide) (hts _ m_404) (fun _ h9 => h9) rfl dX7_add_41 ?_
    refine lv_iload_n hx hb dX7_add_44 rfl (lv_at hl 1 rfl) ?_
    obtain ⟨hi_2, hF⟩ := ob_if hF
    refine va_iast (D := G) hx hb hK hP hD hS 12 0 wC_at12 rfl (vp_in_iff.mpr hi_2) dX7_add_45 (fun H locs hP hD hS => ?_)
    rw [wC_sA12] at hP hD
    have hP : va_P G vwCl (wC q cI cJ cZ cB cT (sA h 4 0 (upd (eA h 4 0) (((eI h 4 3)).toNatClampNeg) p1))) H := hP
    have hD : va_D A (wC q cI cJ cZ cB cT (sA h 4 0 (upd (eA h 4 0) (((eI h 4 3)).toNatClampNeg) p1))) := hD
    refine lv_aload_n hx hb dX7_add_46 rfl (lv_at hl 0 rfl) ?_
    refine va_get (D := G) (ci := 7) (v := .ref (q 13)) (C := RX7) (T := TX7) (N := 5) hx hb hts iX7 hown hK hP 11 wC_at11 rfl 1 (by decide) (hts _ m_406) (fun _ h9 => h9) rfl dX7_add_47 ?_
    refine lv_aload_n hx hb dX7_add_50 rfl (lv_at hl 0 rfl) ?_
    refine va_get (D := G) (ci := 7) (v := .int (eI h 4 3)) (C := RX7) (T := TX7) (N := 5) hx hb hts iX7 hown hK hP 11 wC_at11 rfl 3 (by decide) (hts _ m_404) (fun _ h9 => h9) rfl dX7_add_51 ?_
    refine lv_iload_n hx hb dX7_add_54 rfl (lv_at hl 2 rfl) ?_
    obtain ⟨hi_3, hF⟩ := ob_if hF
    refine va_iast (D := G) hx hb hK hP hD hS 13 0 wC_at13 rfl (vp_in_iff.mpr hi_3) dX7_add_55 (fun H locs hP hD hS => ?_)
    rw [wC_sA13] at hP hD
    have hP : va_P G vwCl (wC q cI cJ cZ cB cT (sA (sA h 4 0 (upd (eA h 4 0) (((eI h 4 3)).toNatClampNeg) p1)) 4 1 (upd (eA h 4 1) (((eI h 4 3)).toNatClampNeg) p2))) H := hP
    have hD : va_D A (wC q cI cJ cZ cB cT (sA (sA h 4 0 (upd (eA h 4 0) (((eI h 4 3)).toNatClampNeg) p1)) 4 1 (upd (eA h 4 1) (((eI h 4 3)).toNatClampNeg) p2))) := hD
    refine lv_aload_n hx hb dX7_add_56 rfl (lv_at hl 0 rfl) ?_
    refine va_get (D := G) (ci := 7) (v := .ref (q 14)) (C := RX7) (T := TX7) (N := 5) hx hb hts iX7 hown hK hP 11 wC_at11 rfl 2 (by decide) (hts _ m_407) (fun _ h9 => h9) rfl dX7_add_57 ?_
    refine lv_aload_n hx hb dX7_add_60 rfl (lv_at hl 0 rfl) ?_
    refine va_get (D := G) (ci := 7) (v := .int (eI h 4 3)) (C := RX7) (T := TX7) (N := 5) hx hb hts iX7 hown hK hP 11 wC_at11 rfl 3 (by decide) (hts _ m_404) (fun _ h9 => h9) rfl dX7_add_61 ?_
    refine lv_iload_n hx hb dX7_add_64 rfl (lv_at hl 3 rfl) ?_
    obtain ⟨hi_4, hF⟩ := ob_if hF
    refine va_iast (D := G) hx hb hK hP hD hS 14 0 wC_at14 rfl (vp_in_iff.mpr hi_4) dX7_add_65 (fun H locs hP hD hS => ?_)
    rw [wC_sA14] at hP hD
    have hP : va_P G vwCl (wC q cI cJ cZ cB cT (sA (sA (sA h 4 0 (upd (eA h 4 0) (((eI h 4 3)).toNatClampNeg) p1)) 4 1 (upd (eA h 4 1) (((eI h 4 3)).toNatClampNeg) p2)) 4 2 (upd (eA h 4 2) (((eI h 4 3)).toNatClampNeg) p3))) H := hP
    have hD : va_D A (wC q cI cJ cZ cB cT (sA (sA (sA h 4 0 (upd (eA h 4 0) (((eI h 4 3)).toNatClampNeg) p1)) 4 1 (upd (eA h 4 1) (((eI h 4 3)).toNatClampNeg) p2)) 4 2 (upd (eA h 4 2) (((eI h 4 3)).toNatClampNeg) p3))) := hD
    refine lv_aload_n hx hb dX7_add_66 rfl (lv_at hl 0 rfl) ?_
    refine lv_dup hx hb dX7_add_67 rfl ?_
    refine va_get (D := G) (ci := 7) (v := .int (eI h 4 3)) (C := RX7) (T := TX7) (N := 5) hx hb hts iX7 hown hK hP 11 wC_at11 rfl 3 (by decide) (hts _ m_404) (fun _ h9 => h9) rfl dX7_add_68 ?_
    refine lv_iconst (v := 1) hx hb dX7_add_71 (by decide) ?_
    refine lv_iadd hx hb dX7_add_72 ?_
    refine va_put (D := G) (ci := 7) (v := .int ((eI h 4 3) + 1)) (ty := .int) (C := RX7) (T := TX7) (N := 5) hx hb hts iX7 tyX7 tyX7_ok nmX7 hown hK hP hD hS 11 wC_at11 rfl 3 (by decide) (hts _ m_404) (fun _ h9 => h9) rfl (tyX7_ok 3 (by decide)) rfl rfl (Nat.le_of_ble_eq_true rfl) dX7_add_73 (fun H locs hP hD hS => ?_)
    rw [wC_sI11_3] at hP hD
    exact hJ_76 (sI (sA (sA (sA h 4 0 (upd (eA h 4 0) (((eI h 4 3)).toNatClampNeg) p1)) 4 1 (upd (eA h 4 1) (((eI h 4 3)).toNatClampNeg) p2)) 4 2 (upd (eA h 4 2) (((eI h 4 3)).toNatClampNeg) p3)) 4 3 ((eI h 4 3) + 1)) hF H _ ls hP hD hS (lv_sub hl [] rfl)
def f_X7_splitNumber_52 (h : HS) (x2 : Int32) (x3 : Int32) (x4 : Int32) : Option (Int32 × HS) := (ob1 (f_X7_add h 2 x2 x4) (fun h_6 => (some (x3, h_6))))
def f_X7_splitNumber_5 : Nat → HS → Int32 → Int32 → Int32 → Option (Int32 × HS)
  | 0, _, _, _, _ => none
  | n + 1, h, x2, x3, x4 => (if (eI h 3 1) ≤ x3 then (f_X7_splitNumber_52 h x2 x3 x4) else (ob2 (f_X5_byteAt h x3) (fun r_2 h_2 => (ob1 (f_X7_isNumeral r_2) (fun r_3 => (if r_3 = 0 then (f_X7_splitNumber_52 h_2 x2 x3 x4) else (ob2 (f_X5_byteAt h_2 x3) (fun r_5 h_5 => ((f_X7_splitNumber_5 n) h_5 x2 (x3 + 1) (if (((x4 * 10) + r_5) - 48) < 10000 then (((x4 * 10) + r_5) - 48) else 10000))))))))))
theorem f_X7_splitNumber_5_s (n : Nat) (h : HS) (x2 : Int32) (x3 : Int32) (x4 : Int32) : f_X7_splitNumber_5 (n + 1) h x2 x3 x4 = (if (eI h 3 1) ≤ x3 then (f_X7_splitNumber_52 h x2 x3 x4) else (ob2 (f_X5_byteAt h x3) (fun r_2 h_2 => (ob1 (f_X7_isNumeral r_2) (fun r_3 => (if r_3 = 0 then (f_X7_splitNumber_52 h_2 x2 x3 x4) else (ob2 (f_X5_byteAt h_2 x3) (fun r_5 h_5 => ((f_X7_splitNumber_5 n) h_5 x2 (x3 + 1) (if (((x4 * 10) + r_5) - 48) < 10000 then (((x4 * 10) + r_5) - 48) else 10000)))))))))) := rfl
def f_X7_splitNumber (h : HS) (p1 : Int32) : Option (Int32 × HS) := (f_X7_splitNumber_5 8589934592 h p1 p1 0)
theorem e_X5_byteAt : yX5_byteAt.cls = RX5 ∧ yX5_byteAt.cls ≠ "java/lang/invoke/MethodHandle" ∧ yX5_byteAt.cls ≠ "java/lang/invoke/VarHandle" ∧ (parseMethodDescriptor yX5_byteAt.desc).map (fun d => d.parameters.length) = some 1 := by decide +kernel
theorem e_X7_add : yX7_add.cls = RX7 ∧ yX7_add.cls ≠ "java/lang/invoke/MethodHandle" ∧ yX7_add.cls ≠ "java/lang/invoke/VarHandle" ∧ (parseMethodDescriptor yX7_add.desc).map (fun d => d.parameters.length) = some 3 := by decide +kernel
theorem e_X7_isNumeral : yX7_isNumeral.cls = RX7 ∧ yX7_isNumeral.cls ≠ "java/lang/invoke/MethodHandle" ∧ yX7_isNumeral.cls ≠ "java/lang/invoke/VarHandle" ∧ (parseMethodDescriptor yX7_isNumeral.desc).map (fun d => d.parameters.length) = some 1 := by decide +kernel
set_option maxHeartbeats 4000000 in
set_option maxRecDepth 100000 in
theorem c_X7_splitNumber (l : Launch) (G : va_G) (cI cJ cZ cB cT : ClassId) (q : Nat → Nat) (h : HS) (p1 : Int32) (rr : Int32) (hh : HS) (hF : f_X7_splitNumber h p1 = some (rr, hh)) : gMi l yX7_splitNumber (gws yX7_splitNumber cX7_splitNumber 5 (some .int)) 2 G (gT cI cJ cZ cB cT) [.ref (q 11), .ref (q 9), .int p1] (wC q cI cJ cZ cB cT h) (fun x (_ : Unit) => x = rr) (fun (_ : Unit) => (wC q cI cJ cZ cB cT hh)) := by
  intro sz
  refine gM_start (y := yX7_splitNumber) (av := [.ref (q 11), .ref (q 9), .int p1]) (ws := (wC q cI cJ cZ cB cT h)) (Qf := fun A => va_Qi (fun x (_ : Unit) => x = rr) (gB G (fun (_ : Unit) => (wC q cI cJ cZ cB cT hh)) A) A) (cc := cX7_splitNumber) (maxL := 5) (ret := (some .int)) (by decide) (Nat.le_of_ble_eq_true rfl) ?_
  intro p e s m args below meth c A ls H hx hb hr hts hown hin hlocks hml hP hK hD hA hS hl hE
  have hl : lv_has ls 5 [(0, .ref (q 11)), (1, .ref (q 9)), (2, .int p1)] := hl
  have hJ_52 : ∀ (h : HS) (x2 : Int32) (x3 : Int32) (x4 : Int32), f_X7_splitNumber_52 h x2 x3 x4 = some (rr, hh) → ∀ (H : Heap) (locs : List Loc) (ls : Array Slot), va_P G vwCl (wC q cI cJ cZ cB cT h) H → va_D A (wC q cI cJ cZ cB cT h) → va_S A s.heap H locs → lv_has ls 5 [(0, .ref (q 11)), (2, .int x2), (3, .int x3), (4, .int x4)] → W p l e (gRm 2) s m args below meth c H locs 0 0 (MQ below (va_Qi (fun x (_ : Unit) => x = rr) (gB G (fun (_ : Unit) => (wC q cI cJ cZ cB cT hh)) A) A) args s 0 0 A) (F0 m 52 ls []) := by
    intro h x2 x3 x4 hF H locs ls hP hD hS hl
    unfold f_X7_splitNumber_52 at hF
    refine lv_aload_n hx hb dX7_splitNumber_52 rfl (lv_at hl 0 rfl) ?_
    refine lv_iconst (v := 2) hx hb dX7_splitNumber_53 (by decide) ?_
    refine lv_iload_n hx hb dX7_splitNumber_54 rfl (lv_at hl 1 rfl) ?_
    refine lv_iload hx hb dX7_splitNumber_55 (lv_at hl 3 rfl) ?_
    obtain ⟨h_6, e_6, hF⟩ := ob1_some hF
    refine gx_callv (gx_runV (As := [.int 2, .int x2, .int x4]) (rest := []) ⟨hx, hb, hml, hown, hts⟩ (c_X7_add l G cI cJ cZ cB cT q h 2 x2 x4 h_6 e_6 H.size) (gG_V m_420 m_421 m_422 m_417 m_419) rfl e_X7_add ⟨Nat.le_of_ble_eq_true rfl, Nat.le_of_ble_eq_true rfl⟩ hK hP hD hE hS hA 11 wC_at11 rfl rfl hl.1 rfl (Nat.le_of_ble_eq_true rfl) dX7_splitNumber_57 ⟨Nat.le_refl _, Nat.le_refl _⟩) hP hD hS hA (fun u_6 H locs hw_6 hP hD hS => ?_)
    refine lv_iload_n hx hb dX7_splitNumber_60 rfl (lv_at hl 2 rfl) ?_
    obtain ⟨rfl, rfl⟩ := ob_pair hF
    exact gw_iret () hx hb hr hlocks hP hD hS rfl dX7_splitNumber_61
  have hJ_5 : ∀ (n_5 : Nat) (h : HS) (x2 : Int32) (x3 : Int32) (x4 : Int32), f_X7_splitNumber_5 n_5 h x2 x3 x4 = some (rr, hh) → ∀ (H : Heap) (locs : List Loc) (ls : Array Slot), va_P G vwCl (wC q cI cJ cZ cB cT h) H → va_D A (wC q cI cJ cZ cB cT h) → va_S A s.heap H locs → lv_has ls 5 [(0, .ref (q 11)), (1, .ref (q 9)), (2, .int x2), (3, .int x3), (4, .int x4)] → W p l e (gRm 2) s m args below meth c H locs 0 0 (MQ below (va_Qi (fun x (_ : Unit) => x = rr) (gB G (fun (_ : Unit) => (wC q cI cJ cZ cB cT hh)) A) A) args s 0 0 A) (F0 m 5 ls []) := by
    intro n_5
    induction n_5 with
    | zero =>
      intro h x2 x3 x4 hF
      exact absurd hF (by simp [f_X7_splitNumber_5])
    | succ n_5 ih_5 =>
      intro h x2 x3 x4 hF H locs ls hP hD hS hl
      rw [f_X7_splitNumber_5_s] at hF
      refine lv_iload_n hx hb dX7_splitNumber_5 rfl (lv_at hl 3 rfl) ?_
      refine lv_aload_n hx hb dX7_splitNumber_6 rfl (lv_at hl 1 rfl) ?_
      refine va_get (D := G) (ci := 5) (v := .int (eI h 3 1)) (C := RX5) (T := TX5) (N := 2) hx hb hts iX5 hown hK hP 9 wC_at9 rfl 1 (by decide) (hts _ m_408) (fun _ h9 => h9) rfl dX7_splitNumber_7 ?_
      refine lv_icmp_ge (tgt := 52) hx hb dX7_splitNumber_10 (by decide) (fun c_1 => ?_) (fun c_1 => ?_)
      · have hF := ob_pos c_1 hF
        exact hJ_52 h x2 x3 x4 hF H _ ls hP hD hS (lv_sub hl [0, 2, 3, 4] rfl)
      · have hF := ob_neg c_1 hF
        refine lv_aload_n hx hb dX7_splitNumber_13 rfl (lv_at hl 1 rfl) ?_
        refine lv_iload_n hx hb dX7_splitNumber_14 rfl (lv_at hl 3 rfl) ?_
        obtain ⟨r_2, h_2, e_2, hF⟩ := ob2_some hF
        refine gx_calli (gx_runV (As := [.int x3]) (rest := []) ⟨hx, hb, hml, hown, hts⟩ (c_X5_byteAt l G cI cJ cZ cB cT q h x3 r_2 h_2 e_2 H.size) (gG_V m_410 m_411 m_412 m_413 m_409) rfl e_X5_byteAt ⟨Nat.le_of_ble_eq_true rfl, Nat.le_of_ble_eq_true rfl⟩ hK hP hD hE hS hA 9 wC_at9 rfl rfl hl.1 rfl (Nat.le_of_ble_eq_true rfl) dX7_splitNumber_15 ⟨Nat.le_refl _, Nat.le_refl _⟩) hP hD hS hA (fun x_2 u_2 H locs hw_2 hP hD hS => ?_)
        subst x_2
        obtain ⟨r_3, e_3, hF⟩ := ob1_some hF
        refine gx_calli0 (gx_runS0 (As := [.int r_2]) (rest := []) ⟨hx, hb, hml, hown, hts⟩ (c_X7_isNumeral l G cI cJ cZ cB cT   r_2 r_3 e_3 H.size) (gG_S m_415 m_416 m_417 m_414) rfl e_X7_isNumeral ⟨Nat.le_of_ble_eq_true rfl, Nat.le_of_ble_eq_true rfl⟩ hK hE hS hA rfl hl.1 rfl (Nat.le_of_ble_eq_true rfl) dX7_splitNumber_18 ⟨Nat.le_refl _, Nat.le_refl _⟩) hP hD hS hA (fun x_3 u_3 H locs hw_3 hP hD hS => ?_)
        subst x_3
        refine lv_if_eq (tgt := 52) hx hb dX7_splitNumber_21 (by decide) (fun c_4 => ?_) (fun c_4 => ?_)
        · have hF := ob_pos c_4 hF
          exact hJ_52 h_2 x2 x3 x4 hF H _ ls hP hD hS (lv_sub hl [0, 2, 3, 4] rfl)
        · have hF := ob_neg c_4 hF
          refine lv_sipush (v := 10000) hx hb dX7_splitNumber_24 (by decide) ?_
          refine lv_iload hx hb dX7_splitNumber_27 (lv_at hl 4 rfl) ?_
          refine lv_bipush (v := 10) hx hb dX7_splitNumber_29 (by decide) ?_
          refine lv_imul hx hb dX7_splitNumber_31 ?_
          refine lv_aload_n hx hb dX7_splitNumber_32 rfl (lv_at hl 1 rfl) ?_
          refine lv_iload_n hx hb dX7_splitNumber_33 rfl (lv_at hl 3 rfl) ?_
          obtain ⟨r_5, h_5, e_5, hF⟩ := ob2_some hF
          refine gx_calli (gx_runV (As := [.int x3]) (rest := [.int (x4 * 10), .int 10000]) ⟨hx, hb, hml, hown, hts⟩ (c_X5_byteAt l G cI cJ cZ cB cT q h_2 x3 r_5 h_5 e_5 H.size) (gG_V m_410 m_411 m_412 m_413 m_409) rfl e_X5_byteAt ⟨Nat.le_of_ble_eq_true rfl, Nat.le_of_ble_eq_true rfl⟩ hK hP hD hE hS hA 9 wC_at9 rfl rfl hl.1 rfl (Nat.le_of_ble_eq_true rfl) dX7_splitNumber_34 ⟨Nat.le_refl _, Nat.le_refl _⟩) hP hD hS hA (fun x_5 u_5 H locs hw_5 hP hD hS => ?_)
          subst x_5
          refine lv_iadd hx hb dX7_splitNumber_37 ?_
          refine lv_bipush (v := 48) hx hb dX7_splitNumber_38 (by decide) ?_
          refine lv_isub hx hb dX7_splitNumber_40 ?_
          refine va_mmin hx hb (by rw [hml]; exact hl.1.symm) hown (hts _ m_418) (hts _ m_53) (hts _ m_50) (hts _ m_54) (Nat.le_of_ble_eq_true rfl) (Nat.le_of_ble_eq_true rfl) (Nat.le_of_ble_eq_true rfl) (Nat.le_of_ble_eq_true rfl) dX7_splitNumber_41 ?_
          refine lv_istore (lv' := [(4, .int (if (((x4 * 10) + r_5) - 48) < 10000 then (((x4 * 10) + r_5) - 48) else 10000)), (0, .ref (q 11)), (1, .ref (q 9)), (2, .int x2), (3, .int x3)]) hx hb dX7_splitNumber_44 hl (by decide) rfl (fun ls hl => ?_)
          refine lv_iinc (v := (x3 + 1)) (lv' := [(3, .int (x3 + 1)), (4, .int (if (((x4 * 10) + r_5) - 48) < 10000 then (((x4 * 10) + r_5) - 48) else 10000)), (0, .ref (q 11)), (1, .ref (q 9)), (2, .int x2)]) hx hb dX7_splitNumber_46 hl (k := 4) rfl rfl (by decide) rfl (fun ls hl => ?_)
          refine lv_goto (tgt := 5) hx hb dX7_splitNumber_49 (by decide) ?_
          exact ih_5 h_5 x2 (x3 + 1) (if (((x4 * 10) + r_5) - 48) < 10000 then (((x4 * 10) + r_5) - 48) else 10000) hF H _ ls hP hD hS (lv_sub hl [2, 3, 4, 0, 1] rfl)
  unfold f_X7_splitNumber at hF
  refine lv_iload_n hx hb dX7_splitNumber_0 rfl (lv_at hl 2 rfl) ?_
  refine lv_istore_n (lv' := [(3, .int p1), (0, .ref (q 11)), (1, .ref (q 9)), (2, .int p1)]) hx hb dX7_splitNumber_1 rfl hl (by decide) rfl (fun ls hl => ?_)
  refine lv_iconst (v := 0) hx hb dX7_splitNumber_2 (by decide) ?_
  refine lv_istore (lv' := [(4, .int 0), (3, .int p1), (0, .ref (q 11)), (1, .ref (q 9)), (2, .int p1)]) hx hb dX7_splitNumber_3 hl (by decide) rfl (fun ls hl => ?_)
  exact hJ_5 8589934592 h p1 p1 0 hF H _ ls hP hD hS (lv_sub hl [2, 3, 4, 1, 0] rfl)
def f_X7_splitSign_76 (h : HS) (y0 : Int32) : Option (Int32 × HS) := (some (y0, h))
def f_X7_splitSign_55 (h : HS) (x2 : Int32) (x3 : Int32) (x4 : Int32) : Option (Int32 × HS) := (ob1 (f_X7_add h x3 x2 0) (fun h_9 => (if x4 = 0 then (f_X7_splitSign_76 h_9 (x2 + 1)) else (f_X7_splitSign_76 h_9 (x2 + 2)))))
def f_X7_splitSign_54 (h : HS) (x2 : Int32) (x4 : Int32) (y0 : Int32) : Option (Int32 × HS) := (f_X7_splitSign_55 h x2 y0 x4)
def f_X7_splitSign_36 (h : HS) (x2 : Int32) (x3 : Int32) (y0 : Int32) : Option (Int32 × HS) := (if y0 = 0 then (f_X7_splitSign_55 h x2 x3 y0) else (if x3 = 3 then (f_X7_splitSign_54 h x2 y0 4) else (f_X7_splitSign_54 h x2 y0 6)))
def f_X7_splitSign_35 (h : HS) (x2 : Int32) (x3 : Int32) : Option (Int32 × HS) := (f_X7_splitSign_36 h x2 x3 0)
def f_X7_splitSign_19 (h : HS) (x2 : Int32) (x3 : Int32) : Option (Int32 × HS) := (ob2 (f_X5_byteAt h (x2 + 1)) (fun r_5 h_5 => (if r_5 = 61 then (f_X7_splitSign_36 h_5 x2 x3 1) else (f_X7_splitSign_35 h_5 x2 x3))))
def f_X7_splitSign (h : HS) (p1 : Int32) : Option (Int32 × HS) := (ob2 (f_X5_byteAt h p1) (fun r_1 h_1 => (ob1 (f_X7_signKind r_1) (fun r_2 => (if r_2 = 3 then (f_X7_splitSign_19 h_1 p1 r_2) else (if r_2 = 5 then (f_X7_splitSign_19 h_1 p1 r_2) else (f_X7_splitSign_35 h_1 p1 r_2)))))))
theorem e_X7_signKind : yX7_signKind.cls = RX7 ∧ yX7_signKind.cls ≠ "java/lang/invoke/MethodHandle" ∧ yX7_signKind.cls ≠ "java/lang/invoke/VarHandle" ∧ (parseMethodDescriptor yX7_signKind.desc).map (fun d => d.parameters.length) = some 1 := by decide +kernel
set_option maxHeartbeats 4000000 in
set_option maxRecDepth 100000 in
theorem c_X7_splitSign (l : Launch) (G : va_G) (cI cJ cZ cB cT : ClassId) (q : Nat → Nat) (h : HS) (p1 : Int32) (rr : Int32) (hh : HS) (hF : f_X7_splitSign h p1 = some (rr, hh)) : gMi l yX7_splitSign (gws yX7_splitSign cX7_splitSign 5 (some .int)) 2 G (gT cI cJ cZ cB cT) [.ref (q 11), .ref (q 9), .int p1] (wC q cI cJ cZ cB cT h) (fun x (_ : Unit) => x = rr) (fun (_ : Unit) => (wC q cI cJ cZ cB cT hh)) := by
  intro sz
  refine gM_start (y := yX7_splitSign) (av := [.ref (q 11), .ref (q 9), .int p1]) (ws := (wC q cI cJ cZ cB cT h)) (Qf := fun A => va_Qi (fun x (_ : Unit) => x = rr) (gB G (fun (_ : Unit) => (wC q cI cJ cZ cB cT hh)) A) A) (cc := cX7_splitSign) (maxL := 5) (ret := (some .int)) (by decide) (Nat.le_of_ble_eq_true rfl) ?_
  intro p e s m args below meth c A ls H hx hb hr hts hown hin hlocks hml hP hK hD hA hS hl hE
  have hl : lv_has ls 5 [(0, .ref (q 11)), (1, .ref (q 9)), (2, .int p1)] := hl
  have hJ_76 : ∀ (h : HS) (y0 : Int32), f_X7_splitSign_76 h y0 = some (rr, hh) → ∀ (H : Heap) (locs : List Loc) (ls : Array Slot), va_P G vwCl (wC q cI cJ cZ cB cT h) H → va_D A (wC q cI cJ cZ cB cT h) → va_S A s.heap H locs → lv_has ls 5 [] → W p l e (gRm 2) s m args below meth c H locs 0 0 (MQ below (va_Qi (fun x (_ : Unit) => x = rr) (gB G (fun (_ : Unit) => (wC q cI cJ cZ cB cT hh)) A) A) args s 0 0 A) (F0 m 76 ls [.int y0]) := by
    intro h y0 hF H locs ls hP hD hS hl
    unfold f_X7_splitSign_76 at hF
    obtain ⟨rfl, rfl⟩ := ob_pair hF
    exact gw_iret () hx hb hr hlocks hP hD hS rfl dX7_splitSign_76
  have hJ_55 : ∀ (h : HS) (x2 : Int32) (x3 : Int32) (x4 : Int32), f_X7_splitSign_55 h x2 x3 x4 = some (rr, hh) → ∀ (H : Heap) (locs : List Loc) (ls : Array Slot), va_P G vwCl (wC q cI cJ cZ cB cT h) H → va_D A (wC q cI cJ cZ cB cT h) → va_S A s.heap H locs → lv_has ls 5 [(0, .ref (q 11)), (2, .int x2), (3, .int x3), (4, .int x4)] → W p l e (gRm 2) s m args below meth c H locs 0 0 (MQ below (va_Qi (fun x (_ : Unit) => x = rr) (gB G (fun (_ : Unit) => (wC q cI cJ cZ cB cT hh)) A) A) args s 0 0 A) (F0 m 55 ls []) := by
    intro h x2 x3 x4 hF H locs ls hP hD hS hl
    unfold f_X7_splitSign_55 at hF
    refine lv_aload_n hx hb dX7_splitSign_55 rfl (lv_at hl 0 rfl) ?_
    refine lv_iload_n hx hb dX7_splitSign_56 rfl (lv_at hl 2 rfl) ?_
    refine lv_iload_n hx hb dX7_splitSign_57 rfl (lv_at hl 1 rfl) ?_
    refine lv_iconst (v := 0) hx hb dX7_splitSign_58 (by decide) ?_
    obtain ⟨h_9, e_9, hF⟩ := ob1_some hF
    refine gx_callv (gx_runV (As := [.int x3, .int x2, .int 0]) (rest := []) ⟨hx, hb, hml, hown, hts⟩ (c_X7_add l G cI cJ cZ cB cT q h x3 x2 0 h_9 e_9 H.size) (gG_V m_420 m_421 m_422 m_417 m_419) rfl e_X7_add ⟨Nat.le_of_ble_eq_true rfl, Nat.le_of_ble_eq_true rfl⟩ hK hP hD hE hS hA 11 wC_at11 rfl rfl hl.1 rfl (Nat.le_of_ble_eq_true rfl) dX7_splitSign_59 ⟨Nat.le_refl _, Nat.le_refl _⟩) hP hD hS hA (fun u_9 H locs hw_9 hP hD hS => ?_)
    refine lv_iload hx hb dX7_splitSign_62 (lv_at hl 3 rfl) ?_
    refine lv_if_eq (tgt := 73) hx hb dX7_splitSign_64 (by decide) (fun c_10 => ?_) (fun c_10 => ?_)
    · have hF := ob_pos c_10 hF
      refine lv_iload_n hx hb dX7_splitSign_73 rfl (lv_at hl 1 rfl) ?_
      refine lv_iconst (v := 1) hx hb dX7_splitSign_74 (by decide) ?_
      refine lv_iadd hx hb dX7_splitSign_75 ?_
      exact hJ_76 h_9 (x2 + 1) hF H _ ls hP hD hS (lv_sub hl [] rfl)
    · have hF := ob_neg c_10 hF
      refine lv_iload_n hx hb dX7_splitSign_67 rfl (lv_at hl 1 rfl) ?_
      refine lv_iconst (v := 2) hx hb dX7_splitSign_68 (by decide) ?_
      refine lv_iadd hx hb dX7_splitSign_69 ?_
      refine lv_goto (tgt := 76) hx hb dX7_splitSign_70 (by decide) ?_
      exact hJ_76 h_9 (x2 + 2) hF H _ ls hP hD hS (lv_sub hl [] rfl)
  have hJ_54 : ∀ (h : HS) (x2 : Int32) (x4 : Int32) (y0 : Int32), f_X7_splitSign_54 h x2 x4 y0 = some (rr, hh) → ∀ (H : Heap) (locs : List Loc) (ls : Array Slot), va_P G vwCl (wC q cI cJ cZ cB cT h) H → va_D A (wC q cI cJ cZ cB cT h) → va_S A s.heap H locs → lv_has ls 5 [(0, .ref (q 11)), (2, .int x2), (4, .int x4)] → W p l e (gRm 2) s m args below meth c H locs 0 0 (MQ below (va_Qi (fun x (_ : Unit) => x = rr) (gB G (fun (_ : Unit) => (wC q cI cJ cZ cB cT hh)) A) A) args s 0 0 A) (F0 m 54 ls [.int y0]) := by
    intro h x2 x4 y0 hF H locs ls hP hD hS hl
    unfold f_X7_splitSign_54 at hF
    refine lv_istore_n (lv' := [(3, .int y0), (0, .ref (q 11)), (2, .int x2), (4, .int x4)]) hx hb dX7_splitSign_54 rfl hl (by decide) rfl (fun ls hl => ?_)
    exact hJ_55 h x2 y0 x4 hF H _ ls hP hD hS (lv_sub hl [1, 2, 0, 3] rfl)
  have hJ_36 : ∀ (h : HS) (x2 : Int32) (x3 : Int32) (y0 : Int32), f_X7_splitSign_36 h x2 x3 y0 = some (rr, hh) → ∀ (H : Heap) (locs : List Loc) (ls : Array Slot), va_P G vwCl (wC q cI cJ cZ cB cT h) H → va_D A (wC q cI cJ cZ cB cT h) → va_S A s.heap H locs → lv_has ls 5 [(0, .ref (q 11)), (2, .int x2), (3, .int x3)] → W p l e (gRm 2) s m args below meth c H locs 0 0 (MQ below (va_Qi (fun x (_ : Unit) => x = rr) (gB G (fun (_ : Unit) => (wC q cI cJ cZ cB cT hh)) A) A) args s 0 0 A) (F0 m 36 ls [.int y0]) := by
    intro h x2 x3 y0 hF H locs ls hP hD hS hl
    unfold f_X7_splitSign_36 at hF
    refine lv_istore (lv' := [(4, .int y0), (0, .ref (q 11)), (2, .int x2), (3, .int x3)]) hx hb dX7_splitSign_36 hl (by decide) rfl (fun ls hl => ?_)
    refine lv_iload hx hb dX7_splitSign_38 (lv_at hl 0 rfl) ?_
    refine lv_if_eq (tgt := 55) hx hb dX7_splitSign_40 (by decide) (fun c_7 => ?_) (fun c_7 => ?_)
    · have hF := ob_pos c_7 hF
      exact hJ_55 h x2 x3 y0 hF H _ ls hP hD hS (lv_sub hl [1, 2, 3, 0] rfl)
    · have hF := ob_neg c_7 hF
      refine lv_iload_n hx hb dX7_splitSign_43 rfl (lv_at hl 3 rfl) ?_
      refine lv_iconst (v := 3) hx hb dX7_splitSign_44 (by decide) ?_
      refine lv_icmp_ne (tgt := 52) hx hb dX7_splitSign_45 (by decide) (fun c_8 => ?_) (fun c_8 => ?_)
      · have hF := ob_neg c_8 hF
        refine lv_bipush (v := 6) hx hb dX7_splitSign_52 (by decide) ?_
        exact hJ_54 h x2 y0 6 hF H _ ls hP hD hS (lv_sub hl [1, 2, 0] rfl)
      · have hF := ob_pos c_8 hF
        refine lv_iconst (v := 4) hx hb dX7_splitSign_48 (by decide) ?_
        refine lv_goto (tgt := 54) hx hb dX7_splitSign_49 (by decide) ?_
        exact hJ_54 h x2 y0 4 hF H _ ls hP hD hS (lv_sub hl [1, 2, 0] rfl)
  have hJ_35 : ∀ (h : HS) (x2 : Int32) (x3 : Int32), f_X7_splitSign_35 h x2 x3 = some (rr, hh) → ∀ (H : Heap) (locs : List Loc) (ls : Array Slot), va_P G vwCl (wC q cI cJ cZ cB cT h) H → va_D A (wC q cI cJ cZ cB cT h) → va_S A s.heap H locs → lv_has ls 5 [(0, .ref (q 11)), (2, .int x2), (3, .int x3)] → W p l e (gRm 2) s m args below meth c H locs 0 0 (MQ below (va_Qi (fun x (_ : Unit) => x = rr) (gB G (fun (_ : Unit) => (wC q cI cJ cZ cB cT hh)) A) A) args s 0 0 A) (F0 m 35 ls []) := by
    intro h x2 x3 hF H locs ls hP hD hS hl
    unfold f_X7_splitSign_35 at hF
    refine lv_iconst (v := 0) hx hb dX7_splitSign_35 (by decide) ?_
    exact hJ_36 h x2 x3 0 hF H _ ls hP hD hS (lv_sub hl [0, 1, 2] rfl)
  have hJ_19 : ∀ (h : HS) (x2 : Int32) (x3 : Int32), f_X7_splitSign_19 h x2 x3 = some (rr, hh) → ∀ (H : Heap) (locs : List Loc) (ls : Array Slot), va_P G vwCl (wC q cI cJ cZ cB cT h) H → va_D A (wC q cI cJ cZ cB cT h) → va_S A s.heap H locs → lv_has ls 5 [(0, .ref (q 11)), (1, .ref (q 9)), (2, .int x2), (3, .int x3)] → W p l e (gRm 2) s m args below meth c H locs 0 0 (MQ below (va_Qi (fun x (_ : Unit) => x = rr) (gB G (fun (_ : Unit) => (wC q cI cJ cZ cB cT hh)) A) A) args s 0 0 A) (F0 m 19 ls []) := by
    intro h x2 x3 hF H locs ls hP hD hS hl
    unfold f_X7_splitSign_19 at hF
    refine lv_aload_n hx hb dX7_splitSign_19 rfl (lv_at hl 1 rfl) ?_
    refine lv_iload_n hx hb dX7_splitSign_20 rfl (lv_at hl 2 rfl) ?_
    refine lv_iconst (v := 1) hx hb dX7_splitSign_21 (by decide) ?_
    refine lv_iadd hx hb dX7_splitSign_22 ?_
    obtain ⟨r_5, h_5, e_5, hF⟩ := ob2_some hF
    refine gx_calli (gx_runV (As := [.int (x2 + 1)]) (rest := []) ⟨hx, hb, hml, hown, hts⟩ (c_X5_byteAt l G cI cJ cZ cB cT q h (x2 + 1) r_5 h_5 e_5 H.size) (gG_V m_410 m_411 m_412 m_413 m_409) rfl e_X5_byteAt ⟨Nat.le_of_ble_eq_true rfl, Nat.le_of_ble_eq_true rfl⟩ hK hP hD hE hS hA 9 wC_at9 rfl rfl hl.1 rfl (Nat.le_of_ble_eq_true rfl) dX7_splitSign_23 ⟨Nat.le_refl _, Nat.le_refl _⟩) hP hD hS hA (fun x_5 u_5 H locs hw_5 hP hD hS => ?_)
    subst x_5
    refine lv_bipush (v := 61) hx hb dX7_splitSign_26 (by decide) ?_
    refine lv_icmp_ne (tgt := 35) hx hb dX7_splitSign_28 (by decide) (fun c_6 => ?_) (fun c_6 => ?_)
    · have hF := ob_neg c_6 hF
      exact hJ_35 h_5 x2 x3 hF H _ ls hP hD hS (lv_sub hl [0, 2, 3] rfl)
    · have hF := ob_pos c_6 hF
      refine lv_iconst (v := 1) hx hb dX7_splitSign_31 (by decide) ?_
      refine lv_goto (tgt := 36) hx hb dX7_splitSign_32 (by decide) ?_
      exact hJ_36 h_5 x2 x3 1 hF H _ ls hP hD hS (lv_sub hl [0, 2, 3] rfl)
  unfold f_X7_splitSign at hF
  refine lv_aload_n hx hb dX7_splitSign_0 rfl (lv_at hl 1 rfl) ?_
  refine lv_iload_n hx hb dX7_splitSign_1 rfl (lv_at hl 2 rfl) ?_
  obtain ⟨r_1, h_1, e_1, hF⟩ := ob2_some hF
  refine gx_calli (gx_runV (As := [.int p1]) (rest := []) ⟨hx, hb, hml, hown, hts⟩ (c_X5_byteAt l G cI cJ cZ cB cT q h p1 r_1 h_1 e_1 H.size) (gG_V m_410 m_411 m_412 m_413 m_409) rfl e_X5_byteAt ⟨Nat.le_of_ble_eq_true rfl, Nat.le_of_ble_eq_true rfl⟩ hK hP hD hE hS hA 9 wC_at9 rfl rfl hl.1 rfl (Nat.le_of_ble_eq_true rfl) dX7_splitSign_2 ⟨Nat.le_refl _, Nat.le_refl _⟩) hP hD hS hA (fun x_1 u_1 H locs hw_1 hP hD hS => ?_)
  subst x_1
  obtain ⟨r_2, e_2, hF⟩ := ob1_some hF
  refine gx_calli0 (gx_runS0 (As := [.int r_1]) (rest := []) ⟨hx, hb, hml, hown, hts⟩ (c_X7_signKind l G cI cJ cZ cB cT   r_1 r_2 e_2 H.size) (gG_S m_424 m_425 m_417 m_423) rfl e_X7_signKind ⟨Nat.le_of_ble_eq_true rfl, Nat.le_of_ble_eq_true rfl⟩ hK hE hS hA rfl hl.1 rfl (Nat.le_of_ble_eq_true rfl) dX7_splitSign_5 ⟨Nat.le_refl _, Nat.le_refl _⟩) hP hD hS hA (fun x_2 u_2 H locs hw_2 hP hD hS => ?_)
  subst x_2
  refine lv_istore_n (lv' := [(3, .int r_2), (0, .ref (q 11)), (1, .ref (q 9)), (2, .int p1)]) hx hb dX7_splitSign_8 rfl hl (by decide) rfl (fun ls hl => ?_)
  refine lv_iload_n hx hb dX7_splitSign_9 rfl (lv_at hl 0 rfl) ?_
  refine lv_iconst (v := 3) hx hb dX7_splitSign_10 (by decide) ?_
  refine lv_icmp_eq (tgt := 19) hx hb dX7_splitSign_11 (by decide) (fun c_3 => ?_) (fun c_3 => ?_)
  · have hF := ob_pos c_3 hF
    exact hJ_19 h_1 p1 r_2 hF H _ ls hP hD hS (lv_sub hl [1, 2, 3, 0] rfl)
  · have hF := ob_neg c_3 hF
    refine lv_iload_n hx hb dX7_splitSign_14 rfl (lv_at hl 0 rfl) ?_
    refine lv_iconst (v := 5) hx hb dX7_splitSign_15 (by decide) ?_
    refine lv_icmp_ne (tgt := 35) hx hb dX7_splitSign_16 (by decide) (fun c_4 => ?_) (fun c_4 => ?_)
    · have hF := ob_neg c_4 hF
      exact hJ_35 h_1 p1 r_2 hF H _ ls hP hD hS (lv_sub hl [1, 3, 0] rfl)
    · have hF := ob_pos c_4 hF
      exact hJ_19 h_1 p1 r_2 hF H _ ls hP hD hS (lv_sub hl [1, 2, 3, 0] rfl)
def f_X1_push_66 (h : HS) : Option HS := (some h)
def f_X1_push_55 (h : HS) (y0 : Int32) (y1 : Int32) : Option HS := (if 0 ≤ (y1).toInt ∧ (y1).toInt < 40 then (f_X1_push_66 (sI (sA h 6 2 (upd (eA h 6 2) ((y1).toNatClampNeg) y0)) 6 3 ((eI h 6 3) + 1))) else none)
def f_X1_push (h : HS) (p1 : Int64) : Option HS := (if (eI h 6 3) < 0 then (f_X1_push_66 h) else (if 40 ≤ (eI h 6 3) then (f_X1_push_66 h) else (if (lg_cmp p1 1000000) ≤ 0 then (if 0 ≤ (lg_cmp p1 (-1000000)) then (f_X1_push_55 h ((p1).toInt32) (eI h 6 3)) else (f_X1_push_55 h (-1000000) (eI h 6 3))) else (f_X1_push_55 h 1000000 (eI h 6 3)))))
set_option maxHeartbeats 4000000 in
set_option maxRecDepth 100000 in
theorem c_X1_push (l : Launch) (G : va_G) (cI cJ cZ cB cT : ClassId) (q : Nat → Nat) (h : HS) (p1 : Int64) (hh : HS) (hF : f_X1_push h p1 = some hh) : gMv l yX1_push (gws yX1_push cX1_push 3 none) 1 G (gT cI cJ cZ cB cT) [.ref (q 16), .long p1] (wC q cI cJ cZ cB cT h) (fun (_ : Unit) => True) (fun (_ : Unit) => (wC q cI cJ cZ cB cT hh)) := by
  intro sz
  refine gM_start (y := yX1_push) (av := [.ref (q 16), .long p1]) (ws := (wC q cI cJ cZ cB cT h)) (Qf := fun A => va_Qv (fun (_ : Unit) => True) (gB G (fun (_ : Unit) => (wC q cI cJ cZ cB cT hh)) A) A) (cc := cX1_push) (maxL := 3) (ret := none) (by decide) (Nat.le_of_ble_eq_true rfl) ?_
  intro p e s m args below meth c A ls H hx hb hr hts hown hin hlocks hml hP hK hD hA hS hl hE
  have hl : lv_has ls 3 [(0, .ref (q 16)), (1, .long p1)] := hl
  have hJ_66 : ∀ (h : HS), f_X1_push_66 h = some hh → ∀ (H : Heap) (locs : List Loc) (ls : Array Slot), va_P G vwCl (wC q cI cJ cZ cB cT h) H → va_D A (wC q cI cJ cZ cB cT h) → va_S A s.heap H locs → lv_has ls 3 [] → W p l e (gRm 1) s m args below meth c H locs 0 0 (MQ below (va_Qv (fun (_ : Unit) => True) (gB G (fun (_ : Unit) => (wC q cI cJ cZ cB cT hh)) A) A) args s 0 0 A) (F0 m 66 ls []) := by
    intro h hF H locs ls hP hD hS hl
    unfold f_X1_push_66 at hF
    obtain rfl := ob_one hF
    exact gw_vret () hx hb hr hlocks hP hD hS trivial dX1_push_66
  have hJ_55 : ∀ (h : HS) (y0 : Int32) (y1 : Int32), f_X1_push_55 h y0 y1 = some hh → ∀ (H : Heap) (locs : List Loc) (ls : Array Slot), va_P G vwCl (wC q cI cJ cZ cB cT h) H → va_D A (wC q cI cJ cZ cB cT h) → va_S A s.heap H locs → lv_has ls 3 [(0, .ref (q 16))] → W p l e (gRm 1) s m args below meth c H locs 0 0 (MQ below (va_Qv (fun (_ : Unit) => True) (gB G (fun (_ : Unit) => (wC q cI cJ cZ cB cT hh)) A) A) args s 0 0 A) (F0 m 55 ls [.int y0, .int y1, .ref (q 19)]) := by
    intro h y0 y1 hF H locs ls hP hD hS hl
    unfold f_X1_push_55 at hF
    obtain ⟨hi_5, hF⟩ := ob_if hF
    refine va_iast (D := G) hx hb hK hP hD hS 19 0 wC_at19 rfl (vp_in_iff.mpr hi_5) dX1_push_55 (fun H locs hP hD hS => ?_)
    rw [wC_sA19] at hP hD
    have hP : va_P G vwCl (wC q cI cJ cZ cB cT (sA h 6 2 (upd (eA h 6 2) ((y1).toNatClampNeg) y0))) H := hP
    have hD : va_D A (wC q cI cJ cZ cB cT (sA h 6 2 (upd (eA h 6 2) ((y1).toNatClampNeg) y0))) := hD
    refine lv_aload_n hx hb dX1_push_56 rfl (lv_at hl 0 rfl) ?_
    refine lv_dup hx hb dX1_push_57 rfl ?_
    refine va_get (D := G) (ci := 1) (v := .int (eI h 6 3)) (C := RX1) (T := TX1) (N := 4) hx hb hts iX1 hown hK hP 16 wC_at16 rfl 3 (by decide) (hts _ m_426) (fun _ h9 => h9) rfl dX1_push_58 ?_
    refine lv_iconst (v := 1) hx hb dX1_push_61 (by decide) ?_
    refine lv_iadd hx hb dX1_push_62 ?_
    refine va_put (D := G) (ci := 1) (v := .int ((eI h 6 3) + 1)) (ty := .int) (C := RX1) (T := TX1) (N := 4) hx hb hts iX1 tyX1 tyX1_ok nmX1 hown hK hP hD hS 16 wC_at16 rfl 3 (by decide) (hts _ m_426) (fun _ h9 => h9) rfl (tyX1_ok 3 (by decide)) rfl rfl (Nat.le_of_ble_eq_true rfl) dX1_push_63 (fun H locs hP hD hS => ?_)
    rw [wC_sI16_3] at hP hD
    exact hJ_66 (sI (sA h 6 2 (upd (eA h 6 2) ((y1).toNatClampNeg) y0)) 6 3 ((eI h 6 3) + 1)) hF H _ ls hP hD hS (lv_sub hl [] rfl)
  unfold f_X1_push at hF
  refine lv_aload_n hx hb dX1_push_0 rfl (lv_at hl 0 rfl) ?_
  refine va_get (D := G) (ci := 1) (v := .int (eI h 6 3)) (C := RX1) (T := TX1) (N := 4) hx hb hts iX1 hown hK hP 16 wC_at16 rfl 3 (by decide) (hts _ m_426) (fun _ h9 => h9) rfl dX1_push_1 ?_
  refine lv_if_lt (tgt := 66) hx hb dX1_push_4 (by decide) (fun c_1 => ?_) (fun c_1 => ?_)
  · have hF := ob_pos c_1 hF
    exact hJ_66 h hF H _ ls hP hD hS (lv_sub hl [] rfl)
  · have hF := ob_neg c_1 hF
    refine lv_aload_n hx hb dX1_push_7 rfl (lv_at hl 0 rfl) ?_
    refine va_get (D := G) (ci := 1) (v := .int (eI h 6 3)) (C := RX1) (T := TX1) (N := 4) hx hb hts iX1 hown hK hP 16 wC_at16 rfl 3 (by decide) (hts _ m_426) (fun _ h9 => h9) rfl dX1_push_8 ?_
    refine lv_aload_n hx hb dX1_push_11 rfl (lv_at hl 0 rfl) ?_
    refine va_get (D := G) (ci := 1) (v := .ref (q 19)) (C := RX1) (T := TX1) (N := 4) hx hb hts iX1 hown hK hP 16 wC_at16 rfl 2 (by decide) (hts _ m_427) (fun _ h9 => h9) rfl dX1_push_12 ?_
    refine va_alen (D := G) hx hb hK hP 19 0 wC_at19 rfl (v := 40) rfl dX1_push_15 ?_
    refine lv_icmp_ge (tgt := 66) hx hb dX1_push_16 (by decide) (fun c_2 => ?_) (fun c_2 => ?_)
    · have hF := ob_pos c_2 hF
      exact hJ_66 h hF H _ ls hP hD hS (lv_sub hl [] rfl)
    · have hF := ob_neg c_2 hF
      refine lv_aload_n hx hb dX1_push_19 rfl (lv_at hl 0 rfl) ?_
      refine va_get (D := G) (ci := 1) (v := .ref (q 19)) (C := RX1) (T := TX1) (N := 4) hx hb hts iX1 hown hK hP 16 wC_at16 rfl 2 (by decide) (hts _ m_427) (fun _ h9 => h9) rfl dX1_push_20 ?_
      refine lv_aload_n hx hb dX1_push_23 rfl (lv_at hl 0 rfl) ?_
      refine va_get (D := G) (ci := 1) (v := .int (eI h 6 3)) (C := RX1) (T := TX1) (N := 4) hx hb hts iX1 hown hK hP 16 wC_at16 rfl 3 (by decide) (hts _ m_426) (fun _ h9 => h9) rfl dX1_push_24 ?_
      refine lv_lload_n hx hb dX1_push_27 rfl (lv_at hl 1 rfl) ?_
      refine lv_ldc2 (v := 1000000) hx hb hown (hts _ m_428) dX1_push_28 ?_
      refine W.lcmp hx hb dX1_push_31 ?_
      refine lv_if_le (tgt := 40) hx hb dX1_push_32 (by decide) (fun c_3 => ?_) (fun c_3 => ?_)
      · have hF := ob_pos c_3 hF
        refine lv_lload_n hx hb dX1_push_40 rfl (lv_at hl 1 rfl) ?_
        refine lv_ldc2 (v := (-1000000)) hx hb hown (hts _ m_429) dX1_push_41 ?_
        refine W.lcmp hx hb dX1_push_44 ?_
        refine lv_if_ge (tgt := 53) hx hb dX1_push_45 (by decide) (fun c_4 => ?_) (fun c_4 => ?_)
        · have hF := ob_pos c_4 hF
          refine lv_lload_n hx hb dX1_push_53 rfl (lv_at hl 1 rfl) ?_
          refine lv_l2i (v := ((p1).toInt32)) hx hb dX1_push_54 rfl ?_
          exact hJ_55 h ((p1).toInt32) (eI h 6 3) hF H _ ls hP hD hS (lv_sub hl [0] rfl)
        · have hF := ob_neg c_4 hF
          refine lv_ldc (v := (-1000000)) hx hb hown (hts _ m_430) dX1_push_48 ?_
          refine lv_goto (tgt := 55) hx hb dX1_push_50 (by decide) ?_
          exact hJ_55 h (-1000000) (eI h 6 3) hF H _ ls hP hD hS (lv_sub hl [0] rfl)
      · have hF := ob_neg c_3 hF
        refine lv_ldc (v := 1000000) hx hb hown (hts _ m_431) dX1_push_35 ?_
        refine lv_goto (tgt := 55) hx hb dX1_push_37 (by decide) ?_
        exact hJ_55 h 1000000 (eI h 6 3) hF H _ ls hP hD hS (lv_sub hl [0] rfl)
def f_X1_pop_20 (h : HS) : Option (Int32 × HS) := (some (0, h))
def f_X1_pop (h : HS) : Option (Int32 × HS) := (if (eI h 6 3) < 1 then (f_X1_pop_20 h) else (if (eI h 6 3) ≤ 40 then (if 0 ≤ (((eI h 6 3) - 1)).toInt ∧ (((eI h 6 3) - 1)).toInt < 40 then (some (((eA h 6 2) ((((eI h 6 3) - 1)).toNatClampNeg)), (sI h 6 3 ((eI h 6 3) - 1)))) else none) else (f_X1_pop_20 h)))
set_option maxHeartbeats 4000000 in
set_option maxRecDepth 100000 in
theorem c_X1_pop (l : Launch) (G : va_G) (cI cJ cZ cB cT : ClassId) (q : Nat → Nat) (h : HS)  (rr : Int32) (hh : HS) (hF : f_X1_pop h = some (rr, hh)) : gMi l yX1_pop (gws yX1_pop cX1_pop 1 (some .int)) 1 G (gT cI cJ cZ cB cT) [.ref (q 16)] (wC q cI cJ cZ cB cT h) (fun x (_ : Unit) => x = rr) (fun (_ : Unit) => (wC q cI cJ cZ cB cT hh)) := by
  intro sz
  refine gM_start (y := yX1_pop) (av := [.ref (q 16)]) (ws := (wC q cI cJ cZ cB cT h)) (Qf := fun A => va_Qi (fun x (_ : Unit) => x = rr) (gB G (fun (_ : Unit) => (wC q cI cJ cZ cB cT hh)) A) A) (cc := cX1_pop) (maxL := 1) (ret := (some .int)) (by decide) (Nat.le_of_ble_eq_true rfl) ?_
  intro p e s m args below meth c A ls H hx hb hr hts hown hin hlocks hml hP hK hD hA hS hl hE
  have hl : lv_has ls 1 [(0, .ref (q 16))] := hl
  have hJ_20 : ∀ (h : HS), f_X1_pop_20 h = some (rr, hh) → ∀ (H : Heap) (locs : List Loc) (ls : Array Slot), va_P G vwCl (wC q cI cJ cZ cB cT h) H → va_D A (wC q cI cJ cZ cB cT h) → va_S A s.heap H locs → lv_has ls 1 [] → W p l e (gRm 1) s m args below meth c H locs 0 0 (MQ below (va_Qi (fun x (_ : Unit) => x = rr) (gB G (fun (_ : Unit) => (wC q cI cJ cZ cB cT hh)) A) A) args s 0 0 A) (F0 m 20 ls []) := by
    intro h hF H locs ls hP hD hS hl
    unfold f_X1_pop_20 at hF
    refine lv_iconst (v := 0) hx hb dX1_pop_20 (by decide) ?_
    obtain ⟨rfl, rfl⟩ := ob_pair hF
    exact gw_iret () hx hb hr hlocks hP hD hS rfl dX1_pop_21
  unfold f_X1_pop at hF
  refine lv_aload_n hx hb dX1_pop_0 rfl (lv_at hl 0 rfl) ?_
  refine va_get (D := G) (ci := 1) (v := .int (eI h 6 3)) (C := RX1) (T := TX1) (N := 4) hx hb hts iX1 hown hK hP 16 wC_at16 rfl 3 (by decide) (hts _ m_426) (fun _ h9 => h9) rfl dX1_pop_1 ?_
  refine lv_iconst (v := 1) hx hb dX1_pop_4 (by decide) ?_
  refine lv_icmp_lt (tgt := 20) hx hb dX1_pop_5 (by decide) (fun c_1 => ?_) (fun c_1 => ?_)
  · have hF := ob_pos c_1 hF
    exact hJ_20 h hF H _ ls hP hD hS (lv_sub hl [] rfl)
  · have hF := ob_neg c_1 hF
    refine lv_aload_n hx hb dX1_pop_8 rfl (lv_at hl 0 rfl) ?_
    refine va_get (D := G) (ci := 1) (v := .int (eI h 6 3)) (C := RX1) (T := TX1) (N := 4) hx hb hts iX1 hown hK hP 16 wC_at16 rfl 3 (by decide) (hts _ m_426) (fun _ h9 => h9) rfl dX1_pop_9 ?_
    refine lv_aload_n hx hb dX1_pop_12 rfl (lv_at hl 0 rfl) ?_
    refine va_get (D := G) (ci := 1) (v := .ref (q 19)) (C := RX1) (T := TX1) (N := 4) hx hb hts iX1 hown hK hP 16 wC_at16 rfl 2 (by decide) (hts _ m_427) (fun _ h9 => h9) rfl dX1_pop_13 ?_
    refine va_alen (D := G) hx hb hK hP 19 0 wC_at19 rfl (v := 40) rfl dX1_pop_16 ?_
    refine lv_icmp_le (tgt := 22) hx hb dX1_pop_17 (by decide) (fun c_2 => ?_) (fun c_2 => ?_)
    · have hF := ob_pos c_2 hF
      refine lv_aload_n hx hb dX1_pop_22 rfl (lv_at hl 0 rfl) ?_
      refine lv_dup hx hb dX1_pop_23 rfl ?_
      refine va_get (D := G) (ci := 1) (v := .int (eI h 6 3)) (C := RX1) (T := TX1) (N := 4) hx hb hts iX1 hown hK hP 16 wC_at16 rfl 3 (by decide) (hts _ m_426) (fun _ h9 => h9) rfl dX1_pop_24 ?_
      refine lv_iconst (v := 1) hx hb dX1_pop_27 (by decide) ?_
      refine lv_isub hx hb dX1_pop_28 ?_
      refine va_put (D := G) (ci := 1) (v := .int ((eI h 6 3) - 1)) (ty := .int) (C := RX1) (T := TX1) (N := 4) hx hb hts iX1 tyX1 tyX1_ok nmX1 hown hK hP hD hS 16 wC_at16 rfl 3 (by decide) (hts _ m_426) (fun _ h9 => h9) rfl (tyX1_ok 3 (by decide)) rfl rfl (Nat.le_of_ble_eq_true rfl) dX1_pop_29 (fun H locs hP hD hS => ?_)
      rw [wC_sI16_3] at hP hD
      refine lv_aload_n hx hb dX1_pop_32 rfl (lv_at hl 0 rfl) ?_
      refine va_get (D := G) (ci := 1) (v := .ref (q 19)) (C := RX1) (T := TX1) (N := 4) hx hb hts iX1 hown hK hP 16 wC_at16 rfl 2 (by decide) (hts _ m_427) (fun _ h9 => h9) rfl dX1_pop_33 ?_
      refine lv_aload_n hx hb dX1_pop_36 rfl (lv_at hl 0 rfl) ?_
      refine va_get (D := G) (ci := 1) (v := .int ((eI h 6 3) - 1)) (C := RX1) (T := TX1) (N := 4) hx hb hts iX1 hown hK hP 16 wC_at16 rfl 3 (by decide) (hts _ m_426) (fun _ h9 => h9) rfl dX1_pop_37 ?_
      obtain ⟨hi_3, hF⟩ := ob_if hF
      refine va_iald (D := G) hx hb hK hP 19 0 wC_at19 rfl (vp_in_iff.mpr hi_3) dX1_pop_40 ?_
      refine gw_topi (y := ((eA h 6 2) ((((eI h 6 3) - 1)).toNatClampNeg))) rfl ?_
      obtain ⟨rfl, rfl⟩ := ob_pair hF
      exact gw_iret () hx hb hr hlocks hP hD hS rfl dX1_pop_41
    · have hF := ob_neg c_2 hF
      exact hJ_20 h hF H _ ls hP hD hS (lv_sub hl [] rfl)
def f_X1_take_128 (h : HS) : Option HS := (some h)
def f_X1_take_47 (h : HS) (y0 : Int64) : Option HS := (ob1 (f_X1_push h y0) (fun h_14 => (f_X1_take_128 h_14)))
def f_X1_take (h : HS) (p1 : Int32) : Option HS := (if 10000 ≤ p1 then (if 20000 ≤ p1 then (ob2 (f_X1_pop h) (fun r_3 h_3 => (if (p1 - 20000) = 28 then (ob1 (f_X1_push h_3 (((1 - r_3)).toInt64)) (fun h_5 => (f_X1_take_128 h_5))) else (if (p1 - 20000) = 38 then (ob1 (f_X1_push h_3 (((-r_3)).toInt64)) (fun h_7 => (f_X1_take_128 h_7))) else (ob2 (f_X1_pop h_3) (fun r_8 h_8 => (ob1 (f_X1_joined (p1 - 20000) ((r_8).toInt64) ((r_3).toInt64)) (fun r_9 => (ob1 (f_X1_push h_8 r_9) (fun h_10 => (f_X1_take_128 h_10))))))))))) else (if 9 ≤ (p1 - 10000) then (f_X1_take_47 h 0) else (if 0 ≤ ((p1 - 10000)).toInt ∧ ((p1 - 10000)).toInt < 9 then (f_X1_take_47 h ((((eA h 6 1) (((p1 - 10000)).toNatClampNeg))).toInt64)) else none))) else (ob1 (f_X1_push h ((p1).toInt64)) (fun h_13 => (f_X1_take_128 h_13))))
theorem e_X1_joined : yX1_joined.cls = RX1 ∧ yX1_joined.cls ≠ "java/lang/invoke/MethodHandle" ∧ yX1_joined.cls ≠ "java/lang/invoke/VarHandle" ∧ (parseMethodDescriptor yX1_joined.desc).map (fun d => d.parameters.length) = some 3 := by decide +kernel
theorem e_X1_pop : yX1_pop.cls = RX1 ∧ yX1_pop.cls ≠ "java/lang/invoke/MethodHandle" ∧ yX1_pop.cls ≠ "java/lang/invoke/VarHandle" ∧ (parseMethodDescriptor yX1_pop.desc).map (fun d => d.parameters.length) = some 0 := by decide +kernel
theorem e_X1_push : yX1_push.cls = RX1 ∧ yX1_push.cls ≠ "java/lang/invoke/MethodHandle" ∧ yX1_push.cls ≠ "java/lang/invoke/VarHandle" ∧ (parseMethodDescriptor yX1_push.desc).map (fun d => d.parameters.length) = some 1 := by decide +kernel
set_option maxHeartbeats 4000000 in
set_option maxRecDepth 100000 in
theorem c_X1_take (l : Launch) (G : va_G) (cI cJ cZ cB cT : ClassId) (q : Nat → Nat) (h : HS) (p1 : Int32) (hh : HS) (hF : f_X1_take h p1 = some hh) : gMv l yX1_take (gws yX1_take cX1_take 3 none) 2 G (gT cI cJ cZ cB cT) [.ref (q 16), .int p1] (wC q cI cJ cZ cB cT h) (fun (_ : Unit) => True) (fun (_ : Unit) => (wC q cI cJ cZ cB cT hh)) := by
  intro sz
  refine gM_start (y := yX1_take) (av := [.ref (q 16), .int p1]) (ws := (wC q cI cJ cZ cB cT h)) (Qf := fun A => va_Qv (fun (_ : Unit) => True) (gB G (fun (_ : Unit) => (wC q cI cJ cZ cB cT hh)) A) A) (cc := cX1_take) (maxL := 3) (ret := none) (by decide) (Nat.le_of_ble_eq_true rfl) ?_
  intro p e s m args below meth c A ls H hx hb hr hts hown hin hlocks hml hP hK hD hA hS hl hE
  have hl : lv_has ls 3 [(0, .ref (q 16)), (1, .int p1)] := hl
  have hJ_128 : ∀ (h : HS), f_X1_take_128 h = some hh → ∀ (H : Heap) (locs : List Loc) (ls : Array Slot), va_P G vwCl (wC q cI cJ cZ cB cT h) H → va_D A (wC q cI cJ cZ cB cT h) → va_S A s.heap H locs → lv_has ls 3 [] → W p l e (gRm 2) s m args below meth c H locs 0 0 (MQ below (va_Qv (fun (_ : Unit) => True) (gB G (fun (_ : Unit) => (wC q cI cJ cZ cB cT hh)) A) A) args s 0 0 A) (F0 m 128 ls []) := by
    intro h hF H locs ls hP hD hS hl
    unfold f_X1_take_128 at hF
    obtain rfl := ob_one hF
    exact gw_vret () hx hb hr hlocks hP hD hS trivial dX1_take_128
  have hJ_47 : ∀ (h : HS) (y0 : Int64), f_X1_take_47 h y0 = some hh → ∀ (H : Heap) (locs : List Loc) (ls : Array Slot), va_P G vwCl (wC q cI cJ cZ cB cT h) H → va_D A (wC q cI cJ cZ cB cT h) → va_S A s.heap H locs → lv_has ls 3 [] → W p l e (gRm 2) s m args below meth c H locs 0 0 (MQ below (va_Qv (fun (_ : Unit) => True) (gB G (fun (_ : Unit) => (wC q cI cJ cZ cB cT hh)) A) A) args s 0 0 A) (F0 m 47 ls [.long y0, .ref (q 16)]) := by
    intro h y0 hF H locs ls hP hD hS hl
    unfold f_X1_take_47 at hF
    obtain ⟨h_14, e_14, hF⟩ := ob1_some hF
    refine gx_callv (gx_runV (As := [.long y0]) (rest := []) ⟨hx, hb, hml, hown, hts⟩ (c_X1_push l G cI cJ cZ cB cT q h y0 h_14 e_14 H.size) (gG_V m_438 m_439 m_440 m_436 m_437) rfl e_X1_push ⟨Nat.le_of_ble_eq_true rfl, Nat.le_of_ble_eq_true rfl⟩ hK hP hD hE hS hA 16 wC_at16 rfl rfl hl.1 rfl (Nat.le_of_ble_eq_true rfl) dX1_take_47 ⟨Nat.le_refl _, Nat.le_refl _⟩) hP hD hS hA (fun u_14 H locs hw_14 hP hD hS => ?_)
    refine lv_goto (tgt := 128) hx hb dX1_take_50 (by decide) ?_
    exact hJ_128 h_14 hF H _ ls hP hD hS (lv_sub hl [] rfl)
  unfold f_X1_take at hF
  refine lv_iload_n hx hb dX1_take_0 rfl (lv_at hl 1 rfl) ?_
  refine lv_sipush (v := 10000) hx hb dX1_take_1 (by decide) ?_
  refine lv_icmp_ge (tgt := 16) hx hb dX1_take_4 (by decide) (fun c_1 => ?_) (fun c_1 => ?_)
  · have hF := ob_pos c_1 hF
    refine lv_iload_n hx hb dX1_take_16 rfl (lv_at hl 1 rfl) ?_
    refine lv_sipush (v := 20000) hx hb dX1_take_17 (by decide) ?_
    refine lv_icmp_ge (tgt := 53) hx hb dX1_take_20 (by decide) (fun c_2 => ?_) (fun c_2 => ?_)
    · have hF := ob_pos c_2 hF
      refine lv_aload_n hx hb dX1_take_53 rfl (lv_at hl 0 rfl) ?_
      obtain ⟨r_3, h_3, e_3, hF⟩ := ob2_some hF
      refine gx_calli (gx_runV (As := []) (rest := []) ⟨hx, hb, hml, hown, hts⟩ (c_X1_pop l G cI cJ cZ cB cT q h  r_3 h_3 e_3 H.size) (gG_V m_433 m_434 m_435 m_436 m_432) rfl e_X1_pop ⟨Nat.le_of_ble_eq_true rfl, Nat.le_of_ble_eq_true rfl⟩ hK hP hD hE hS hA 16 wC_at16 rfl rfl hl.1 rfl (Nat.le_of_ble_eq_true rfl) dX1_take_54 ⟨Nat.le_refl _, Nat.le_refl _⟩) hP hD hS hA (fun x_3 u_3 H locs hw_3 hP hD hS => ?_)
      subst x_3
      refine lv_istore_n (lv' := [(2, .int r_3), (0, .ref (q 16)), (1, .int p1)]) hx hb dX1_take_57 rfl hl (by decide) rfl (fun ls hl => ?_)
      refine lv_iload_n hx hb dX1_take_58 rfl (lv_at hl 2 rfl) ?_
      refine lv_sipush (v := 20000) hx hb dX1_take_59 (by decide) ?_
      refine lv_isub hx hb dX1_take_62 ?_
      by_cases c_4 : (p1 - 20000) = 28
      · have hF := ob_pos c_4 hF
        refine lv_lookup (tgt := 98) (off := 35) hx hb dX1_take_63 (by decide) (by rw [c_4]; decide) (by decide) ?_
        refine lv_aload_n hx hb dX1_take_98 rfl (lv_at hl 1 rfl) ?_
        refine lv_iconst (v := 1) hx hb dX1_take_99 (by decide) ?_
        refine lv_iload_n hx hb dX1_take_100 rfl (lv_at hl 0 rfl) ?_
        refine lv_isub hx hb dX1_take_101 ?_
        refine lv_i2l (v := ((1 - r_3)).toInt64) hx hb dX1_take_102 rfl ?_
        obtain ⟨h_5, e_5, hF⟩ := ob1_some hF
        refine gx_callv (gx_runV (As := [.long (((1 - r_3)).toInt64)]) (rest := []) ⟨hx, hb, hml, hown, hts⟩ (c_X1_push l G cI cJ cZ cB cT q h_3 (((1 - r_3)).toInt64) h_5 e_5 H.size) (gG_V m_438 m_439 m_440 m_436 m_437) rfl e_X1_push ⟨Nat.le_of_ble_eq_true rfl, Nat.le_of_ble_eq_true rfl⟩ hK hP hD hE hS hA 16 wC_at16 rfl rfl hl.1 rfl (Nat.le_of_ble_eq_true rfl) dX1_take_103 ⟨Nat.le_refl _, Nat.le_refl _⟩) hP hD hS hA (fun u_5 H locs hw_5 hP hD hS => ?_)
        refine lv_goto (tgt := 128) hx hb dX1_take_106 (by decide) ?_
        exact hJ_128 h_5 hF H _ ls hP hD hS (lv_sub hl [] rfl)
      have hF := ob_neg c_4 hF
      by_cases c_6 : (p1 - 20000) = 38
      · have hF := ob_pos c_6 hF
        refine lv_lookup (tgt := 88) (off := 25) hx hb dX1_take_63 (by decide) (by rw [c_6]; decide) (by decide) ?_
        refine lv_aload_n hx hb dX1_take_88 rfl (lv_at hl 1 rfl) ?_
        refine lv_iload_n hx hb dX1_take_89 rfl (lv_at hl 0 rfl) ?_
        refine lv_ineg hx hb dX1_take_90 ?_
        refine lv_i2l (v := ((-r_3)).toInt64) hx hb dX1_take_91 rfl ?_
        obtain ⟨h_7, e_7, hF⟩ := ob1_some hF
        refine gx_callv (gx_runV (As := [.long (((-r_3)).toInt64)]) (rest := []) ⟨hx, hb, hml, hown, hts⟩ (c_X1_push l G cI cJ cZ cB cT q h_3 (((-r_3)).toInt64) h_7 e_7 H.size) (gG_V m_438 m_439 m_440 m_436 m_437) rfl e_X1_push ⟨Nat.le_of_ble_eq_true rfl, Nat.le_of_ble_eq_true rfl⟩ hK hP hD hE hS hA 16 wC_at16 rfl rfl hl.1 rfl (Nat.le_of_ble_eq_true rfl) dX1_take_92 ⟨Nat.le_refl _, Nat.le_refl _⟩) hP hD hS hA (fun u_7 H locs hw_7 hP hD hS => ?_)
        refine lv_goto (tgt := 128) hx hb dX1_take_95 (by decide) ?_
        exact hJ_128 h_7 hF H _ ls hP hD hS (lv_sub hl [] rfl)
      have hF := ob_neg c_6 hF
      refine lv_lookup (tgt := 109) (off := 46) hx hb dX1_take_63 (by decide) ((lv_osw c_4 (by decide)).trans ((lv_osw c_6 (by decide)).trans (rfl))) (by decide) ?_
      refine lv_aload_n hx hb dX1_take_109 rfl (lv_at hl 1 rfl) ?_
      refine lv_iload_n hx hb dX1_take_110 rfl (lv_at hl 2 rfl) ?_
      refine lv_sipush (v := 20000) hx hb dX1_take_111 (by decide) ?_
      refine lv_isub hx hb dX1_take_114 ?_
      refine lv_aload_n hx hb dX1_take_115 rfl (lv_at hl 1 rfl) ?_
      obtain ⟨r_8, h_8, e_8, hF⟩ := ob2_some hF
      refine gx_calli (gx_runV (As := []) (rest := [.int (p1 - 20000), .ref (q 16)]) ⟨hx, hb, hml, hown, hts⟩ (c_X1_pop l G cI cJ cZ cB cT q h_3  r_8 h_8 e_8 H.size) (gG_V m_433 m_434 m_435 m_436 m_432) rfl e_X1_pop ⟨Nat.le_of_ble_eq_true rfl, Nat.le_of_ble_eq_true rfl⟩ hK hP hD hE hS hA 16 wC_at16 rfl rfl hl.1 rfl (Nat.le_of_ble_eq_true rfl) dX1_take_116 ⟨Nat.le_refl _, Nat.le_refl _⟩) hP hD hS hA (fun x_8 u_8 H locs hw_8 hP hD hS => ?_)
      subst x_8
      refine lv_i2l (v := (r_8).toInt64) hx hb dX1_take_119 rfl ?_
      refine lv_iload_n hx hb dX1_take_120 rfl (lv_at hl 0 rfl) ?_
      refine lv_i2l (v := (r_3).toInt64) hx hb dX1_take_121 rfl ?_
      obtain ⟨r_9, e_9, hF⟩ := ob1_some hF
      refine gx_calll0 (gx_runS0 (As := [.int (p1 - 20000), .long ((r_8).toInt64), .long ((r_3).toInt64)]) (rest := [.ref (q 16)]) ⟨hx, hb, hml, hown, hts⟩ (c_X1_joined l G cI cJ cZ cB cT   (p1 - 20000) ((r_8).toInt64) ((r_3).toInt64) r_9 e_9 H.size) (gG_S m_442 m_443 m_436 m_441) rfl e_X1_joined ⟨Nat.le_of_ble_eq_true rfl, Nat.le_of_ble_eq_true rfl⟩ hK hE hS hA rfl hl.1 rfl (Nat.le_of_ble_eq_true rfl) dX1_take_122 ⟨Nat.le_refl _, Nat.le_refl _⟩) hP hD hS hA (fun x_9 u_9 H locs hw_9 hP hD hS => ?_)
      subst x_9
      obtain ⟨h_10, e_10, hF⟩ := ob1_some hF
      refine gx_callv (gx_runV (As := [.long r_9]) (rest := []) ⟨hx, hb, hml, hown, hts⟩ (c_X1_push l G cI cJ cZ cB cT q h_8 r_9 h_10 e_10 H.size) (gG_V m_438 m_439 m_440 m_436 m_437) rfl e_X1_push ⟨Nat.le_of_ble_eq_true rfl, Nat.le_of_ble_eq_true rfl⟩ hK hP hD hE hS hA 16 wC_at16 rfl rfl hl.1 rfl (Nat.le_of_ble_eq_true rfl) dX1_take_125 ⟨Nat.le_refl _, Nat.le_refl _⟩) hP hD hS hA (fun u_10 H locs hw_10 hP hD hS => ?_)
      exact hJ_128 h_10 hF H _ ls hP hD hS (lv_sub hl [] rfl)
    · have hF := ob_neg c_2 hF
      refine lv_iload_n hx hb dX1_take_23 rfl (lv_at hl 1 rfl) ?_
      refine lv_sipush (v := 10000) hx hb dX1_take_24 (by decide) ?_
      refine lv_isub hx hb dX1_take_27 ?_
      refine lv_istore_n (lv' := [(2, .int (p1 - 10000)), (0, .ref (q 16)), (1, .int p1)]) hx hb dX1_take_28 rfl hl (by decide) rfl (fun ls hl => ?_)
      refine lv_aload_n hx hb dX1_take_29 rfl (lv_at hl 1 rfl) ?_
      refine lv_iload_n hx hb dX1_take_30 rfl (lv_at hl 0 rfl) ?_
      refine lv_bipush (v := 9) hx hb dX1_take_31 (by decide) ?_
      refine lv_icmp_ge (tgt := 46) hx hb dX1_take_33 (by decide) (fun c_11 => ?_) (fun c_11 => ?_)
      · have hF := ob_pos c_11 hF
        refine lv_lconst (v := 0) hx hb dX1_take_46 (by decide) ?_
        exact hJ_47 h 0 hF H _ ls hP hD hS (lv_sub hl [] rfl)
      · have hF := ob_neg c_11 hF
        refine lv_aload_n hx hb dX1_take_36 rfl (lv_at hl 1 rfl) ?_
        refine va_get (D := G) (ci := 1) (v := .ref (q 18)) (C := RX1) (T := TX1) (N := 4) hx hb hts iX1 hown hK hP 16 wC_at16 rfl 1 (by decide) (hts _ m_444) (fun _ h9 => h9) rfl dX1_take_37 ?_
        refine lv_iload_n hx hb dX1_take_40 rfl (lv_at hl 0 rfl) ?_
        obtain ⟨hi_12, hF⟩ := ob_if hF
        refine va_iald (D := G) hx hb hK hP 18 0 wC_at18 rfl (vp_in_iff.mpr hi_12) dX1_take_41 ?_
        refine gw_topi (y := ((eA h 6 1) (((p1 - 10000)).toNatClampNeg))) rfl ?_
        refine lv_i2l (v := (((eA h 6 1) (((p1 - 10000)).toNatClampNeg))).toInt64) hx hb dX1_take_42 rfl ?_
        refine lv_goto (tgt := 47) hx hb dX1_take_43 (by decide) ?_
        exact hJ_47 h ((((eA h 6 1) (((p1 - 10000)).toNatClampNeg))).toInt64) hF H _ ls hP hD hS (lv_sub hl [] rfl)
  · have hF := ob_neg c_1 hF
    refine lv_aload_n hx hb dX1_take_7 rfl (lv_at hl 0 rfl) ?_
    refine lv_iload_n hx hb dX1_take_8 rfl (lv_at hl 1 rfl) ?_
    refine lv_i2l (v := (p1).toInt64) hx hb dX1_take_9 rfl ?_
    obtain ⟨h_13, e_13, hF⟩ := ob1_some hF
    refine gx_callv (gx_runV (As := [.long ((p1).toInt64)]) (rest := []) ⟨hx, hb, hml, hown, hts⟩ (c_X1_push l G cI cJ cZ cB cT q h ((p1).toInt64) h_13 e_13 H.size) (gG_V m_438 m_439 m_440 m_436 m_437) rfl e_X1_push ⟨Nat.le_of_ble_eq_true rfl, Nat.le_of_ble_eq_true rfl⟩ hK hP hD hE hS hA 16 wC_at16 rfl rfl hl.1 rfl (Nat.le_of_ble_eq_true rfl) dX1_take_10 ⟨Nat.le_refl _, Nat.le_refl _⟩) hP hD hS hA (fun u_13 H locs hw_13 hP hD hS => ?_)
    refine lv_goto (tgt := 128) hx hb dX1_take_13 (by decide) ?_
    exact hJ_128 h_13 hF H _ ls hP hD hS (lv_sub hl [] rfl)
def f_X1_without (h : HS) (p1 : Int32) : Option (Int32 × HS) := (if p1 = 0 then (some (((eA h 6 1) 7), h)) else (if p1 = 1 then (some (((eA h 6 1) 8), h)) else (some (1, h))))
set_option maxHeartbeats 4000000 in
set_option maxRecDepth 100000 in
theorem c_X1_without (l : Launch) (G : va_G) (cI cJ cZ cB cT : ClassId) (q : Nat → Nat) (h : HS) (p1 : Int32) (rr : Int32) (hh : HS) (hF : f_X1_without h p1 = some (rr, hh)) : gMi l yX1_without (gws yX1_without cX1_without 2 (some .int)) 1 G (gT cI cJ cZ cB cT) [.ref (q 16), .int p1] (wC q cI cJ cZ cB cT h) (fun x (_ : Unit) => x = rr) (fun (_ : Unit) => (wC q cI cJ cZ cB cT hh)) := by
  intro sz
  refine gM_start (y := yX1_without) (av := [.ref (q 16), .int p1]) (ws := (wC q cI cJ cZ cB cT h)) (Qf := fun A => va_Qi (fun x (_ : Unit) => x = rr) (gB G (fun (_ : Unit) => (wC q cI cJ cZ cB cT hh)) A) A) (cc := cX1_without) (maxL := 2) (ret := (some .int)) (by decide) (Nat.le_of_ble_eq_true rfl) ?_
  intro p e s m args below meth c A ls H hx hb hr hts hown hin hlocks hml hP hK hD hA hS hl hE
  have hl : lv_has ls 2 [(0, .ref (q 16)), (1, .int p1)] := hl
  unfold f_X1_without at hF
  refine lv_iload_n hx hb dX1_without_0 rfl (lv_at hl 1 rfl) ?_
  by_cases c_1 : p1 = 0
  · have hF := ob_pos c_1 hF
    refine lv_lookup (tgt := 28) (off := 27) hx hb dX1_without_1 (by decide) (by rw [c_1]; decide) (by decide) ?_
    refine lv_aload_n hx hb dX1_without_28 rfl (lv_at hl 0 rfl) ?_
    refine va_get (D := G) (ci := 1) (v := .ref (q 18)) (C := RX1) (T := TX1) (N := 4) hx hb hts iX1 hown hK hP 16 wC_at16 rfl 1 (by decide) (hts _ m_444) (fun _ h9 => h9) rfl dX1_without_29 ?_
    refine lv_bipush (v := 7) hx hb dX1_without_32 (by decide) ?_
    refine va_iald (D := G) hx hb hK hP 18 0 wC_at18 rfl (vp_in_nI (n := 7) (by decide) (by decide)) dX1_without_34 ?_
    refine gw_topi (y := ((eA h 6 1) 7)) rfl ?_
    obtain ⟨rfl, rfl⟩ := ob_pair hF
    exact gw_iret () hx hb hr hlocks hP hD hS rfl dX1_without_35
  have hF := ob_neg c_1 hF
  by_cases c_2 : p1 = 1
  · have hF := ob_pos c_2 hF
    refine lv_lookup (tgt := 36) (off := 35) hx hb dX1_without_1 (by decide) (by rw [c_2]; decide) (by decide) ?_
    refine lv_aload_n hx hb dX1_without_36 rfl (lv_at hl 0 rfl) ?_
    refine va_get (D := G) (ci := 1) (v := .ref (q 18)) (C := RX1) (T := TX1) (N := 4) hx hb hts iX1 hown hK hP 16 wC_at16 rfl 1 (by decide) (hts _ m_444) (fun _ h9 => h9) rfl dX1_without_37 ?_
    refine lv_bipush (v := 8) hx hb dX1_without_40 (by decide) ?_
    refine va_iald (D := G) hx hb hK hP 18 0 wC_at18 rfl (vp_in_nI (n := 8) (by decide) (by decide)) dX1_without_42 ?_
    refine gw_topi (y := ((eA h 6 1) 8)) rfl ?_
    obtain ⟨rfl, rfl⟩ := ob_pair hF
    exact gw_iret () hx hb hr hlocks hP hD hS rfl dX1_without_43
  have hF := ob_neg c_2 hF
  refine lv_lookup (tgt := 44) (off := 43) hx hb dX1_without_1 (by decide) ((lv_osw c_1 (by decide)).trans ((lv_osw c_2 (by decide)).trans (rfl))) (by decide) ?_
  refine lv_iconst (v := 1) hx hb dX1_without_44 (by decide) ?_
  obtain ⟨rfl, rfl⟩ := ob_pair hF
  exact gw_iret () hx hb hr hlocks hP hD hS rfl dX1_without_45
def f_X1_lookAt (h : HS) (p1 : Int32) : Option HS := (ob2 (f_X4_ofGoose (sA h 6 1 (upd (eA h 6 1) 0 p1)) p1 0) (fun r_1 h_1 => (ob2 (f_X4_ofGoose (sA h_1 6 1 (upd (eA h_1 6 1) 1 r_1)) p1 1) (fun r_2 h_2 => (ob2 (f_X4_ofGoose (sA h_2 6 1 (upd (eA h_2 6 1) 2 r_2)) p1 2) (fun r_3 h_3 => (ob2 (f_X4_ofGoose (sA h_3 6 1 (upd (eA h_3 6 1) 3 r_3)) p1 3) (fun r_4 h_4 => (some (sA (sA h_4 6 1 (upd (eA h_4 6 1) 4 r_4)) 6 1 (upd (upd (eA h_4 6 1) 4 r_4) 5 (eI h_4 1 7))))))))))))
set_option maxHeartbeats 4000000 in
set_option maxRecDepth 100000 in
theorem c_X1_lookAt (l : Launch) (G : va_G) (cI cJ cZ cB cT : ClassId) (q : Nat → Nat) (h : HS) (p1 : Int32) (hh : HS) (hF : f_X1_lookAt h p1 = some hh) : gMv l yX1_lookAt (gws yX1_lookAt cX1_lookAt 3 none) 2 G (gT cI cJ cZ cB cT) [.ref (q 16), .ref (q 1), .int p1] (wC q cI cJ cZ cB cT h) (fun (_ : Unit) => True) (fun (_ : Unit) => (wC q cI cJ cZ cB cT hh)) := by
  intro sz
  refine gM_start (y := yX1_lookAt) (av := [.ref (q 16), .ref (q 1), .int p1]) (ws := (wC q cI cJ cZ cB cT h)) (Qf := fun A => va_Qv (fun (_ : Unit) => True) (gB G (fun (_ : Unit) => (wC q cI cJ cZ cB cT hh)) A) A) (cc := cX1_lookAt) (maxL := 3) (ret := none) (by decide) (Nat.le_of_ble_eq_true rfl) ?_
  intro p e s m args below meth c A ls H hx hb hr hts hown hin hlocks hml hP hK hD hA hS hl hE
  have hl : lv_has ls 3 [(0, .ref (q 16)), (1, .ref (q 1)), (2, .int p1)] := hl
  unfold f_X1_lookAt at hF
  refine lv_aload_n hx hb dX1_lookAt_0 rfl (lv_at hl 0 rfl) ?_
  refine va_get (D := G) (ci := 1) (v := .ref (q 18)) (C := RX1) (T := TX1) (N := 4) hx hb hts iX1 hown hK hP 16 wC_at16 rfl 1 (by decide) (hts _ m_444) (fun _ h9 => h9) rfl dX1_lookAt_1 ?_
  refine lv_iconst (v := 0) hx hb dX1_lookAt_4 (by decide) ?_
  refine lv_iload_n hx hb dX1_lookAt_5 rfl (lv_at hl 2 rfl) ?_
  refine va_iast (D := G) hx hb hK hP hD hS 18 0 wC_at18 rfl (vp_in_nI (n := 0) (by decide) (by decide)) dX1_lookAt_6 (fun H locs hP hD hS => ?_)
  rw [wC_sA18] at hP hD
  have hP : va_P G vwCl (wC q cI cJ cZ cB cT (sA h 6 1 (upd (eA h 6 1) 0 p1))) H := hP
  have hD : va_D A (wC q cI cJ cZ cB cT (sA h 6 1 (upd (eA h 6 1) 0 p1))) := hD
  refine lv_aload_n hx hb dX1_lookAt_7 rfl (lv_at hl 0 rfl) ?_
  refine va_get (D := G) (ci := 1) (v := .ref (q 18)) (C := RX1) (T := TX1) (N := 4) hx hb hts iX1 hown hK hP 16 wC_at16 rfl 1 (by decide) (hts _ m_444) (fun _ h9 => h9) rfl dX1_lookAt_8 ?_
  refine lv_iconst (v := 1) hx hb dX1_lookAt_11 (by decide) ?_
  refine lv_aload_n hx hb dX1_lookAt_12 rfl (lv_at hl 1 rfl) ?_
  refine lv_iload_n hx hb dX1_lookAt_13 rfl (lv_at hl 2 rfl) ?_
  refine lv_iconst (v := 0) hx hb dX1_lookAt_14 (by decide) ?_
  obtain ⟨r_1, h_1, e_1, hF⟩ := ob2_some hF
  refine gx_calli (gx_runV (As := [.int p1, .int 0]) (rest := [.int 1, .ref (q 18)]) ⟨hx, hb, hml, hown, hts⟩ (c_X4_ofGoose l G cI cJ cZ cB cT q (sA h 6 1 (upd (eA h 6 1) 0 p1)) p1 0 r_1 h_1 e_1 H.size) (gG_V m_445 m_15 m_16 m_7 m_13) rfl e_X4_ofGoose ⟨Nat.le_of_ble_eq_true rfl, Nat.le_of_ble_eq_true rfl⟩ hK hP hD hE hS hA 1 wC_at1 rfl rfl hl.1 rfl (Nat.le_of_ble_eq_true rfl) dX1_lookAt_15 ⟨Nat.le_refl _, Nat.le_refl _⟩) hP hD hS hA (fun x_1 u_1 H locs hw_1 hP hD hS => ?_)
  subst x_1
  refine va_iast (D := G) hx hb hK hP hD hS 18 0 wC_at18 rfl (vp_in_nI (n := 1) (by decide) (by decide)) dX1_lookAt_18 (fun H locs hP hD hS => ?_)
  rw [wC_sA18] at hP hD
  have hP : va_P G vwCl (wC q cI cJ cZ cB cT (sA h_1 6 1 (upd (eA h_1 6 1) 1 r_1))) H := hP
  have hD : va_D A (wC q cI cJ cZ cB cT (sA h_1 6 1 (upd (eA h_1 6 1) 1 r_1))) := hD
  refine lv_aload_n hx hb dX1_lookAt_19 rfl (lv_at hl 0 rfl) ?_
  refine va_get (D := G) (ci := 1) (v := .ref (q 18)) (C := RX1) (T := TX1) (N := 4) hx hb hts iX1 hown hK hP 16 wC_at16 rfl 1 (by decide) (hts _ m_444) (fun _ h9 => h9) rfl dX1_lookAt_20 ?_
  refine lv_iconst (v := 2) hx hb dX1_lookAt_23 (by decide) ?_
  refine lv_aload_n hx hb dX1_lookAt_24 rfl (lv_at hl 1 rfl) ?_
  refine lv_iload_n hx hb dX1_lookAt_25 rfl (lv_at hl 2 rfl) ?_
  refine lv_iconst (v := 1) hx hb dX1_lookAt_26 (by decide) ?_
  obtain ⟨r_2, h_2, e_2, hF⟩ := ob2_some hF
  refine gx_calli (gx_runV (As := [.int p1, .int 1]) (rest := [.int 2, .ref (q 18)]) ⟨hx, hb, hml, hown, hts⟩ (c_X4_ofGoose l G cI cJ cZ cB cT q (sA h_1 6 1 (upd (eA h_1 6 1) 1 r_1)) p1 1 r_2 h_2 e_2 H.size) (gG_V m_445 m_15 m_16 m_7 m_13) rfl e_X4_ofGoose ⟨Nat.le_of_ble_eq_true rfl, Nat.le_of_ble_eq_true rfl⟩ hK hP hD hE hS hA 1 wC_at1 rfl rfl hl.1 rfl (Nat.le_of_ble_eq_true rfl) dX1_lookAt_27 ⟨Nat.le_refl _, Nat.le_refl _⟩) hP hD hS hA (fun x_2 u_2 H locs hw_2 hP hD hS => ?_)
  subst x_2
  refine va_iast (D := G) hx hb hK hP hD hS 18 0 wC_at18 rfl (vp_in_nI (n := 2) (by decide) (by decide)) dX1_lookAt_30 (fun H locs hP hD hS => ?_)
  rw [wC_sA18] at hP hD
  have hP : va_P G vwCl (wC q cI cJ cZ cB cT (sA h_2 6 1 (upd (eA h_2 6 1) 2 r_2))) H := hP
  have hD : va_D A (wC q cI cJ cZ cB cT (sA h_2 6 1 (upd (eA h_2 6 1) 2 r_2))) := hD
  refine lv_aload_n hx hb dX1_lookAt_31 rfl (lv_at hl 0 rfl) ?_
  refine va_get (D := G) (ci := 1) (v := .ref (q 18)) (C := RX1) (T := TX1) (N := 4) hx hb hts iX1 hown hK hP 16 wC_at16 rfl 1 (by decide) (hts _ m_444) (fun _ h9 => h9) rfl dX1_lookAt_32 ?_
  refine lv_iconst (v := 3) hx hb dX1_lookAt_35 (by decide) ?_
  refine lv_aload_n hx hb dX1_lookAt_36 rfl (lv_at hl 1 rfl) ?_
  refine lv_iload_n hx hb dX1_lookAt_37 rfl (lv_at hl 2 rfl) ?_
  refine lv_iconst (v := 2) hx hb dX1_lookAt_38 (by decide) ?_
  obtain ⟨r_3, h_3, e_3, hF⟩ := ob2_some hF
  refine gx_calli (gx_runV (As := [.int p1, .int 2]) (rest := [.int 3, .ref (q 18)]) ⟨hx, hb, hml, hown, hts⟩ (c_X4_ofGoose l G cI cJ cZ cB cT q (sA h_2 6 1 (upd (eA h_2 6 1) 2 r_2)) p1 2 r_3 h_3 e_3 H.size) (gG_V m_445 m_15 m_16 m_7 m_13) rfl e_X4_ofGoose ⟨Nat.le_of_ble_eq_true rfl, Nat.le_of_ble_eq_true rfl⟩ hK hP hD hE hS hA 1 wC_at1 rfl rfl hl.1 rfl (Nat.le_of_ble_eq_true rfl) dX1_lookAt_39 ⟨Nat.le_refl _, Nat.le_refl _⟩) hP hD hS hA (fun x_3 u_3 H locs hw_3 hP hD hS => ?_)
  subst x_3
  refine va_iast (D := G) hx hb hK hP hD hS 18 0 wC_at18 rfl (vp_in_nI (n := 3) (by decide) (by decide)) dX1_lookAt_42 (fun H locs hP hD hS => ?_)
  rw [wC_sA18] at hP hD
  have hP : va_P G vwCl (wC q cI cJ cZ cB cT (sA h_3 6 1 (upd (eA h_3 6 1) 3 r_3))) H := hP
  have hD : va_D A (wC q cI cJ cZ cB cT (sA h_3 6 1 (upd (eA h_3 6 1) 3 r_3))) := hD
  refine lv_aload_n hx hb dX1_lookAt_43 rfl (lv_at hl 0 rfl) ?_
  refine va_get (D := G) (ci := 1) (v := .ref (q 18)) (C := RX1) (T := TX1) (N := 4) hx hb hts iX1 hown hK hP 16 wC_at16 rfl 1 (by decide) (hts _ m_444) (fun _ h9 => h9) rfl dX1_lookAt_44 ?_
  refine lv_iconst (v := 4) hx hb dX1_lookAt_47 (by decide) ?_
  refine lv_aload_n hx hb dX1_lookAt_48 rfl (lv_at hl 1 rfl) ?_
  refine lv_iload_n hx hb dX1_lookAt_49 rfl (lv_at hl 2 rfl) ?_
  refine lv_iconst (v := 3) hx hb dX1_lookAt_50 (by decide) ?_
  obtain ⟨r_4, h_4, e_4, hF⟩ := ob2_some hF
  refine gx_calli (gx_runV (As := [.int p1, .int 3]) (rest := [.int 4, .ref (q 18)]) ⟨hx, hb, hml, hown, hts⟩ (c_X4_ofGoose l G cI cJ cZ cB cT q (sA h_3 6 1 (upd (eA h_3 6 1) 3 r_3)) p1 3 r_4 h_4 e_4 H.size) (gG_V m_445 m_15 m_16 m_7 m_13) rfl e_X4_ofGoose ⟨Nat.le_of_ble_eq_true rfl, Nat.le_of_ble_eq_true rfl⟩ hK hP hD hE hS hA 1 wC_at1 rfl rfl hl.1 rfl (Nat.le_of_ble_eq_true rfl) dX1_lookAt_51 ⟨Nat.le_refl _, Nat.le_refl _⟩) hP hD hS hA (fun x_4 u_4 H locs hw_4 hP hD hS => ?_)
  subst x_4
  refine va_iast (D := G) hx hb hK hP hD hS 18 0 wC_at18 rfl (vp_in_nI (n := 4) (by decide) (by decide)) dX1_lookAt_54 (fun H locs hP hD hS => ?_)
  rw [wC_sA18] at hP hD
  have hP : va_P G vwCl (wC q cI cJ cZ cB cT (sA h_4 6 1 (upd (eA h_4 6 1) 4 r_4))) H := hP
  have hD : va_D A (wC q cI cJ cZ cB cT (sA h_4 6 1 (upd (eA h_4 6 1) 4 r_4))) := hD
  refine lv_aload_n hx hb dX1_lookAt_55 rfl (lv_at hl 0 rfl) ?_
  refine va_get (D := G) (ci := 1) (v := .ref (q 18)) (C := RX1) (T := TX1) (N := 4) hx hb hts iX1 hown hK hP 16 wC_at16 rfl 1 (by decide) (hts _ m_444) (fun _ h9 => h9) rfl dX1_lookAt_56 ?_
  refine lv_iconst (v := 5) hx hb dX1_lookAt_59 (by decide) ?_
  refine lv_aload_n hx hb dX1_lookAt_60 rfl (lv_at hl 1 rfl) ?_
  refine va_get (D := G) (ci := 4) (v := .int (eI h_4 1 7)) (C := RX4) (T := TX4) (N := 13) hx hb hts iX4 hown hK hP 1 wC_at1 rfl 7 (by decide) (hts _ m_446) (fun _ h9 => h9) rfl dX1_lookAt_61 ?_
  refine va_iast (D := G) hx hb hK hP hD hS 18 0 wC_at18 rfl (vp_in_nI (n := 5) (by decide) (by decide)) dX1_lookAt_64 (fun H locs hP hD hS => ?_)
  rw [wC_sA18] at hP hD
  have hP : va_P G vwCl (wC q cI cJ cZ cB cT (sA (sA h_4 6 1 (upd (eA h_4 6 1) 4 r_4)) 6 1 (upd (upd (eA h_4 6 1) 4 r_4) 5 (eI h_4 1 7)))) H := hP
  have hD : va_D A (wC q cI cJ cZ cB cT (sA (sA h_4 6 1 (upd (eA h_4 6 1) 4 r_4)) 6 1 (upd (upd (eA h_4 6 1) 4 r_4) 5 (eI h_4 1 7)))) := hD
  obtain rfl := ob_one hF
  exact gw_vret () hx hb hr hlocks hP hD hS trivial dX1_lookAt_65
def f_X1_lookAtFilled (h : HS) (p1 : Int32) (p2 : Int32) (p3 : Int32) : Option HS := (ob1 (f_X1_lookAt h p1) (fun h_1 => (some (sA (sA h_1 6 1 (upd (eA h_1 6 1) 3 p2)) 6 1 (upd (upd (eA h_1 6 1) 3 p2) 4 p3)))))
theorem e_X1_lookAt : yX1_lookAt.cls = RX1 ∧ yX1_lookAt.cls ≠ "java/lang/invoke/MethodHandle" ∧ yX1_lookAt.cls ≠ "java/lang/invoke/VarHandle" ∧ (parseMethodDescriptor yX1_lookAt.desc).map (fun d => d.parameters.length) = some 2 := by decide +kernel
set_option maxHeartbeats 4000000 in
set_option maxRecDepth 100000 in
theorem c_X1_lookAtFilled (l : Launch) (G : va_G) (cI cJ cZ cB cT : ClassId) (q : Nat → Nat) (h : HS) (p1 : Int32) (p2 : Int32) (p3 : Int32) (hh : HS) (hF : f_X1_lookAtFilled h p1 p2 p3 = some hh) : gMv l yX1_lookAtFilled (gws yX1_lookAtFilled cX1_lookAtFilled 5 none) 3 G (gT cI cJ cZ cB cT) [.ref (q 16), .ref (q 1), .int p1, .int p2, .int p3] (wC q cI cJ cZ cB cT h) (fun (_ : Unit) => True) (fun (_ : Unit) => (wC q cI cJ cZ cB cT hh)) := by
  intro sz
  refine gM_start (y := yX1_lookAtFilled) (av := [.ref (q 16), .ref (q 1), .int p1, .int p2, .int p3]) (ws := (wC q cI cJ cZ cB cT h)) (Qf := fun A => va_Qv (fun (_ : Unit) => True) (gB G (fun (_ : Unit) => (wC q cI cJ cZ cB cT hh)) A) A) (cc := cX1_lookAtFilled) (maxL := 5) (ret := none) (by decide) (Nat.le_of_ble_eq_true rfl) ?_
  intro p e s m args below meth c A ls H hx hb hr hts hown hin hlocks hml hP hK hD hA hS hl hE
  have hl : lv_has ls 5 [(0, .ref (q 16)), (1, .ref (q 1)), (2, .int p1), (3, .int p2), (4, .int p3)] := hl
  unfold f_X1_lookAtFilled at hF
  refine lv_aload_n hx hb dX1_lookAtFilled_0 rfl (lv_at hl 0 rfl) ?_
  refine lv_aload_n hx hb dX1_lookAtFilled_1 rfl (lv_at hl 1 rfl) ?_
  refine lv_iload_n hx hb dX1_lookAtFilled_2 rfl (lv_at hl 2 rfl) ?_
  obtain ⟨h_1, e_1, hF⟩ := ob1_some hF
  refine gx_callv (gx_runV (As := [.ref (q 1), .int p1]) (rest := []) ⟨hx, hb, hml, hown, hts⟩ (c_X1_lookAt l G cI cJ cZ cB cT q h p1 h_1 e_1 H.size) (gG_V m_448 m_449 m_450 m_436 m_447) rfl e_X1_lookAt ⟨Nat.le_of_ble_eq_true rfl, Nat.le_of_ble_eq_true rfl⟩ hK hP hD hE hS hA 16 wC_at16 rfl rfl hl.1 rfl (Nat.le_of_ble_eq_true rfl) dX1_lookAtFilled_3 ⟨Nat.le_refl _, Nat.le_refl _⟩) hP hD hS hA (fun u_1 H locs hw_1 hP hD hS => ?_)
  refine lv_aload_n hx hb dX1_lookAtFilled_6 rfl (lv_at hl 0 rfl) ?_
  refine va_get (D := G) (ci := 1) (v := .ref (q 18)) (C := RX1) (T := TX1) (N := 4) hx hb hts iX1 hown hK hP 16 wC_at16 rfl 1 (by decide) (hts _ m_444) (fun _ h9 => h9) rfl dX1_lookAtFilled_7 ?_
  refine lv_iconst (v := 3) hx hb dX1_lookAtFilled_10 (by decide) ?_
  refine lv_iload_n hx hb dX1_lookAtFilled_11 rfl (lv_at hl 3 rfl) ?_
  refine va_iast (D := G) hx hb hK hP hD hS 18 0 wC_at18 rfl (vp_in_nI (n := 3) (by decide) (by decide)) dX1_lookAtFilled_12 (fun H locs hP hD hS => ?_)
  rw [wC_sA18] at hP hD
  have hP : va_P G vwCl (wC q cI cJ cZ cB cT (sA h_1 6 1 (upd (eA h_1 6 1) 3 p2))) H := hP
  have hD : va_D A (wC q cI cJ cZ cB cT (sA h_1 6 1 (upd (eA h_1 6 1) 3 p2))) := hD
  refine lv_aload_n hx hb dX1_lookAtFilled_13 rfl (lv_at hl 0 rfl) ?_
  refine va_get (D := G) (ci := 1) (v := .ref (q 18)) (C := RX1) (T := TX1) (N := 4) hx hb hts iX1 hown hK hP 16 wC_at16 rfl 1 (by decide) (hts _ m_444) (fun _ h9 => h9) rfl dX1_lookAtFilled_14 ?_
  refine lv_iconst (v := 4) hx hb dX1_lookAtFilled_17 (by decide) ?_
  refine lv_iload hx hb dX1_lookAtFilled_18 (lv_at hl 4 rfl) ?_
  refine va_iast (D := G) hx hb hK hP hD hS 18 0 wC_at18 rfl (vp_in_nI (n := 4) (by decide) (by decide)) dX1_lookAtFilled_20 (fun H locs hP hD hS => ?_)
  rw [wC_sA18] at hP hD
  have hP : va_P G vwCl (wC q cI cJ cZ cB cT (sA (sA h_1 6 1 (upd (eA h_1 6 1) 3 p2)) 6 1 (upd (upd (eA h_1 6 1) 3 p2) 4 p3))) H := hP
  have hD : va_D A (wC q cI cJ cZ cB cT (sA (sA h_1 6 1 (upd (eA h_1 6 1) 3 p2)) 6 1 (upd (upd (eA h_1 6 1) 3 p2) 4 p3))) := hD
  obtain rfl := ob_one hF
  exact gw_vret () hx hb hr hlocks hP hD hS trivial dX1_lookAtFilled_21
def f_X1_lookAtMarket (h : HS) (p1 : Int32) (p2 : Int32) : Option HS := (ob2 (f_X4_ofMarket (sA (sA h 6 1 (upd (eA h 6 1) 5 p2)) 6 1 (upd (upd (eA h 6 1) 5 p2) 6 p1)) p1 1) (fun r_1 h_1 => (ob2 (f_X4_ofMarket (sA h_1 6 1 (upd (eA h_1 6 1) 7 r_1)) p1 2) (fun r_2 h_2 => (some (sA h_2 6 1 (upd (eA h_2 6 1) 8 r_2)))))))
theorem e_X4_ofMarket : yX4_ofMarket.cls = RX4 ∧ yX4_ofMarket.cls ≠ "java/lang/invoke/MethodHandle" ∧ yX4_ofMarket.cls ≠ "java/lang/invoke/VarHandle" ∧ (parseMethodDescriptor yX4_ofMarket.desc).map (fun d => d.parameters.length) = some 2 := by decide +kernel
set_option maxHeartbeats 4000000 in
set_option maxRecDepth 100000 in
theorem c_X1_lookAtMarket (l : Launch) (G : va_G) (cI cJ cZ cB cT : ClassId) (q : Nat → Nat) (h : HS) (p1 : Int32) (p2 : Int32) (hh : HS) (hF : f_X1_lookAtMarket h p1 p2 = some hh) : gMv l yX1_lookAtMarket (gws yX1_lookAtMarket cX1_lookAtMarket 4 none) 2 G (gT cI cJ cZ cB cT) [.ref (q 16), .ref (q 1), .int p1, .int p2] (wC q cI cJ cZ cB cT h) (fun (_ : Unit) => True) (fun (_ : Unit) => (wC q cI cJ cZ cB cT hh)) := by
  intro sz
  refine gM_start (y := yX1_lookAtMarket) (av := [.ref (q 16), .ref (q 1), .int p1, .int p2]) (ws := (wC q cI cJ cZ cB cT h)) (Qf := fun A => va_Qv (fun (_ : Unit) => True) (gB G (fun (_ : Unit) => (wC q cI cJ cZ cB cT hh)) A) A) (cc := cX1_lookAtMarket) (maxL := 4) (ret := none) (by decide) (Nat.le_of_ble_eq_true rfl) ?_
  intro p e s m args below meth c A ls H hx hb hr hts hown hin hlocks hml hP hK hD hA hS hl hE
  have hl : lv_has ls 4 [(0, .ref (q 16)), (1, .ref (q 1)), (2, .int p1), (3, .int p2)] := hl
  unfold f_X1_lookAtMarket at hF
  refine lv_aload_n hx hb dX1_lookAtMarket_0 rfl (lv_at hl 0 rfl) ?_
  refine va_get (D := G) (ci := 1) (v := .ref (q 18)) (C := RX1) (T := TX1) (N := 4) hx hb hts iX1 hown hK hP 16 wC_at16 rfl 1 (by decide) (hts _ m_444) (fun _ h9 => h9) rfl dX1_lookAtMarket_1 ?_
  refine lv_iconst (v := 5) hx hb dX1_lookAtMarket_4 (by decide) ?_
  refine lv_iload_n hx hb dX1_lookAtMarket_5 rfl (lv_at hl 3 rfl) ?_
  refine va_iast (D := G) hx hb hK hP hD hS 18 0 wC_at18 rfl (vp_in_nI (n := 5) (by decide) (by decide)) dX1_lookAtMarket_6 (fun H locs hP hD hS => ?_)
  rw [wC_sA18] at hP hD
  have hP : va_P G vwCl (wC q cI cJ cZ cB cT (sA h 6 1 (upd (eA h 6 1) 5 p2))) H := hP
  have hD : va_D A (wC q cI cJ cZ cB cT (sA h 6 1 (upd (eA h 6 1) 5 p2))) := hD
  refine lv_aload_n hx hb dX1_lookAtMarket_7 rfl (lv_at hl 0 rfl) ?_
  refine va_get (D := G) (ci := 1) (v := .ref (q 18)) (C := RX1) (T := TX1) (N := 4) hx hb hts iX1 hown hK hP 16 wC_at16 rfl 1 (by decide) (hts _ m_444) (fun _ h9 => h9) rfl dX1_lookAtMarket_8 ?_
  refine lv_bipush (v := 6) hx hb dX1_lookAtMarket_11 (by decide) ?_
  refine lv_iload_n hx hb dX1_lookAtMarket_13 rfl (lv_at hl 2 rfl) ?_
  refine va_iast (D := G) hx hb hK hP hD hS 18 0 wC_at18 rfl (vp_in_nI (n := 6) (by decide) (by decide)) dX1_lookAtMarket_14 (fun H locs hP hD hS => ?_)
  rw [wC_sA18] at hP hD
  have hP : va_P G vwCl (wC q cI cJ cZ cB cT (sA (sA h 6 1 (upd (eA h 6 1) 5 p2)) 6 1 (upd (upd (eA h 6 1) 5 p2) 6 p1))) H := hP
  have hD : va_D A (wC q cI cJ cZ cB cT (sA (sA h 6 1 (upd (eA h 6 1) 5 p2)) 6 1 (upd (upd (eA h 6 1) 5 p2) 6 p1))) := hD
  refine lv_aload_n hx hb dX1_lookAtMarket_15 rfl (lv_at hl 0 rfl) ?_
  refine va_get (D := G) (ci := 1) (v := .ref (q 18)) (C := RX1) (T := TX1) (N := 4) hx hb hts iX1 hown hK hP 16 wC_at16 rfl 1 (by decide) (hts _ m_444) (fun _ h9 => h9) rfl dX1_lookAtMarket_16 ?_
  refine lv_bipush (v := 7) hx hb dX1_lookAtMarket_19 (by decide) ?_
  refine lv_aload_n hx hb dX1_lookAtMarket_21 rfl (lv_at hl 1 rfl) ?_
  refine lv_iload_n hx hb dX1_lookAtMarket_22 rfl (lv_at hl 2 rfl) ?_
  refine lv_iconst (v := 1) hx hb dX1_lookAtMarket_23 (by decide) ?_
  obtain ⟨r_1, h_1, e_1, hF⟩ := ob2_some hF
  refine gx_calli (gx_runV (As := [.int p1, .int 1]) (rest := [.int 7, .ref (q 18)]) ⟨hx, hb, hml, hown, hts⟩ (c_X4_ofMarket l G cI cJ cZ cB cT q (sA (sA h 6 1 (upd (eA h 6 1) 5 p2)) 6 1 (upd (upd (eA h 6 1) 5 p2) 6 p1)) p1 1 r_1 h_1 e_1 H.size) (gG_V m_452 m_453 m_454 m_7 m_451) rfl e_X4_ofMarket ⟨Nat.le_of_ble_eq_true rfl, Nat.le_of_ble_eq_true rfl⟩ hK hP hD hE hS hA 1 wC_at1 rfl rfl hl.1 rfl (Nat.le_of_ble_eq_true rfl) dX1_lookAtMarket_24 ⟨Nat.le_refl _, Nat.le_refl _⟩) hP hD hS hA (fun x_1 u_1 H locs hw_1 hP hD hS => ?_)
  subst x_1
  refine va_iast (D := G) hx hb hK hP hD hS 18 0 wC_at18 rfl (vp_in_nI (n := 7) (by decide) (by decide)) dX1_lookAtMarket_27 (fun H locs hP hD hS => ?_)
  rw [wC_sA18] at hP hD
  have hP : va_P G vwCl (wC q cI cJ cZ cB cT (sA h_1 6 1 (upd (eA h_1 6 1) 7 r_1))) H := hP
  have hD : va_D A (wC q cI cJ cZ cB cT (sA h_1 6 1 (upd (eA h_1 6 1) 7 r_1))) := hD
  refine lv_aload_n hx hb dX1_lookAtMarket_28 rfl (lv_at hl 0 rfl) ?_
  refine va_get (D := G) (ci := 1) (v := .ref (q 18)) (C := RX1) (T := TX1) (N := 4) hx hb hts iX1 hown hK hP 16 wC_at16 rfl 1 (by decide) (hts _ m_444) (fun _ h9 => h9) rfl dX1_lookAtMarket_29 ?_
  refine lv_bipush (v := 8) hx hb dX1_lookAtMarket_32 (by decide) ?_
  refine lv_aload_n hx hb dX1_lookAtMarket_34 rfl (lv_at hl 1 rfl) ?_
  refine lv_iload_n hx hb dX1_lookAtMarket_35 rfl (lv_at hl 2 rfl) ?_
  refine lv_iconst (v := 2) hx hb dX1_lookAtMarket_36 (by decide) ?_
  obtain ⟨r_2, h_2, e_2, hF⟩ := ob2_some hF
  refine gx_calli (gx_runV (As := [.int p1, .int 2]) (rest := [.int 8, .ref (q 18)]) ⟨hx, hb, hml, hown, hts⟩ (c_X4_ofMarket l G cI cJ cZ cB cT q (sA h_1 6 1 (upd (eA h_1 6 1) 7 r_1)) p1 2 r_2 h_2 e_2 H.size) (gG_V m_452 m_453 m_454 m_7 m_451) rfl e_X4_ofMarket ⟨Nat.le_of_ble_eq_true rfl, Nat.le_of_ble_eq_true rfl⟩ hK hP hD hE hS hA 1 wC_at1 rfl rfl hl.1 rfl (Nat.le_of_ble_eq_true rfl) dX1_lookAtMarket_37 ⟨Nat.le_refl _, Nat.le_refl _⟩) hP hD hS hA (fun x_2 u_2 H locs hw_2 hP hD hS => ?_)
  subst x_2
  refine va_iast (D := G) hx hb hK hP hD hS 18 0 wC_at18 rfl (vp_in_nI (n := 8) (by decide) (by decide)) dX1_lookAtMarket_40 (fun H locs hP hD hS => ?_)
  rw [wC_sA18] at hP hD
  have hP : va_P G vwCl (wC q cI cJ cZ cB cT (sA h_2 6 1 (upd (eA h_2 6 1) 8 r_2))) H := hP
  have hD : va_D A (wC q cI cJ cZ cB cT (sA h_2 6 1 (upd (eA h_2 6 1) 8 r_2))) := hD
  obtain rfl := ob_one hF
  exact gw_vret () hx hb hr hlocks hP hD hS trivial dX1_lookAtMarket_41
def f_X1_lookAtTraveller (h : HS) (p1 : Int32) : Option HS := (ob1 (f_X1_lookAt h p1) (fun h_1 => (ob2 (f_X4_ofGoose h_1 p1 5) (fun r_2 h_2 => (ob2 (f_X4_ofGoose h_2 p1 6) (fun r_3 h_3 => (ob1 (f_X1_lookAtMarket h_3 r_2 r_3) (fun h_4 => (some h_4)))))))))
theorem e_X1_lookAtMarket : yX1_lookAtMarket.cls = RX1 ∧ yX1_lookAtMarket.cls ≠ "java/lang/invoke/MethodHandle" ∧ yX1_lookAtMarket.cls ≠ "java/lang/invoke/VarHandle" ∧ (parseMethodDescriptor yX1_lookAtMarket.desc).map (fun d => d.parameters.length) = some 3 := by decide +kernel
set_option maxHeartbeats 4000000 in
set_option maxRecDepth 100000 in
theorem c_X1_lookAtTraveller (l : Launch) (G : va_G) (cI cJ cZ cB cT : ClassId) (q : Nat → Nat) (h : HS) (p1 : Int32) (hh : HS) (hF : f_X1_lookAtTraveller h p1 = some hh) : gMv l yX1_lookAtTraveller (gws yX1_lookAtTraveller cX1_lookAtTraveller 3 none) 3 G (gT cI cJ cZ cB cT) [.ref (q 16), .ref (q 1), .int p1] (wC q cI cJ cZ cB cT h) (fun (_ : Unit) => True) (fun (_ : Unit) => (wC q cI cJ cZ cB cT hh)) := by
  intro sz
  refine gM_start (y := yX1_lookAtTraveller) (av := [.ref (q 16), .ref (q 1), .int p1]) (ws := (wC q cI cJ cZ cB cT h)) (Qf := fun A => va_Qv (fun (_ : Unit) => True) (gB G (fun (_ : Unit) => (wC q cI cJ cZ cB cT hh)) A) A) (cc := cX1_lookAtTraveller) (maxL := 3) (ret := none) (by decide) (Nat.le_of_ble_eq_true rfl) ?_
  intro p e s m args below meth c A ls H hx hb hr hts hown hin hlocks hml hP hK hD hA hS hl hE
  have hl : lv_has ls 3 [(0, .ref (q 16)), (1, .ref (q 1)), (2, .int p1)] := hl
  unfold f_X1_lookAtTraveller at hF
  refine lv_aload_n hx hb dX1_lookAtTraveller_0 rfl (lv_at hl 0 rfl) ?_
  refine lv_aload_n hx hb dX1_lookAtTraveller_1 rfl (lv_at hl 1 rfl) ?_
  refine lv_iload_n hx hb dX1_lookAtTraveller_2 rfl (lv_at hl 2 rfl) ?_
  obtain ⟨h_1, e_1, hF⟩ := ob1_some hF
  refine gx_callv (gx_runV (As := [.ref (q 1), .int p1]) (rest := []) ⟨hx, hb, hml, hown, hts⟩ (c_X1_lookAt l G cI cJ cZ cB cT q h p1 h_1 e_1 H.size) (gG_V m_448 m_449 m_450 m_436 m_447) rfl e_X1_lookAt ⟨Nat.le_of_ble_eq_true rfl, Nat.le_of_ble_eq_true rfl⟩ hK hP hD hE hS hA 16 wC_at16 rfl rfl hl.1 rfl (Nat.le_of_ble_eq_true rfl) dX1_lookAtTraveller_3 ⟨Nat.le_refl _, Nat.le_refl _⟩) hP hD hS hA (fun u_1 H locs hw_1 hP hD hS => ?_)
  refine lv_aload_n hx hb dX1_lookAtTraveller_6 rfl (lv_at hl 0 rfl) ?_
  refine lv_aload_n hx hb dX1_lookAtTraveller_7 rfl (lv_at hl 1 rfl) ?_
  refine lv_aload_n hx hb dX1_lookAtTraveller_8 rfl (lv_at hl 1 rfl) ?_
  refine lv_iload_n hx hb dX1_lookAtTraveller_9 rfl (lv_at hl 2 rfl) ?_
  refine lv_iconst (v := 5) hx hb dX1_lookAtTraveller_10 (by decide) ?_
  obtain ⟨r_2, h_2, e_2, hF⟩ := ob2_some hF
  refine gx_calli (gx_runV (As := [.int p1, .int 5]) (rest := [.ref (q 1), .ref (q 16)]) ⟨hx, hb, hml, hown, hts⟩ (c_X4_ofGoose l G cI cJ cZ cB cT q h_1 p1 5 r_2 h_2 e_2 H.size) (gG_V m_445 m_15 m_16 m_7 m_13) rfl e_X4_ofGoose ⟨Nat.le_of_ble_eq_true rfl, Nat.le_of_ble_eq_true rfl⟩ hK hP hD hE hS hA 1 wC_at1 rfl rfl hl.1 rfl (Nat.le_of_ble_eq_true rfl) dX1_lookAtTraveller_11 ⟨Nat.le_refl _, Nat.le_refl _⟩) hP hD hS hA (fun x_2 u_2 H locs hw_2 hP hD hS => ?_)
  subst x_2
  refine lv_aload_n hx hb dX1_lookAtTraveller_14 rfl (lv_at hl 1 rfl) ?_
  refine lv_iload_n hx hb dX1_lookAtTraveller_15 rfl (lv_at hl 2 rfl) ?_
  refine lv_bipush (v := 6) hx hb dX1_lookAtTraveller_16 (by decide) ?_
  obtain ⟨r_3, h_3, e_3, hF⟩ := ob2_some hF
  refine gx_calli (gx_runV (As := [.int p1, .int 6]) (rest := [.int r_2, .ref (q 1), .ref (q 16)]) ⟨hx, hb, hml, hown, hts⟩ (c_X4_ofGoose l G cI cJ cZ cB cT q h_2 p1 6 r_3 h_3 e_3 H.size) (gG_V m_445 m_15 m_16 m_7 m_13) rfl e_X4_ofGoose ⟨Nat.le_of_ble_eq_true rfl, Nat.le_of_ble_eq_true rfl⟩ hK hP hD hE hS hA 1 wC_at1 rfl rfl hl.1 rfl (Nat.le_of_ble_eq_true rfl) dX1_lookAtTraveller_18 ⟨Nat.le_refl _, Nat.le_refl _⟩) hP hD hS hA (fun x_3 u_3 H locs hw_3 hP hD hS => ?_)
  subst x_3
  obtain ⟨h_4, e_4, hF⟩ := ob1_some hF
  refine gx_callv (gx_runV (As := [.ref (q 1), .int r_2, .int r_3]) (rest := []) ⟨hx, hb, hml, hown, hts⟩ (c_X1_lookAtMarket l G cI cJ cZ cB cT q h_3 r_2 r_3 h_4 e_4 H.size) (gG_V m_456 m_457 m_458 m_436 m_455) rfl e_X1_lookAtMarket ⟨Nat.le_of_ble_eq_true rfl, Nat.le_of_ble_eq_true rfl⟩ hK hP hD hE hS hA 16 wC_at16 rfl rfl hl.1 rfl (Nat.le_of_ble_eq_true rfl) dX1_lookAtTraveller_21 ⟨Nat.le_refl _, Nat.le_refl _⟩) hP hD hS hA (fun u_4 H locs hw_4 hP hD hS => ?_)
  obtain rfl := ob_one hF
  exact gw_vret () hx hb hr hlocks hP hD hS trivial dX1_lookAtTraveller_24
