def f_X9_laysFlock_188 (k7 : HS → Int32 → Int32 → Option HS) (h : HS) (x1 : Int32) (x2 : Int32) : Option HS := (k7 h x1 (x2 + 1))
def f_X9_laysFlock_67 (k7 : HS → Int32 → Int32 → Option HS) : Nat → HS → Int32 → Int32 → Int32 → Option HS
  | 0, _, _, _, _ => none
  | n + 1, h, x1, x2, x3 => (if (3 * ((eA h 0 0) 0)) ≤ x3 then (f_X9_laysFlock_188 k7 h x1 x2) else (if 0 ≤ ((10 + (3 * (x3 / 3)))).toInt ∧ ((10 + (3 * (x3 / 3)))).toInt < 1990 then (ob2 (f_X9_marketTells h 0 x2 x1 (x3 - x3 / 3 * 3) (x3 / 3) (((eA h 0 0) 121) + ((eA h 0 0) (((10 + (3 * (x3 / 3)))).toNatClampNeg)))) (fun r_11 h_11 => (if 0 ≤ (((12 * x2) + x3)).toInt ∧ (((12 * x2) + x3)).toInt < 120 then (ob2 (f_X9_marketTells (sA h_11 0 43 (upd (eA h_11 0 43) ((((12 * x2) + x3)).toNatClampNeg) r_11)) 1 x2 x1 (x3 - x3 / 3 * 3) (x3 / 3) (((eA h 0 0) 121) + ((eA h 0 0) (((10 + (3 * (x3 / 3)))).toNatClampNeg)))) (fun r_13 h_13 => (if 0 ≤ (((12 * x2) + x3)).toInt ∧ (((12 * x2) + x3)).toInt < 120 then (ob2 (f_X9_ofGoose (sA h_13 0 44 (upd (eA h_13 0 44) ((((12 * x2) + x3)).toNatClampNeg) r_13)) x2 1) (fun r_15 h_15 => (ob2 (f_X9_isTrueBy h_15 x2 x1 (x3 - x3 / 3 * 3) r_15) (fun r_16 h_16 => (if 0 ≤ (((12 * x2) + x3)).toInt ∧ (((12 * x2) + x3)).toInt < 120 then ((f_X9_laysFlock_67 k7 n) (sA h_16 0 45 (upd (eA h_16 0 45) ((((12 * x2) + x3)).toNatClampNeg) (vp_nar .boolean r_16))) x1 x2 (x3 + 1)) else none))))) else none))) else none))) else none))
theorem f_X9_laysFlock_67_s (k7 : HS → Int32 → Int32 → Option HS) (n : Nat) (h : HS) (x1 : Int32) (x2 : Int32) (x3 : Int32) : f_X9_laysFlock_67 k7 (n + 1) h x1 x2 x3 = (if (3 * ((eA h 0 0) 0)) ≤ x3 then (f_X9_laysFlock_188 k7 h x1 x2) else (if 0 ≤ ((10 + (3 * (x3 / 3)))).toInt ∧ ((10 + (3 * (x3 / 3)))).toInt < 1990 then (ob2 (f_X9_marketTells h 0 x2 x1 (x3 - x3 / 3 * 3) (x3 / 3) (((eA h 0 0) 121) + ((eA h 0 0) (((10 + (3 * (x3 / 3)))).toNatClampNeg)))) (fun r_11 h_11 => (if 0 ≤ (((12 * x2) + x3)).toInt ∧ (((12 * x2) + x3)).toInt < 120 then (ob2 (f_X9_marketTells (sA h_11 0 43 (upd (eA h_11 0 43) ((((12 * x2) + x3)).toNatClampNeg) r_11)) 1 x2 x1 (x3 - x3 / 3 * 3) (x3 / 3) (((eA h 0 0) 121) + ((eA h 0 0) (((10 + (3 * (x3 / 3)))).toNatClampNeg)))) (fun r_13 h_13 => (if 0 ≤ (((12 * x2) + x3)).toInt ∧ (((12 * x2) + x3)).toInt < 120 then (ob2 (f_X9_ofGoose (sA h_13 0 44 (upd (eA h_13 0 44) ((((12 * x2) + x3)).toNatClampNeg) r_13)) x2 1) (fun r_15 h_15 => (ob2 (f_X9_isTrueBy h_15 x2 x1 (x3 - x3 / 3 * 3) r_15) (fun r_16 h_16 => (if 0 ≤ (((12 * x2) + x3)).toInt ∧ (((12 * x2) + x3)).toInt < 120 then ((f_X9_laysFlock_67 k7 n) (sA h_16 0 45 (upd (eA h_16 0 45) ((((12 * x2) + x3)).toNatClampNeg) (vp_nar .boolean r_16))) x1 x2 (x3 + 1)) else none))))) else none))) else none))) else none)) := rfl
def f_X9_laysFlock_7 : Nat → HS → Int32 → Int32 → Option HS
  | 0, _, _, _ => none
  | n + 1, h, x1, x2 => (if ((eA h 0 0) 1) ≤ x2 then (some h) else (ob2 (f_X9_isHome h x2) (fun r_2 h_2 => (if r_2 = 0 then (f_X9_laysFlock_188 (f_X9_laysFlock_7 n) h_2 x1 x2) else (ob2 (f_X9_ofGoose h_2 x2 8) (fun r_4 h_4 => (if r_4 = 0 then (ob2 (f_X9_ofGoose h_4 x2 2) (fun r_6 h_6 => (if r_6 = (-1) then (if 0 ≤ ((eI h_6 0 47)).toInt ∧ ((eI h_6 0 47)).toInt < 10 then (f_X9_laysFlock_67 (f_X9_laysFlock_7 n) 8589934592 (sI (sA h_6 0 46 (upd (eA h_6 0 46) (((eI h_6 0 47)).toNatClampNeg) x2)) 0 47 ((eI h_6 0 47) + 1)) x1 x2 0) else none) else (f_X9_laysFlock_188 (f_X9_laysFlock_7 n) h_6 x1 x2)))) else (f_X9_laysFlock_188 (f_X9_laysFlock_7 n) h_4 x1 x2))))))))
theorem f_X9_laysFlock_7_s (n : Nat) (h : HS) (x1 : Int32) (x2 : Int32) : f_X9_laysFlock_7 (n + 1) h x1 x2 = (if ((eA h 0 0) 1) ≤ x2 then (some h) else (ob2 (f_X9_isHome h x2) (fun r_2 h_2 => (if r_2 = 0 then (f_X9_laysFlock_188 (f_X9_laysFlock_7 n) h_2 x1 x2) else (ob2 (f_X9_ofGoose h_2 x2 8) (fun r_4 h_4 => (if r_4 = 0 then (ob2 (f_X9_ofGoose h_4 x2 2) (fun r_6 h_6 => (if r_6 = (-1) then (if 0 ≤ ((eI h_6 0 47)).toInt ∧ ((eI h_6 0 47)).toInt < 10 then (f_X9_laysFlock_67 (f_X9_laysFlock_7 n) 8589934592 (sI (sA h_6 0 46 (upd (eA h_6 0 46) (((eI h_6 0 47)).toNatClampNeg) x2)) 0 47 ((eI h_6 0 47) + 1)) x1 x2 0) else none) else (f_X9_laysFlock_188 (f_X9_laysFlock_7 n) h_6 x1 x2)))) else (f_X9_laysFlock_188 (f_X9_laysFlock_7 n) h_4 x1 x2)))))))) := rfl
def f_X9_laysFlock (h : HS) (p1 : Int32) : Option HS := (f_X9_laysFlock_7 8589934592 (sI h 0 47 0) p1 0)
set_option maxHeartbeats 4000000 in
set_option maxRecDepth 100000 in
theorem c_X9_laysFlock (l : Launch) (G : va_G) (cI cJ cZ cB cT : ClassId) (m0 : Nat) (r : Nat → Nat) (h : HS) (p1 : Int32) (hh : HS) (hF : f_X9_laysFlock h p1 = some hh) : gMv l yX9_laysFlock (gws yX9_laysFlock cX9_laysFlock 6 none) 5 G (gT cI cJ cZ cB cT) [.ref m0, .int p1] (wM m0 r cI cJ cZ cB cT h) (fun (_ : Unit) => True) (fun (_ : Unit) => (wM m0 r cI cJ cZ cB cT hh)) := by
  intro sz
  refine gM_start (y := yX9_laysFlock) (av := [.ref m0, .int p1]) (ws := (wM m0 r cI cJ cZ cB cT h)) (Qf := fun A => va_Qv (fun (_ : Unit) => True) (gB G (fun (_ : Unit) => (wM m0 r cI cJ cZ cB cT hh)) A) A) (cc := cX9_laysFlock) (maxL := 6) (ret := none) (by decide) (Nat.le_of_ble_eq_true rfl) ?_
  intro p e s m args below meth c A ls H hx hb hr hts hown hin hlocks hml hP hK hD hA hS hl hE
  have hl : lv_has ls 6 [(0, .ref m0), (1, .int p1)] := hl
  have hJ_7 : ∀ (n_7 : Nat) (h : HS) (x1 : Int32) (x2 : Int32), f_X9_laysFlock_7 n_7 h x1 x2 = some hh → ∀ (H : Heap) (locs : List Loc) (ls : Array Slot), va_P G vwCl (wM m0 r cI cJ cZ cB cT h) H → va_D A (wM m0 r cI cJ cZ cB cT h) → va_S A s.heap H locs → lv_has ls 6 [(0, .ref m0), (1, .int x1), (2, .int x2)] → W p l e (gRm 5) s m args below meth c H locs 0 0 (MQ below (va_Qv (fun (_ : Unit) => True) (gB G (fun (_ : Unit) => (wM m0 r cI cJ cZ cB cT hh)) A) A) args s 0 0 A) (F0 m 7 ls []) := by
    intro n_7
    induction n_7 with
    | zero =>
      intro h x1 x2 hF
      exact absurd hF (by simp [f_X9_laysFlock_7])
    | succ n_7 ih_7 =>
      have hJ_188 : ∀ (h : HS) (x1 : Int32) (x2 : Int32), f_X9_laysFlock_188 (f_X9_laysFlock_7 n_7) h x1 x2 = some hh → ∀ (H : Heap) (locs : List Loc) (ls : Array Slot), va_P G vwCl (wM m0 r cI cJ cZ cB cT h) H → va_D A (wM m0 r cI cJ cZ cB cT h) → va_S A s.heap H locs → lv_has ls 6 [(0, .ref m0), (1, .int x1), (2, .int x2)] → W p l e (gRm 5) s m args below meth c H locs 0 0 (MQ below (va_Qv (fun (_ : Unit) => True) (gB G (fun (_ : Unit) => (wM m0 r cI cJ cZ cB cT hh)) A) A) args s 0 0 A) (F0 m 188 ls []) := by
        intro h x1 x2 hF H locs ls hP hD hS hl
        unfold f_X9_laysFlock_188 at hF
        refine lv_iinc (v := (x2 + 1)) (lv' := [(2, .int (x2 + 1)), (0, .ref m0), (1, .int x1)]) hx hb dX9_laysFlock_188 hl (k := 2) rfl rfl (by decide) rfl (fun ls hl => ?_)
        refine lv_goto (tgt := 7) hx hb dX9_laysFlock_191 (by decide) ?_
        exact ih_7 h x1 (x2 + 1) hF H _ ls hP hD hS (lv_sub hl [1, 2, 0] rfl)
      have hJ_67 : ∀ (n_67 : Nat) (h : HS) (x1 : Int32) (x2 : Int32) (x3 : Int32), f_X9_laysFlock_67 (f_X9_laysFlock_7 n_7) n_67 h x1 x2 x3 = some hh → ∀ (H : Heap) (locs : List Loc) (ls : Array Slot), va_P G vwCl (wM m0 r cI cJ cZ cB cT h) H → va_D A (wM m0 r cI cJ cZ cB cT h) → va_S A s.heap H locs → lv_has ls 6 [(0, .ref m0), (1, .int x1), (2, .int x2), (3, .int x3)] → W p l e (gRm 5) s m args below meth c H locs 0 0 (MQ below (va_Qv (fun (_ : Unit) => True) (gB G (fun (_ : Unit) => (wM m0 r cI cJ cZ cB cT hh)) A) A) args s 0 0 A) (F0 m 67 ls []) := by
        intro n_67
        induction n_67 with
        | zero =>
          intro h x1 x2 x3 hF
          exact absurd hF (by simp [f_X9_laysFlock_67])
        | succ n_67 ih_67 =>
          intro h x1 x2 x3 hF H locs ls hP hD hS hl
          rw [f_X9_laysFlock_67_s] at hF
          refine lv_iload_n hx hb dX9_laysFlock_67 rfl (lv_at hl 3 rfl) ?_
          refine lv_iconst (v := 3) hx hb dX9_laysFlock_68 (by decide) ?_
          refine lv_aload_n hx hb dX9_laysFlock_69 rfl (lv_at hl 0 rfl) ?_
          refine va_get (D := G) (ci := 9) (v := .ref (r 0)) (C := RX9) (T := TX9) (N := 53) hx hb hts iX9 hown hK hP 0 wM_at0 rfl 0 (by decide) (hts _ m_92) (fun _ h9 => h9) rfl dX9_laysFlock_70 ?_
          refine lv_iconst (v := 0) hx hb dX9_laysFlock_73 (by decide) ?_
          refine va_iald (D := G) hx hb hK hP 1 0 wM_at1 rfl (vp_in_nI (n := 0) (by decide) (by decide)) dX9_laysFlock_74 ?_
          refine gw_topi (y := ((eA h 0 0) 0)) rfl ?_
          refine lv_imul hx hb dX9_laysFlock_75 ?_
          refine lv_icmp_ge (tgt := 188) hx hb dX9_laysFlock_76 (by decide) (fun c_9 => ?_) (fun c_9 => ?_)
          · have hF := ob_pos c_9 hF
            exact hJ_188 h x1 x2 hF H _ ls hP hD hS (lv_sub hl [0, 1, 2] rfl)
          · have hF := ob_neg c_9 hF
            refine lv_iload_n hx hb dX9_laysFlock_79 rfl (lv_at hl 3 rfl) ?_
            refine lv_iconst (v := 3) hx hb dX9_laysFlock_80 (by decide) ?_
            refine lv_idiv hx hb dX9_laysFlock_81 (by decide) ?_
            refine lv_istore (lv' := [(4, .int (x3 / 3)), (0, .ref m0), (1, .int x1), (2, .int x2), (3, .int x3)]) hx hb dX9_laysFlock_82 hl (by decide) rfl (fun ls hl => ?_)
            refine lv_aload_n hx hb dX9_laysFlock_84 rfl (lv_at hl 1 rfl) ?_
            refine va_get (D := G) (ci := 9) (v := .ref (r 0)) (C := RX9) (T := TX9) (N := 53) hx hb hts iX9 hown hK hP 0 wM_at0 rfl 0 (by decide) (hts _ m_92) (fun _ h9 => h9) rfl dX9_laysFlock_85 ?_
            refine lv_bipush (v := 121) hx hb dX9_laysFlock_88 (by decide) ?_
            refine va_iald (D := G) hx hb hK hP 1 0 wM_at1 rfl (vp_in_nI (n := 121) (by decide) (by decide)) dX9_laysFlock_90 ?_
            refine gw_topi (y := ((eA h 0 0) 121)) rfl ?_
            refine lv_aload_n hx hb dX9_laysFlock_91 rfl (lv_at hl 1 rfl) ?_
            refine va_get (D := G) (ci := 9) (v := .ref (r 0)) (C := RX9) (T := TX9) (N := 53) hx hb hts iX9 hown hK hP 0 wM_at0 rfl 0 (by decide) (hts _ m_92) (fun _ h9 => h9) rfl dX9_laysFlock_92 ?_
            refine lv_bipush (v := 10) hx hb dX9_laysFlock_95 (by decide) ?_
            refine lv_iconst (v := 3) hx hb dX9_laysFlock_97 (by decide) ?_
            refine lv_iload hx hb dX9_laysFlock_98 (lv_at hl 0 rfl) ?_
            refine lv_imul hx hb dX9_laysFlock_100 ?_
            refine lv_iadd hx hb dX9_laysFlock_101 ?_
            obtain ⟨hi_10, hF⟩ := ob_if hF
            refine va_iald (D := G) hx hb hK hP 1 0 wM_at1 rfl (vp_in_iff.mpr hi_10) dX9_laysFlock_102 ?_
            refine gw_topi (y := ((eA h 0 0) (((10 + (3 * (x3 / 3)))).toNatClampNeg))) rfl ?_
            refine lv_iadd hx hb dX9_laysFlock_103 ?_
            refine lv_istore (lv' := [(5, .int (((eA h 0 0) 121) + ((eA h 0 0) (((10 + (3 * (x3 / 3)))).toNatClampNeg)))), (4, .int (x3 / 3)), (0, .ref m0), (1, .int x1), (2, .int x2), (3, .int x3)]) hx hb dX9_laysFlock_104 hl (by decide) rfl (fun ls hl => ?_)
            refine lv_aload_n hx hb dX9_laysFlock_106 rfl (lv_at hl 2 rfl) ?_
            refine va_get (D := G) (ci := 9) (v := .ref (r 43)) (C := RX9) (T := TX9) (N := 53) hx hb hts iX9 hown hK hP 0 wM_at0 rfl 43 (by decide) (hts _ m_377) (fun _ h9 => h9) rfl dX9_laysFlock_107 ?_
            refine lv_bipush (v := 12) hx hb dX9_laysFlock_110 (by decide) ?_
            refine lv_iload_n hx hb dX9_laysFlock_112 rfl (lv_at hl 4 rfl) ?_
            refine lv_imul hx hb dX9_laysFlock_113 ?_
            refine lv_iload_n hx hb dX9_laysFlock_114 rfl (lv_at hl 5 rfl) ?_
            refine lv_iadd hx hb dX9_laysFlock_115 ?_
            refine lv_aload_n hx hb dX9_laysFlock_116 rfl (lv_at hl 2 rfl) ?_
            refine lv_iconst (v := 0) hx hb dX9_laysFlock_117 (by decide) ?_
            refine lv_iload_n hx hb dX9_laysFlock_118 rfl (lv_at hl 4 rfl) ?_
            refine lv_iload_n hx hb dX9_laysFlock_119 rfl (lv_at hl 3 rfl) ?_
            refine lv_iload_n hx hb dX9_laysFlock_120 rfl (lv_at hl 5 rfl) ?_
            refine lv_iconst (v := 3) hx hb dX9_laysFlock_121 (by decide) ?_
            refine lv_irem hx hb dX9_laysFlock_122 (by decide) ?_
            refine lv_iload hx hb dX9_laysFlock_123 (lv_at hl 1 rfl) ?_
            refine lv_iload hx hb dX9_laysFlock_125 (lv_at hl 0 rfl) ?_
            obtain ⟨r_11, h_11, e_11, hF⟩ := ob2_some hF
            refine gx_calli (gx_runV (As := [.int 0, .int x2, .int x1, .int (x3 - x3 / 3 * 3), .int (x3 / 3), .int (((eA h 0 0) 121) + ((eA h 0 0) (((10 + (3 * (x3 / 3)))).toNatClampNeg)))]) (rest := [.int ((12 * x2) + x3), .ref (r 43)]) ⟨hx, hb, hml, hown, hts⟩ (c_X9_marketTells l G cI cJ cZ cB cT m0 r h 0 x2 x1 (x3 - x3 / 3 * 3) (x3 / 3) (((eA h 0 0) 121) + ((eA h 0 0) (((10 + (3 * (x3 / 3)))).toNatClampNeg))) r_11 h_11 e_11 H.size) (gG_V m_297 m_298 m_299 m_64 m_296) rfl e_X9_marketTells ⟨Nat.le_of_ble_eq_true rfl, Nat.le_of_ble_eq_true rfl⟩ hK hP hD hE hS hA 0 wM_at0 rfl rfl hl.1 rfl (Nat.le_of_ble_eq_true rfl) dX9_laysFlock_127 ⟨Nat.le_refl _, Nat.le_refl _⟩) hP hD hS hA (fun x_11 u_11 H locs hw_11 hP hD hS => ?_)
            subst x_11
            obtain ⟨hi_12, hF⟩ := ob_if hF
            refine va_iast (D := G) hx hb hK hP hD hS 27 0 wM_at27 rfl (vp_in_iff.mpr hi_12) dX9_laysFlock_130 (fun H locs hP hD hS => ?_)
            rw [wM_sA27] at hP hD
            have hP : va_P G vwCl (wM m0 r cI cJ cZ cB cT (sA h_11 0 43 (upd (eA h_11 0 43) ((((12 * x2) + x3)).toNatClampNeg) r_11))) H := hP
            have hD : va_D A (wM m0 r cI cJ cZ cB cT (sA h_11 0 43 (upd (eA h_11 0 43) ((((12 * x2) + x3)).toNatClampNeg) r_11))) := hD
            refine lv_aload_n hx hb dX9_laysFlock_131 rfl (lv_at hl 2 rfl) ?_
            refine va_get (D := G) (ci := 9) (v := .ref (r 44)) (C := RX9) (T := TX9) (N := 53) hx hb hts iX9 hown hK hP 0 wM_at0 rfl 44 (by decide) (hts _ m_378) (fun _ h9 => h9) rfl dX9_laysFlock_132 ?_
            refine lv_bipush (v := 12) hx hb dX9_laysFlock_135 (by decide) ?_
            refine lv_iload_n hx hb dX9_laysFlock_137 rfl (lv_at hl 4 rfl) ?_
            refine lv_imul hx hb dX9_laysFlock_138 ?_
            refine lv_iload_n hx hb dX9_laysFlock_139 rfl (lv_at hl 5 rfl) ?_
            refine lv_iadd hx hb dX9_laysFlock_140 ?_
            refine lv_aload_n hx hb dX9_laysFlock_141 rfl (lv_at hl 2 rfl) ?_
            refine lv_iconst (v := 1) hx hb dX9_laysFlock_142 (by decide) ?_
            refine lv_iload_n hx hb dX9_laysFlock_143 rfl (lv_at hl 4 rfl) ?_
            refine lv_iload_n hx hb dX9_laysFlock_144 rfl (lv_at hl 3 rfl) ?_
            refine lv_iload_n hx hb dX9_laysFlock_145 rfl (lv_at hl 5 rfl) ?_
            refine lv_iconst (v := 3) hx hb dX9_laysFlock_146 (by decide) ?_
            refine lv_irem hx hb dX9_laysFlock_147 (by decide) ?_
            refine lv_iload hx hb dX9_laysFlock_148 (lv_at hl 1 rfl) ?_
            refine lv_iload hx hb dX9_laysFlock_150 (lv_at hl 0 rfl) ?_
            obtain ⟨r_13, h_13, e_13, hF⟩ := ob2_some hF
            refine gx_calli (gx_runV (As := [.int 1, .int x2, .int x1, .int (x3 - x3 / 3 * 3), .int (x3 / 3), .int (((eA h 0 0) 121) + ((eA h 0 0) (((10 + (3 * (x3 / 3)))).toNatClampNeg)))]) (rest := [.int ((12 * x2) + x3), .ref (r 44)]) ⟨hx, hb, hml, hown, hts⟩ (c_X9_marketTells l G cI cJ cZ cB cT m0 r (sA h_11 0 43 (upd (eA h_11 0 43) ((((12 * x2) + x3)).toNatClampNeg) r_11)) 1 x2 x1 (x3 - x3 / 3 * 3) (x3 / 3) (((eA h 0 0) 121) + ((eA h 0 0) (((10 + (3 * (x3 / 3)))).toNatClampNeg))) r_13 h_13 e_13 H.size) (gG_V m_297 m_298 m_299 m_64 m_296) rfl e_X9_marketTells ⟨Nat.le_of_ble_eq_true rfl, Nat.le_of_ble_eq_true rfl⟩ hK hP hD hE hS hA 0 wM_at0 rfl rfl hl.1 rfl (Nat.le_of_ble_eq_true rfl) dX9_laysFlock_152 ⟨Nat.le_refl _, Nat.le_refl _⟩) hP hD hS hA (fun x_13 u_13 H locs hw_13 hP hD hS => ?_)
            subst x_13
            obtain ⟨hi_14, hF⟩ := ob_if hF
            refine va_iast (D := G) hx hb hK hP hD hS 28 0 wM_at28 rfl (vp_in_iff.mpr hi_14) dX9_laysFlock_155 (fun H locs hP hD hS => ?_)
            rw [wM_sA28] at hP hD
            have hP : va_P G vwCl (wM m0 r cI cJ cZ cB cT (sA h_13 0 44 (upd (eA h_13 0 44) ((((12 * x2) + x3)).toNatClampNeg) r_13))) H := hP
            have hD : va_D A (wM m0 r cI cJ cZ cB cT (sA h_13 0 44 (upd (eA h_13 0 44) ((((12 * x2) + x3)).toNatClampNeg) r_13))) := hD
            refine lv_aload_n hx hb dX9_laysFlock_156 rfl (lv_at hl 2 rfl) ?_
            refine va_get (D := G) (ci := 9) (v := .ref (r 45)) (C := RX9) (T := TX9) (N := 53) hx hb hts iX9 hown hK hP 0 wM_at0 rfl 45 (by decide) (hts _ m_379) (fun _ h9 => h9) rfl dX9_laysFlock_157 ?_
            refine lv_bipush (v := 12) hx hb dX9_laysFlock_160 (by decide) ?_
            refine lv_iload_n hx hb dX9_laysFlock_162 rfl (lv_at hl 4 rfl) ?_
            refine lv_imul hx hb dX9_laysFlock_163 ?_
            refine lv_iload_n hx hb dX9_laysFlock_164 rfl (lv_at hl 5 rfl) ?_
            refine lv_iadd hx hb dX9_laysFlock_165 ?_
            refine lv_aload_n hx hb dX9_laysFlock_166 rfl (lv_at hl 2 rfl) ?_
            refine lv_iload_n hx hb dX9_laysFlock_167 rfl (lv_at hl 4 rfl) ?_
            refine lv_iload_n hx hb dX9_laysFlock_168 rfl (lv_at hl 3 rfl) ?_
            refine lv_iload_n hx hb dX9_laysFlock_169 rfl (lv_at hl 5 rfl) ?_
            refine lv_iconst (v := 3) hx hb dX9_laysFlock_170 (by decide) ?_
            refine lv_irem hx hb dX9_laysFlock_171 (by decide) ?_
            refine lv_aload_n hx hb dX9_laysFlock_172 rfl (lv_at hl 2 rfl) ?_
            refine lv_iload_n hx hb dX9_laysFlock_173 rfl (lv_at hl 4 rfl) ?_
            refine lv_iconst (v := 1) hx hb dX9_laysFlock_174 (by decide) ?_
            obtain ⟨r_15, h_15, e_15, hF⟩ := ob2_some hF
            refine gx_calli (gx_runV (As := [.int x2, .int 1]) (rest := [.int (x3 - x3 / 3 * 3), .int x1, .int x2, .ref m0, .int ((12 * x2) + x3), .ref (r 45)]) ⟨hx, hb, hml, hown, hts⟩ (c_X9_ofGoose l G cI cJ cZ cB cT m0 r (sA h_13 0 44 (upd (eA h_13 0 44) ((((12 * x2) + x3)).toNatClampNeg) r_13)) x2 1 r_15 h_15 e_15 H.size) (gG_V m_103 m_104 m_105 m_64 m_102) rfl e_X9_ofGoose ⟨Nat.le_of_ble_eq_true rfl, Nat.le_of_ble_eq_true rfl⟩ hK hP hD hE hS hA 0 wM_at0 rfl rfl hl.1 rfl (Nat.le_of_ble_eq_true rfl) dX9_laysFlock_175 ⟨Nat.le_refl _, Nat.le_refl _⟩) hP hD hS hA (fun x_15 u_15 H locs hw_15 hP hD hS => ?_)
            subst x_15
            obtain ⟨r_16, h_16, e_16, hF⟩ := ob2_some hF
            refine gx_calli (gx_runV (As := [.int x2, .int x1, .int (x3 - x3 / 3 * 3), .int r_15]) (rest := [.int ((12 * x2) + x3), .ref (r 45)]) ⟨hx, hb, hml, hown, hts⟩ (c_X9_isTrueBy l G cI cJ cZ cB cT m0 r h_15 x2 x1 (x3 - x3 / 3 * 3) r_15 r_16 h_16 e_16 H.size) (gG_V m_301 m_302 m_303 m_64 m_300) rfl e_X9_isTrueBy ⟨Nat.le_of_ble_eq_true rfl, Nat.le_of_ble_eq_true rfl⟩ hK hP hD hE hS hA 0 wM_at0 rfl rfl hl.1 rfl (Nat.le_of_ble_eq_true rfl) dX9_laysFlock_178 ⟨Nat.le_refl _, Nat.le_refl _⟩) hP hD hS hA (fun x_16 u_16 H locs hw_16 hP hD hS => ?_)
            subst x_16
            obtain ⟨hi_17, hF⟩ := ob_if hF
            refine va_zast (D := G) hx hb hK hP hD hS 29 2 wM_at29 rfl (vp_in_iff.mpr hi_17) dX9_laysFlock_181 (fun H locs hP hD hS => ?_)
            rw [wM_sA29] at hP hD
            have hP : va_P G vwCl (wM m0 r cI cJ cZ cB cT (sA h_16 0 45 (upd (eA h_16 0 45) ((((12 * x2) + x3)).toNatClampNeg) (vp_nar .boolean r_16)))) H := hP
            have hD : va_D A (wM m0 r cI cJ cZ cB cT (sA h_16 0 45 (upd (eA h_16 0 45) ((((12 * x2) + x3)).toNatClampNeg) (vp_nar .boolean r_16)))) := hD
            refine lv_iinc (v := (x3 + 1)) (lv' := [(3, .int (x3 + 1)), (5, .int (((eA h 0 0) 121) + ((eA h 0 0) (((10 + (3 * (x3 / 3)))).toNatClampNeg)))), (4, .int (x3 / 3)), (0, .ref m0), (1, .int x1), (2, .int x2)]) hx hb dX9_laysFlock_182 hl (k := 5) rfl rfl (by decide) rfl (fun ls hl => ?_)
            refine lv_goto (tgt := 67) hx hb dX9_laysFlock_185 (by decide) ?_
            exact ih_67 (sA h_16 0 45 (upd (eA h_16 0 45) ((((12 * x2) + x3)).toNatClampNeg) (vp_nar .boolean r_16))) x1 x2 (x3 + 1) hF H _ ls hP hD hS (lv_sub hl [3, 4, 5, 0] rfl)
      intro h x1 x2 hF H locs ls hP hD hS hl
      rw [f_X9_laysFlock_7_s] at hF
      refine lv_iload_n hx hb dX9_laysFlock_7 rfl (lv_at hl 2 rfl) ?_
      refine lv_aload_n hx hb dX9_laysFlock_8 rfl (lv_at hl 0 rfl) ?_
      refine va_get (D := G) (ci := 9) (v := .ref (r 0)) (C := RX9) (T := TX9) (N := 53) hx hb hts iX9 hown hK hP 0 wM_at0 rfl 0 (by decide) (hts _ m_92) (fun _ h9 => h9) rfl dX9_laysFlock_9 ?_
      refine lv_iconst (v := 1) hx hb dX9_laysFlock_12 (by decide) ?_
      refine va_iald (D := G) hx hb hK hP 1 0 wM_at1 rfl (vp_in_nI (n := 1) (by decide) (by decide)) dX9_laysFlock_13 ?_
      refine gw_topi (y := ((eA h 0 0) 1)) rfl ?_
      refine lv_icmp_ge (tgt := 194) hx hb dX9_laysFlock_14 (by decide) (fun c_1 => ?_) (fun c_1 => ?_)
      · have hF := ob_pos c_1 hF
        obtain rfl := ob_one hF
        exact gw_vret () hx hb hr hlocks hP hD hS trivial dX9_laysFlock_194
      · have hF := ob_neg c_1 hF
        refine lv_aload_n hx hb dX9_laysFlock_17 rfl (lv_at hl 0 rfl) ?_
        refine lv_iload_n hx hb dX9_laysFlock_18 rfl (lv_at hl 2 rfl) ?_
        obtain ⟨r_2, h_2, e_2, hF⟩ := ob2_some hF
        refine gx_calli (gx_runV (As := [.int x2]) (rest := []) ⟨hx, hb, hml, hown, hts⟩ (c_X9_isHome l G cI cJ cZ cB cT m0 r h x2 r_2 h_2 e_2 H.size) (gG_V m_285 m_286 m_287 m_64 m_284) rfl e_X9_isHome ⟨Nat.le_of_ble_eq_true rfl, Nat.le_of_ble_eq_true rfl⟩ hK hP hD hE hS hA 0 wM_at0 rfl rfl hl.1 rfl (Nat.le_of_ble_eq_true rfl) dX9_laysFlock_19 ⟨Nat.le_refl _, Nat.le_refl _⟩) hP hD hS hA (fun x_2 u_2 H locs hw_2 hP hD hS => ?_)
        subst x_2
        refine lv_if_eq (tgt := 188) hx hb dX9_laysFlock_22 (by decide) (fun c_3 => ?_) (fun c_3 => ?_)
        · have hF := ob_pos c_3 hF
          exact hJ_188 h_2 x1 x2 hF H _ ls hP hD hS (lv_sub hl [0, 1, 2] rfl)
        · have hF := ob_neg c_3 hF
          refine lv_aload_n hx hb dX9_laysFlock_25 rfl (lv_at hl 0 rfl) ?_
          refine lv_iload_n hx hb dX9_laysFlock_26 rfl (lv_at hl 2 rfl) ?_
          refine lv_bipush (v := 8) hx hb dX9_laysFlock_27 (by decide) ?_
          obtain ⟨r_4, h_4, e_4, hF⟩ := ob2_some hF
          refine gx_calli (gx_runV (As := [.int x2, .int 8]) (rest := []) ⟨hx, hb, hml, hown, hts⟩ (c_X9_ofGoose l G cI cJ cZ cB cT m0 r h_2 x2 8 r_4 h_4 e_4 H.size) (gG_V m_103 m_104 m_105 m_64 m_102) rfl e_X9_ofGoose ⟨Nat.le_of_ble_eq_true rfl, Nat.le_of_ble_eq_true rfl⟩ hK hP hD hE hS hA 0 wM_at0 rfl rfl hl.1 rfl (Nat.le_of_ble_eq_true rfl) dX9_laysFlock_29 ⟨Nat.le_refl _, Nat.le_refl _⟩) hP hD hS hA (fun x_4 u_4 H locs hw_4 hP hD hS => ?_)
          subst x_4
          refine lv_if_ne (tgt := 188) hx hb dX9_laysFlock_32 (by decide) (fun c_5 => ?_) (fun c_5 => ?_)
          · have hF := ob_neg c_5 hF
            exact hJ_188 h_4 x1 x2 hF H _ ls hP hD hS (lv_sub hl [0, 1, 2] rfl)
          · have hF := ob_pos c_5 hF
            refine lv_aload_n hx hb dX9_laysFlock_35 rfl (lv_at hl 0 rfl) ?_
            refine lv_iload_n hx hb dX9_laysFlock_36 rfl (lv_at hl 2 rfl) ?_
            refine lv_iconst (v := 2) hx hb dX9_laysFlock_37 (by decide) ?_
            obtain ⟨r_6, h_6, e_6, hF⟩ := ob2_some hF
            refine gx_calli (gx_runV (As := [.int x2, .int 2]) (rest := []) ⟨hx, hb, hml, hown, hts⟩ (c_X9_ofGoose l G cI cJ cZ cB cT m0 r h_4 x2 2 r_6 h_6 e_6 H.size) (gG_V m_103 m_104 m_105 m_64 m_102) rfl e_X9_ofGoose ⟨Nat.le_of_ble_eq_true rfl, Nat.le_of_ble_eq_true rfl⟩ hK hP hD hE hS hA 0 wM_at0 rfl rfl hl.1 rfl (Nat.le_of_ble_eq_true rfl) dX9_laysFlock_38 ⟨Nat.le_refl _, Nat.le_refl _⟩) hP hD hS hA (fun x_6 u_6 H locs hw_6 hP hD hS => ?_)
            subst x_6
            refine lv_iconst (v := (-1)) hx hb dX9_laysFlock_41 (by decide) ?_
            refine lv_icmp_ne (tgt := 188) hx hb dX9_laysFlock_42 (by decide) (fun c_7 => ?_) (fun c_7 => ?_)
            · have hF := ob_neg c_7 hF
              exact hJ_188 h_6 x1 x2 hF H _ ls hP hD hS (lv_sub hl [0, 1, 2] rfl)
            · have hF := ob_pos c_7 hF
              refine lv_aload_n hx hb dX9_laysFlock_45 rfl (lv_at hl 0 rfl) ?_
              refine va_get (D := G) (ci := 9) (v := .ref (r 46)) (C := RX9) (T := TX9) (N := 53) hx hb hts iX9 hown hK hP 0 wM_at0 rfl 46 (by decide) (hts _ m_376) (fun _ h9 => h9) rfl dX9_laysFlock_46 ?_
              refine lv_aload_n hx hb dX9_laysFlock_49 rfl (lv_at hl 0 rfl) ?_
              refine va_get (D := G) (ci := 9) (v := .int (eI h_6 0 47)) (C := RX9) (T := TX9) (N := 53) hx hb hts iX9 hown hK hP 0 wM_at0 rfl 47 (by decide) (hts _ m_375) (fun _ h9 => h9) rfl dX9_laysFlock_50 ?_
              refine lv_iload_n hx hb dX9_laysFlock_53 rfl (lv_at hl 2 rfl) ?_
              obtain ⟨hi_8, hF⟩ := ob_if hF
              refine va_iast (D := G) hx hb hK hP hD hS 30 0 wM_at30 rfl (vp_in_iff.mpr hi_8) dX9_laysFlock_54 (fun H locs hP hD hS => ?_)
              rw [wM_sA30] at hP hD
              have hP : va_P G vwCl (wM m0 r cI cJ cZ cB cT (sA h_6 0 46 (upd (eA h_6 0 46) (((eI h_6 0 47)).toNatClampNeg) x2))) H := hP
              have hD : va_D A (wM m0 r cI cJ cZ cB cT (sA h_6 0 46 (upd (eA h_6 0 46) (((eI h_6 0 47)).toNatClampNeg) x2))) := hD
              refine lv_aload_n hx hb dX9_laysFlock_55 rfl (lv_at hl 0 rfl) ?_
              refine lv_dup hx hb dX9_laysFlock_56 rfl ?_
              refine va_get (D := G) (ci := 9) (v := .int (eI h_6 0 47)) (C := RX9) (T := TX9) (N := 53) hx hb hts iX9 hown hK hP 0 wM_at0 rfl 47 (by decide) (hts _ m_375) (fun _ h9 => h9) rfl dX9_laysFlock_57 ?_
              refine lv_iconst (v := 1) hx hb dX9_laysFlock_60 (by decide) ?_
              refine lv_iadd hx hb dX9_laysFlock_61 ?_
              refine va_put (D := G) (ci := 9) (v := .int ((eI h_6 0 47) + 1)) (ty := .int) (C := RX9) (T := TX9) (N := 53) hx hb hts iX9 tyX9 tyX9_ok nmX9 hown hK hP hD hS 0 wM_at0 rfl 47 (by decide) (hts _ m_375) (fun _ h9 => h9) rfl (tyX9_ok 47 (by decide)) rfl rfl (Nat.le_of_ble_eq_true rfl) dX9_laysFlock_62 (fun H locs hP hD hS => ?_)
              rw [wM_sI0_47] at hP hD
              refine lv_iconst (v := 0) hx hb dX9_laysFlock_65 (by decide) ?_
              refine lv_istore_n (lv' := [(3, .int 0), (0, .ref m0), (1, .int x1), (2, .int x2)]) hx hb dX9_laysFlock_66 rfl hl (by decide) rfl (fun ls hl => ?_)
              exact hJ_67 8589934592 (sI (sA h_6 0 46 (upd (eA h_6 0 46) (((eI h_6 0 47)).toNatClampNeg) x2)) 0 47 ((eI h_6 0 47) + 1)) x1 x2 0 hF H _ ls hP hD hS (lv_sub hl [1, 2, 3, 0] rfl)
  unfold f_X9_laysFlock at hF
  refine lv_aload_n hx hb dX9_laysFlock_0 rfl (lv_at hl 0 rfl) ?_
  refine lv_iconst (v := 0) hx hb dX9_laysFlock_1 (by decide) ?_
  refine va_put (D := G) (ci := 9) (v := .int 0) (ty := .int) (C := RX9) (T := TX9) (N := 53) hx hb hts iX9 tyX9 tyX9_ok nmX9 hown hK hP hD hS 0 wM_at0 rfl 47 (by decide) (hts _ m_375) (fun _ h9 => h9) rfl (tyX9_ok 47 (by decide)) rfl rfl (Nat.le_of_ble_eq_true rfl) dX9_laysFlock_2 (fun H locs hP hD hS => ?_)
  rw [wM_sI0_47] at hP hD
  refine lv_iconst (v := 0) hx hb dX9_laysFlock_5 (by decide) ?_
  refine lv_istore_n (lv' := [(2, .int 0), (0, .ref m0), (1, .int p1)]) hx hb dX9_laysFlock_6 rfl hl (by decide) rfl (fun ls hl => ?_)
  exact hJ_7 8589934592 (sI h 0 47 0) p1 0 hF H _ ls hP hD hS (lv_sub hl [1, 2, 0] rfl)
def f_X9_asksPlan_128 (h : HS) : Option HS := (some h)
def f_X9_asksPlan_138 : Nat → HS → Int32 → Int32 → Option HS
  | 0, _, _, _ => none
  | n + 1, h, x1, x7 => (if x1 ≤ x7 then (some h) else (if 0 ≤ (x7).toInt ∧ (x7).toInt < 3 then (if 0 ≤ (x7).toInt ∧ (x7).toInt < 3 then (if 0 ≤ (x7).toInt ∧ (x7).toInt < 3 then (if 0 ≤ (x7).toInt ∧ (x7).toInt < 3 then ((f_X9_asksPlan_138 n) (sA (sA h 0 50 (upd (eA h 0 50) ((x7).toNatClampNeg) ((eA h 0 48) ((x7).toNatClampNeg)))) 0 51 (upd (eA h 0 51) ((x7).toNatClampNeg) ((eA h 0 49) ((x7).toNatClampNeg)))) x1 (x7 + 1)) else none) else none) else none) else none))
theorem f_X9_asksPlan_138_s (n : Nat) (h : HS) (x1 : Int32) (x7 : Int32) : f_X9_asksPlan_138 (n + 1) h x1 x7 = (if x1 ≤ x7 then (some h) else (if 0 ≤ (x7).toInt ∧ (x7).toInt < 3 then (if 0 ≤ (x7).toInt ∧ (x7).toInt < 3 then (if 0 ≤ (x7).toInt ∧ (x7).toInt < 3 then (if 0 ≤ (x7).toInt ∧ (x7).toInt < 3 then ((f_X9_asksPlan_138 n) (sA (sA h 0 50 (upd (eA h 0 50) ((x7).toNatClampNeg) ((eA h 0 48) ((x7).toNatClampNeg)))) 0 51 (upd (eA h 0 51) ((x7).toNatClampNeg) ((eA h 0 49) ((x7).toNatClampNeg)))) x1 (x7 + 1)) else none) else none) else none) else none)) := rfl
def f_X9_asksPlan_129 (h : HS) (x1 : Int32) (x5 : Int64) : Option HS := (f_X9_asksPlan_138 8589934592 (sL h 0 52 x5) x1 0)
def f_X9_asksPlan_11 : Nat → HS → Int32 → Int32 → Int64 → Int32 → Option HS
  | 0, _, _, _, _, _ => none
  | n + 1, h, x1, x2, x3, x5 => (if x1 ≤ x5 then (ob2 (f_X9_manyOf h 1) (fun r_3 h_3 => (ob2 (f_X9_manyOf h_3 0) (fun r_4 h_4 => (if (lg_cmp (r_4 * 100) (x3 * ((x2).toInt64))) < 0 then (f_X9_asksPlan_128 h_4) else (if (lg_cmp (eL h_4 0 52) (-1)) = 0 then (f_X9_asksPlan_129 h_4 x1 r_3) else (if (lg_cmp r_3 (eL h_4 0 52)) < 0 then (f_X9_asksPlan_129 h_4 x1 r_3) else (f_X9_asksPlan_128 h_4)))))))) else (if 0 ≤ (x5).toInt ∧ (x5).toInt < 3 then (if 0 ≤ (x5).toInt ∧ (x5).toInt < 3 then (if 0 ≤ (((12 * ((eA h 0 48) ((x5).toNatClampNeg))) + ((eA h 0 49) ((x5).toNatClampNeg)))).toInt ∧ (((12 * ((eA h 0 48) ((x5).toNatClampNeg))) + ((eA h 0 49) ((x5).toNatClampNeg)))).toInt < 120 then (if 0 ≤ (((12 * ((eA h 0 48) ((x5).toNatClampNeg))) + ((eA h 0 49) ((x5).toNatClampNeg)))).toInt ∧ (((12 * ((eA h 0 48) ((x5).toNatClampNeg))) + ((eA h 0 49) ((x5).toNatClampNeg)))).toInt < 120 then (if 0 ≤ (x5).toInt ∧ (x5).toInt < 3 then (if 0 ≤ (((12 * ((eA h 0 48) ((x5).toNatClampNeg))) + ((eA h 0 49) ((x5).toNatClampNeg)))).toInt ∧ (((12 * ((eA h 0 48) ((x5).toNatClampNeg))) + ((eA h 0 49) ((x5).toNatClampNeg)))).toInt < 120 then (ob1 (f_X9_comesMany h ((eA h 0 43) ((((12 * ((eA h 0 48) ((x5).toNatClampNeg))) + ((eA h 0 49) ((x5).toNatClampNeg)))).toNatClampNeg)) ((eA h 0 44) ((((12 * ((eA h 0 48) ((x5).toNatClampNeg))) + ((eA h 0 49) ((x5).toNatClampNeg)))).toNatClampNeg)) (((eA h 0 49) ((x5).toNatClampNeg)) - ((eA h 0 49) ((x5).toNatClampNeg)) / 3 * 3) ((eA h 0 45) ((((12 * ((eA h 0 48) ((x5).toNatClampNeg))) + ((eA h 0 49) ((x5).toNatClampNeg)))).toNatClampNeg))) (fun h_14 => ((f_X9_asksPlan_11 n) h_14 x1 x2 (x3 * 100) (x5 + 1)))) else none) else none) else none) else none) else none) else none))
theorem f_X9_asksPlan_11_s (n : Nat) (h : HS) (x1 : Int32) (x2 : Int32) (x3 : Int64) (x5 : Int32) : f_X9_asksPlan_11 (n + 1) h x1 x2 x3 x5 = (if x1 ≤ x5 then (ob2 (f_X9_manyOf h 1) (fun r_3 h_3 => (ob2 (f_X9_manyOf h_3 0) (fun r_4 h_4 => (if (lg_cmp (r_4 * 100) (x3 * ((x2).toInt64))) < 0 then (f_X9_asksPlan_128 h_4) else (if (lg_cmp (eL h_4 0 52) (-1)) = 0 then (f_X9_asksPlan_129 h_4 x1 r_3) else (if (lg_cmp r_3 (eL h_4 0 52)) < 0 then (f_X9_asksPlan_129 h_4 x1 r_3) else (f_X9_asksPlan_128 h_4)))))))) else (if 0 ≤ (x5).toInt ∧ (x5).toInt < 3 then (if 0 ≤ (x5).toInt ∧ (x5).toInt < 3 then (if 0 ≤ (((12 * ((eA h 0 48) ((x5).toNatClampNeg))) + ((eA h 0 49) ((x5).toNatClampNeg)))).toInt ∧ (((12 * ((eA h 0 48) ((x5).toNatClampNeg))) + ((eA h 0 49) ((x5).toNatClampNeg)))).toInt < 120 then (if 0 ≤ (((12 * ((eA h 0 48) ((x5).toNatClampNeg))) + ((eA h 0 49) ((x5).toNatClampNeg)))).toInt ∧ (((12 * ((eA h 0 48) ((x5).toNatClampNeg))) + ((eA h 0 49) ((x5).toNatClampNeg)))).toInt < 120 then (if 0 ≤ (x5).toInt ∧ (x5).toInt < 3 then (if 0 ≤ (((12 * ((eA h 0 48) ((x5).toNatClampNeg))) + ((eA h 0 49) ((x5).toNatClampNeg)))).toInt ∧ (((12 * ((eA h 0 48) ((x5).toNatClampNeg))) + ((eA h 0 49) ((x5).toNatClampNeg)))).toInt < 120 then (ob1 (f_X9_comesMany h ((eA h 0 43) ((((12 * ((eA h 0 48) ((x5).toNatClampNeg))) + ((eA h 0 49) ((x5).toNatClampNeg)))).toNatClampNeg)) ((eA h 0 44) ((((12 * ((eA h 0 48) ((x5).toNatClampNeg))) + ((eA h 0 49) ((x5).toNatClampNeg)))).toNatClampNeg)) (((eA h 0 49) ((x5).toNatClampNeg)) - ((eA h 0 49) ((x5).toNatClampNeg)) / 3 * 3) ((eA h 0 45) ((((12 * ((eA h 0 48) ((x5).toNatClampNeg))) + ((eA h 0 49) ((x5).toNatClampNeg)))).toNatClampNeg))) (fun h_14 => ((f_X9_asksPlan_11 n) h_14 x1 x2 (x3 * 100) (x5 + 1)))) else none) else none) else none) else none) else none) else none)) := rfl
def f_X9_asksPlan (h : HS) (p1 : Int32) (p2 : Int32) : Option HS := (ob1 (f_X9_startsMany h 0 0) (fun h_1 => (f_X9_asksPlan_11 8589934592 h_1 p1 p2 1 0)))
set_option maxHeartbeats 4000000 in
set_option maxRecDepth 100000 in
theorem c_X9_asksPlan (l : Launch) (G : va_G) (cI cJ cZ cB cT : ClassId) (m0 : Nat) (r : Nat → Nat) (h : HS) (p1 : Int32) (p2 : Int32) (hh : HS) (hF : f_X9_asksPlan h p1 p2 = some hh) : gMv l yX9_asksPlan (gws yX9_asksPlan cX9_asksPlan 8 none) 3 G (gT cI cJ cZ cB cT) [.ref m0, .int p1, .int p2] (wM m0 r cI cJ cZ cB cT h) (fun (_ : Unit) => True) (fun (_ : Unit) => (wM m0 r cI cJ cZ cB cT hh)) := by
  intro sz
  refine gM_start (y := yX9_asksPlan) (av := [.ref m0, .int p1, .int p2]) (ws := (wM m0 r cI cJ cZ cB cT h)) (Qf := fun A => va_Qv (fun (_ : Unit) => True) (gB G (fun (_ : Unit) => (wM m0 r cI cJ cZ cB cT hh)) A) A) (cc := cX9_asksPlan) (maxL := 8) (ret := none) (by decide) (Nat.le_of_ble_eq_true rfl) ?_
  intro p e s m args below meth c A ls H hx hb hr hts hown hin hlocks hml hP hK hD hA hS hl hE
  have hl : lv_has ls 8 [(0, .ref m0), (1, .int p1), (2, .int p2)] := hl
  have hJ_128 : ∀ (h : HS), f_X9_asksPlan_128 h = some hh → ∀ (H : Heap) (locs : List Loc) (ls : Array Slot), va_P G vwCl (wM m0 r cI cJ cZ cB cT h) H → va_D A (wM m0 r cI cJ cZ cB cT h) → va_S A s.heap H locs → lv_has ls 8 [] → W p l e (gRm 3) s m args below meth c H locs 0 0 (MQ below (va_Qv (fun (_ : Unit) => True) (gB G (fun (_ : Unit) => (wM m0 r cI cJ cZ cB cT hh)) A) A) args s 0 0 A) (F0 m 128 ls []) := by
    intro h hF H locs ls hP hD hS hl
    unfold f_X9_asksPlan_128 at hF
    obtain rfl := ob_one hF
    exact gw_vret () hx hb hr hlocks hP hD hS trivial dX9_asksPlan_128
  have hJ_138 : ∀ (n_138 : Nat) (h : HS) (x1 : Int32) (x7 : Int32), f_X9_asksPlan_138 n_138 h x1 x7 = some hh → ∀ (H : Heap) (locs : List Loc) (ls : Array Slot), va_P G vwCl (wM m0 r cI cJ cZ cB cT h) H → va_D A (wM m0 r cI cJ cZ cB cT h) → va_S A s.heap H locs → lv_has ls 8 [(0, .ref m0), (1, .int x1), (7, .int x7)] → W p l e (gRm 3) s m args below meth c H locs 0 0 (MQ below (va_Qv (fun (_ : Unit) => True) (gB G (fun (_ : Unit) => (wM m0 r cI cJ cZ cB cT hh)) A) A) args s 0 0 A) (F0 m 138 ls []) := by
    intro n_138
    induction n_138 with
    | zero =>
      intro h x1 x7 hF
      exact absurd hF (by simp [f_X9_asksPlan_138])
    | succ n_138 ih_138 =>
      intro h x1 x7 hF H locs ls hP hD hS hl
      rw [f_X9_asksPlan_138_s] at hF
      refine lv_iload hx hb dX9_asksPlan_138 (lv_at hl 2 rfl) ?_
      refine lv_iload_n hx hb dX9_asksPlan_140 rfl (lv_at hl 1 rfl) ?_
      refine lv_icmp_ge (tgt := 178) hx hb dX9_asksPlan_141 (by decide) (fun c_15 => ?_) (fun c_15 => ?_)
      · have hF := ob_pos c_15 hF
        obtain rfl := ob_one hF
        exact gw_vret () hx hb hr hlocks hP hD hS trivial dX9_asksPlan_178
      · have hF := ob_neg c_15 hF
        refine lv_aload_n hx hb dX9_asksPlan_144 rfl (lv_at hl 0 rfl) ?_
        refine va_get (D := G) (ci := 9) (v := .ref (r 50)) (C := RX9) (T := TX9) (N := 53) hx hb hts iX9 hown hK hP 0 wM_at0 rfl 50 (by decide) (hts _ m_383) (fun _ h9 => h9) rfl dX9_asksPlan_145 ?_
        refine lv_iload hx hb dX9_asksPlan_148 (lv_at hl 2 rfl) ?_
        refine lv_aload_n hx hb dX9_asksPlan_150 rfl (lv_at hl 0 rfl) ?_
        refine va_get (D := G) (ci := 9) (v := .ref (r 48)) (C := RX9) (T := TX9) (N := 53) hx hb hts iX9 hown hK hP 0 wM_at0 rfl 48 (by decide) (hts _ m_381) (fun _ h9 => h9) rfl dX9_asksPlan_151 ?_
        refine lv_iload hx hb dX9_asksPlan_154 (lv_at hl 2 rfl) ?_
        obtain ⟨hi_16, hF⟩ := ob_if hF
        refine va_iald (D := G) hx hb hK hP 31 0 wM_at31 rfl (vp_in_iff.mpr hi_16) dX9_asksPlan_156 ?_
        refine gw_topi (y := ((eA h 0 48) ((x7).toNatClampNeg))) rfl ?_
        obtain ⟨hi_17, hF⟩ := ob_if hF
        refine va_iast (D := G) hx hb hK hP hD hS 33 0 wM_at33 rfl (vp_in_iff.mpr hi_17) dX9_asksPlan_157 (fun H locs hP hD hS => ?_)
        rw [wM_sA33] at hP hD
        have hP : va_P G vwCl (wM m0 r cI cJ cZ cB cT (sA h 0 50 (upd (eA h 0 50) ((x7).toNatClampNeg) ((eA h 0 48) ((x7).toNatClampNeg))))) H := hP
        have hD : va_D A (wM m0 r cI cJ cZ cB cT (sA h 0 50 (upd (eA h 0 50) ((x7).toNatClampNeg) ((eA h 0 48) ((x7).toNatClampNeg))))) := hD
        refine lv_aload_n hx hb dX9_asksPlan_158 rfl (lv_at hl 0 rfl) ?_
        refine va_get (D := G) (ci := 9) (v := .ref (r 51)) (C := RX9) (T := TX9) (N := 53) hx hb hts iX9 hown hK hP 0 wM_at0 rfl 51 (by decide) (hts _ m_384) (fun _ h9 => h9) rfl dX9_asksPlan_159 ?_
        refine lv_iload hx hb dX9_asksPlan_162 (lv_at hl 2 rfl) ?_
        refine lv_aload_n hx hb dX9_asksPlan_164 rfl (lv_at hl 0 rfl) ?_
        refine va_get (D := G) (ci := 9) (v := .ref (r 49)) (C := RX9) (T := TX9) (N := 53) hx hb hts iX9 hown hK hP 0 wM_at0 rfl 49 (by decide) (hts _ m_382) (fun _ h9 => h9) rfl dX9_asksPlan_165 ?_
        refine lv_iload hx hb dX9_asksPlan_168 (lv_at hl 2 rfl) ?_
        obtain ⟨hi_18, hF⟩ := ob_if hF
        refine va_iald (D := G) hx hb hK hP 32 0 wM_at32 rfl (vp_in_iff.mpr hi_18) dX9_asksPlan_170 ?_
        refine gw_topi (y := ((eA h 0 49) ((x7).toNatClampNeg))) rfl ?_
        obtain ⟨hi_19, hF⟩ := ob_if hF
        refine va_iast (D := G) hx hb hK hP hD hS 34 0 wM_at34 rfl (vp_in_iff.mpr hi_19) dX9_asksPlan_171 (fun H locs hP hD hS => ?_)
        rw [wM_sA34] at hP hD
        have hP : va_P G vwCl (wM m0 r cI cJ cZ cB cT (sA (sA h 0 50 (upd (eA h 0 50) ((x7).toNatClampNeg) ((eA h 0 48) ((x7).toNatClampNeg)))) 0 51 (upd (eA h 0 51) ((x7).toNatClampNeg) ((eA h 0 49) ((x7).toNatClampNeg))))) H := hP
        have hD : va_D A (wM m0 r cI cJ cZ cB cT (sA (sA h 0 50 (upd (eA h 0 50) ((x7).toNatClampNeg) ((eA h 0 48) ((x7).toNatClampNeg)))) 0 51 (upd (eA h 0 51) ((x7).toNatClampNeg) ((eA h 0 49) ((x7).toNatClampNeg))))) := hD
        refine lv_iinc (v := (x7 + 1)) (lv' := [(7, .int (x7 + 1)), (0, .ref m0), (1, .int x1)]) hx hb dX9_asksPlan_172 hl (k := 2) rfl rfl (by decide) rfl (fun ls hl => ?_)
        refine lv_goto (tgt := 138) hx hb dX9_asksPlan_175 (by decide) ?_
        exact ih_138 (sA (sA h 0 50 (upd (eA h 0 50) ((x7).toNatClampNeg) ((eA h 0 48) ((x7).toNatClampNeg)))) 0 51 (upd (eA h 0 51) ((x7).toNatClampNeg) ((eA h 0 49) ((x7).toNatClampNeg)))) x1 (x7 + 1) hF H _ ls hP hD hS (lv_sub hl [1, 2, 0] rfl)
  have hJ_129 : ∀ (h : HS) (x1 : Int32) (x5 : Int64), f_X9_asksPlan_129 h x1 x5 = some hh → ∀ (H : Heap) (locs : List Loc) (ls : Array Slot), va_P G vwCl (wM m0 r cI cJ cZ cB cT h) H → va_D A (wM m0 r cI cJ cZ cB cT h) → va_S A s.heap H locs → lv_has ls 8 [(0, .ref m0), (1, .int x1), (5, .long x5)] → W p l e (gRm 3) s m args below meth c H locs 0 0 (MQ below (va_Qv (fun (_ : Unit) => True) (gB G (fun (_ : Unit) => (wM m0 r cI cJ cZ cB cT hh)) A) A) args s 0 0 A) (F0 m 129 ls []) := by
    intro h x1 x5 hF H locs ls hP hD hS hl
    unfold f_X9_asksPlan_129 at hF
    refine lv_aload_n hx hb dX9_asksPlan_129 rfl (lv_at hl 0 rfl) ?_
    refine lv_lload hx hb dX9_asksPlan_130 (lv_at hl 2 rfl) ?_
    refine va_put (D := G) (ci := 9) (v := .long x5) (ty := .long) (C := RX9) (T := TX9) (N := 53) hx hb hts iX9 tyX9 tyX9_ok nmX9 hown hK hP hD hS 0 wM_at0 rfl 52 (by decide) (hts _ m_380) (fun _ h9 => h9) rfl (tyX9_ok 52 (by decide)) rfl rfl (Nat.le_of_ble_eq_true rfl) dX9_asksPlan_132 (fun H locs hP hD hS => ?_)
    rw [wM_sI0_52] at hP hD
    refine lv_iconst (v := 0) hx hb dX9_asksPlan_135 (by decide) ?_
    refine lv_istore (lv' := [(7, .int 0), (0, .ref m0), (1, .int x1), (5, .long x5)]) hx hb dX9_asksPlan_136 hl (by decide) rfl (fun ls hl => ?_)
    exact hJ_138 8589934592 (sL h 0 52 x5) x1 0 hF H _ ls hP hD hS (lv_sub hl [1, 2, 0] rfl)
  have hJ_11 : ∀ (n_11 : Nat) (h : HS) (x1 : Int32) (x2 : Int32) (x3 : Int64) (x5 : Int32), f_X9_asksPlan_11 n_11 h x1 x2 x3 x5 = some hh → ∀ (H : Heap) (locs : List Loc) (ls : Array Slot), va_P G vwCl (wM m0 r cI cJ cZ cB cT h) H → va_D A (wM m0 r cI cJ cZ cB cT h) → va_S A s.heap H locs → lv_has ls 8 [(0, .ref m0), (1, .int x1), (2, .int x2), (3, .long x3), (5, .int x5)] → W p l e (gRm 3) s m args below meth c H locs 0 0 (MQ below (va_Qv (fun (_ : Unit) => True) (gB G (fun (_ : Unit) => (wM m0 r cI cJ cZ cB cT hh)) A) A) args s 0 0 A) (F0 m 11 ls []) := by
    intro n_11
    induction n_11 with
    | zero =>
      intro h x1 x2 x3 x5 hF
      exact absurd hF (by simp [f_X9_asksPlan_11])
    | succ n_11 ih_11 =>
      intro h x1 x2 x3 x5 hF H locs ls hP hD hS hl
      rw [f_X9_asksPlan_11_s] at hF
      refine lv_iload hx hb dX9_asksPlan_11 (lv_at hl 4 rfl) ?_
      refine lv_iload_n hx hb dX9_asksPlan_13 rfl (lv_at hl 1 rfl) ?_
      refine lv_icmp_ge (tgt := 83) hx hb dX9_asksPlan_14 (by decide) (fun c_2 => ?_) (fun c_2 => ?_)
      · have hF := ob_pos c_2 hF
        refine lv_aload_n hx hb dX9_asksPlan_83 rfl (lv_at hl 0 rfl) ?_
        refine lv_iconst (v := 1) hx hb dX9_asksPlan_84 (by decide) ?_
        obtain ⟨r_3, h_3, e_3, hF⟩ := ob2_some hF
        refine gx_calll (gx_runV (As := [.int 1]) (rest := []) ⟨hx, hb, hml, hown, hts⟩ (c_X9_manyOf l G cI cJ cZ cB cT m0 r h 1 r_3 h_3 e_3 H.size) (gG_V m_367 m_368 m_369 m_64 m_366) rfl e_X9_manyOf ⟨Nat.le_of_ble_eq_true rfl, Nat.le_of_ble_eq_true rfl⟩ hK hP hD hE hS hA 0 wM_at0 rfl rfl hl.1 rfl (Nat.le_of_ble_eq_true rfl) dX9_asksPlan_85 ⟨Nat.le_refl _, Nat.le_refl _⟩) hP hD hS hA (fun x_3 u_3 H locs hw_3 hP hD hS => ?_)
        subst x_3
        refine lv_lstore (lv' := [(5, .long r_3), (0, .ref m0), (1, .int x1), (2, .int x2), (3, .long x3)]) hx hb dX9_asksPlan_88 hl (by decide) rfl (fun ls hl => ?_)
        refine lv_aload_n hx hb dX9_asksPlan_90 rfl (lv_at hl 1 rfl) ?_
        refine lv_iconst (v := 0) hx hb dX9_asksPlan_91 (by decide) ?_
        obtain ⟨r_4, h_4, e_4, hF⟩ := ob2_some hF
        refine gx_calll (gx_runV (As := [.int 0]) (rest := []) ⟨hx, hb, hml, hown, hts⟩ (c_X9_manyOf l G cI cJ cZ cB cT m0 r h_3 0 r_4 h_4 e_4 H.size) (gG_V m_367 m_368 m_369 m_64 m_366) rfl e_X9_manyOf ⟨Nat.le_of_ble_eq_true rfl, Nat.le_of_ble_eq_true rfl⟩ hK hP hD hE hS hA 0 wM_at0 rfl rfl hl.1 rfl (Nat.le_of_ble_eq_true rfl) dX9_asksPlan_92 ⟨Nat.le_refl _, Nat.le_refl _⟩) hP hD hS hA (fun x_4 u_4 H locs hw_4 hP hD hS => ?_)
        subst x_4
        refine lv_ldc2 (v := 100) hx hb hown (hts _ m_374) dX9_asksPlan_95 ?_
        refine lv_lmul hx hb dX9_asksPlan_98 ?_
        refine lv_lload_n hx hb dX9_asksPlan_99 rfl (lv_at hl 4 rfl) ?_
        refine lv_iload_n hx hb dX9_asksPlan_100 rfl (lv_at hl 3 rfl) ?_
        refine lv_i2l (v := (x2).toInt64) hx hb dX9_asksPlan_101 rfl ?_
        refine lv_lmul hx hb dX9_asksPlan_102 ?_
        refine W.lcmp hx hb dX9_asksPlan_103 ?_
        refine lv_if_lt (tgt := 128) hx hb dX9_asksPlan_104 (by decide) (fun c_5 => ?_) (fun c_5 => ?_)
        · have hF := ob_pos c_5 hF
          exact hJ_128 h_4 hF H _ ls hP hD hS (lv_sub hl [] rfl)
        · have hF := ob_neg c_5 hF
          refine lv_aload_n hx hb dX9_asksPlan_107 rfl (lv_at hl 1 rfl) ?_
          refine va_get (D := G) (ci := 9) (v := .long (eL h_4 0 52)) (C := RX9) (T := TX9) (N := 53) hx hb hts iX9 hown hK hP 0 wM_at0 rfl 52 (by decide) (hts _ m_380) (fun _ h9 => h9) rfl dX9_asksPlan_108 ?_
          refine lv_ldc2 (v := (-1)) hx hb hown (hts _ m_365) dX9_asksPlan_111 ?_
          refine W.lcmp hx hb dX9_asksPlan_114 ?_
          refine lv_if_eq (tgt := 129) hx hb dX9_asksPlan_115 (by decide) (fun c_6 => ?_) (fun c_6 => ?_)
          · have hF := ob_pos c_6 hF
            exact hJ_129 h_4 x1 r_3 hF H _ ls hP hD hS (lv_sub hl [1, 2, 0] rfl)
          · have hF := ob_neg c_6 hF
            refine lv_lload hx hb dX9_asksPlan_118 (lv_at hl 0 rfl) ?_
            refine lv_aload_n hx hb dX9_asksPlan_120 rfl (lv_at hl 1 rfl) ?_
            refine va_get (D := G) (ci := 9) (v := .long (eL h_4 0 52)) (C := RX9) (T := TX9) (N := 53) hx hb hts iX9 hown hK hP 0 wM_at0 rfl 52 (by decide) (hts _ m_380) (fun _ h9 => h9) rfl dX9_asksPlan_121 ?_
            refine W.lcmp hx hb dX9_asksPlan_124 ?_
            refine lv_if_lt (tgt := 129) hx hb dX9_asksPlan_125 (by decide) (fun c_7 => ?_) (fun c_7 => ?_)
            · have hF := ob_pos c_7 hF
              exact hJ_129 h_4 x1 r_3 hF H _ ls hP hD hS (lv_sub hl [1, 2, 0] rfl)
            · have hF := ob_neg c_7 hF
              exact hJ_128 h_4 hF H _ ls hP hD hS (lv_sub hl [] rfl)
      · have hF := ob_neg c_2 hF
        refine lv_bipush (v := 12) hx hb dX9_asksPlan_17 (by decide) ?_
        refine lv_aload_n hx hb dX9_asksPlan_19 rfl (lv_at hl 0 rfl) ?_
        refine va_get (D := G) (ci := 9) (v := .ref (r 48)) (C := RX9) (T := TX9) (N := 53) hx hb hts iX9 hown hK hP 0 wM_at0 rfl 48 (by decide) (hts _ m_381) (fun _ h9 => h9) rfl dX9_asksPlan_20 ?_
        refine lv_iload hx hb dX9_asksPlan_23 (lv_at hl 4 rfl) ?_
        obtain ⟨hi_8, hF⟩ := ob_if hF
        refine va_iald (D := G) hx hb hK hP 31 0 wM_at31 rfl (vp_in_iff.mpr hi_8) dX9_asksPlan_25 ?_
        refine gw_topi (y := ((eA h 0 48) ((x5).toNatClampNeg))) rfl ?_
        refine lv_imul hx hb dX9_asksPlan_26 ?_
        refine lv_aload_n hx hb dX9_asksPlan_27 rfl (lv_at hl 0 rfl) ?_
        refine va_get (D := G) (ci := 9) (v := .ref (r 49)) (C := RX9) (T := TX9) (N := 53) hx hb hts iX9 hown hK hP 0 wM_at0 rfl 49 (by decide) (hts _ m_382) (fun _ h9 => h9) rfl dX9_asksPlan_28 ?_
        refine lv_iload hx hb dX9_asksPlan_31 (lv_at hl 4 rfl) ?_
        obtain ⟨hi_9, hF⟩ := ob_if hF
        refine va_iald (D := G) hx hb hK hP 32 0 wM_at32 rfl (vp_in_iff.mpr hi_9) dX9_asksPlan_33 ?_
        refine gw_topi (y := ((eA h 0 49) ((x5).toNatClampNeg))) rfl ?_
        refine lv_iadd hx hb dX9_asksPlan_34 ?_
        refine lv_istore (lv' := [(6, .int ((12 * ((eA h 0 48) ((x5).toNatClampNeg))) + ((eA h 0 49) ((x5).toNatClampNeg)))), (0, .ref m0), (1, .int x1), (2, .int x2), (3, .long x3), (5, .int x5)]) hx hb dX9_asksPlan_35 hl (by decide) rfl (fun ls hl => ?_)
        refine lv_aload_n hx hb dX9_asksPlan_37 rfl (lv_at hl 1 rfl) ?_
        refine lv_aload_n hx hb dX9_asksPlan_38 rfl (lv_at hl 1 rfl) ?_
        refine va_get (D := G) (ci := 9) (v := .ref (r 43)) (C := RX9) (T := TX9) (N := 53) hx hb hts iX9 hown hK hP 0 wM_at0 rfl 43 (by decide) (hts _ m_377) (fun _ h9 => h9) rfl dX9_asksPlan_39 ?_
        refine lv_iload hx hb dX9_asksPlan_42 (lv_at hl 0 rfl) ?_
        obtain ⟨hi_10, hF⟩ := ob_if hF
        refine va_iald (D := G) hx hb hK hP 27 0 wM_at27 rfl (vp_in_iff.mpr hi_10) dX9_asksPlan_44 ?_
        refine gw_topi (y := ((eA h 0 43) ((((12 * ((eA h 0 48) ((x5).toNatClampNeg))) + ((eA h 0 49) ((x5).toNatClampNeg)))).toNatClampNeg))) rfl ?_
        refine lv_aload_n hx hb dX9_asksPlan_45 rfl (lv_at hl 1 rfl) ?_
        refine va_get (D := G) (ci := 9) (v := .ref (r 44)) (C := RX9) (T := TX9) (N := 53) hx hb hts iX9 hown hK hP 0 wM_at0 rfl 44 (by decide) (hts _ m_378) (fun _ h9 => h9) rfl dX9_asksPlan_46 ?_
        refine lv_iload hx hb dX9_asksPlan_49 (lv_at hl 0 rfl) ?_
        obtain ⟨hi_11, hF⟩ := ob_if hF
        refine va_iald (D := G) hx hb hK hP 28 0 wM_at28 rfl (vp_in_iff.mpr hi_11) dX9_asksPlan_51 ?_
        refine gw_topi (y := ((eA h 0 44) ((((12 * ((eA h 0 48) ((x5).toNatClampNeg))) + ((eA h 0 49) ((x5).toNatClampNeg)))).toNatClampNeg))) rfl ?_
        refine lv_aload_n hx hb dX9_asksPlan_52 rfl (lv_at hl 1 rfl) ?_
        refine va_get (D := G) (ci := 9) (v := .ref (r 49)) (C := RX9) (T := TX9) (N := 53) hx hb hts iX9 hown hK hP 0 wM_at0 rfl 49 (by decide) (hts _ m_382) (fun _ h9 => h9) rfl dX9_asksPlan_53 ?_
        refine lv_iload hx hb dX9_asksPlan_56 (lv_at hl 5 rfl) ?_
        obtain ⟨hi_12, hF⟩ := ob_if hF
        refine va_iald (D := G) hx hb hK hP 32 0 wM_at32 rfl (vp_in_iff.mpr hi_12) dX9_asksPlan_58 ?_
        refine gw_topi (y := ((eA h 0 49) ((x5).toNatClampNeg))) rfl ?_
        refine lv_iconst (v := 3) hx hb dX9_asksPlan_59 (by decide) ?_
        refine lv_irem hx hb dX9_asksPlan_60 (by decide) ?_
        refine lv_aload_n hx hb dX9_asksPlan_61 rfl (lv_at hl 1 rfl) ?_
        refine va_get (D := G) (ci := 9) (v := .ref (r 45)) (C := RX9) (T := TX9) (N := 53) hx hb hts iX9 hown hK hP 0 wM_at0 rfl 45 (by decide) (hts _ m_379) (fun _ h9 => h9) rfl dX9_asksPlan_62 ?_
        refine lv_iload hx hb dX9_asksPlan_65 (lv_at hl 0 rfl) ?_
        obtain ⟨hi_13, hF⟩ := ob_if hF
        refine va_zald (D := G) hx hb hK hP 29 2 wM_at29 rfl (vp_in_iff.mpr hi_13) dX9_asksPlan_67 ?_
        refine gw_topi (y := ((eA h 0 45) ((((12 * ((eA h 0 48) ((x5).toNatClampNeg))) + ((eA h 0 49) ((x5).toNatClampNeg)))).toNatClampNeg))) rfl ?_
        obtain ⟨h_14, e_14, hF⟩ := ob1_some hF
        refine gx_callv (gx_runV (As := [.int ((eA h 0 43) ((((12 * ((eA h 0 48) ((x5).toNatClampNeg))) + ((eA h 0 49) ((x5).toNatClampNeg)))).toNatClampNeg)), .int ((eA h 0 44) ((((12 * ((eA h 0 48) ((x5).toNatClampNeg))) + ((eA h 0 49) ((x5).toNatClampNeg)))).toNatClampNeg)), .int (((eA h 0 49) ((x5).toNatClampNeg)) - ((eA h 0 49) ((x5).toNatClampNeg)) / 3 * 3), .int ((eA h 0 45) ((((12 * ((eA h 0 48) ((x5).toNatClampNeg))) + ((eA h 0 49) ((x5).toNatClampNeg)))).toNatClampNeg))]) (rest := []) ⟨hx, hb, hml, hown, hts⟩ (c_X9_comesMany l G cI cJ cZ cB cT m0 r h ((eA h 0 43) ((((12 * ((eA h 0 48) ((x5).toNatClampNeg))) + ((eA h 0 49) ((x5).toNatClampNeg)))).toNatClampNeg)) ((eA h 0 44) ((((12 * ((eA h 0 48) ((x5).toNatClampNeg))) + ((eA h 0 49) ((x5).toNatClampNeg)))).toNatClampNeg)) (((eA h 0 49) ((x5).toNatClampNeg)) - ((eA h 0 49) ((x5).toNatClampNeg)) / 3 * 3) ((eA h 0 45) ((((12 * ((eA h 0 48) ((x5).toNatClampNeg))) + ((eA h 0 49) ((x5).toNatClampNeg)))).toNatClampNeg)) h_14 e_14 H.size) (gG_V m_371 m_372 m_373 m_64 m_370) rfl e_X9_comesMany ⟨Nat.le_of_ble_eq_true rfl, Nat.le_of_ble_eq_true rfl⟩ hK hP hD hE hS hA 0 wM_at0 rfl rfl hl.1 rfl (Nat.le_of_ble_eq_true rfl) dX9_asksPlan_68 ⟨Nat.le_refl _, Nat.le_refl _⟩) hP hD hS hA (fun u_14 H locs hw_14 hP hD hS => ?_)
        refine lv_lload_n hx hb dX9_asksPlan_71 rfl (lv_at hl 4 rfl) ?_
        refine lv_ldc2 (v := 100) hx hb hown (hts _ m_374) dX9_asksPlan_72 ?_
        refine lv_lmul hx hb dX9_asksPlan_75 ?_
        refine lv_lstore_n (lv' := [(3, .long (x3 * 100)), (6, .int ((12 * ((eA h 0 48) ((x5).toNatClampNeg))) + ((eA h 0 49) ((x5).toNatClampNeg)))), (0, .ref m0), (1, .int x1), (2, .int x2), (5, .int x5)]) hx hb dX9_asksPlan_76 rfl hl (by decide) rfl (fun ls hl => ?_)
        refine lv_iinc (v := (x5 + 1)) (lv' := [(5, .int (x5 + 1)), (3, .long (x3 * 100)), (6, .int ((12 * ((eA h 0 48) ((x5).toNatClampNeg))) + ((eA h 0 49) ((x5).toNatClampNeg)))), (0, .ref m0), (1, .int x1), (2, .int x2)]) hx hb dX9_asksPlan_77 hl (k := 5) rfl rfl (by decide) rfl (fun ls hl => ?_)
        refine lv_goto (tgt := 11) hx hb dX9_asksPlan_80 (by decide) ?_
        exact ih_11 h_14 x1 x2 (x3 * 100) (x5 + 1) hF H _ ls hP hD hS (lv_sub hl [3, 4, 5, 1, 0] rfl)
  unfold f_X9_asksPlan at hF
  refine lv_aload_n hx hb dX9_asksPlan_0 rfl (lv_at hl 0 rfl) ?_
  refine lv_iconst (v := 0) hx hb dX9_asksPlan_1 (by decide) ?_
  refine lv_iconst (v := 0) hx hb dX9_asksPlan_2 (by decide) ?_
  obtain ⟨h_1, e_1, hF⟩ := ob1_some hF
  refine gx_callv (gx_runV (As := [.int 0, .int 0]) (rest := []) ⟨hx, hb, hml, hown, hts⟩ (c_X9_startsMany l G cI cJ cZ cB cT m0 r h 0 0 h_1 e_1 H.size) (gG_V m_362 m_363 m_364 m_64 m_361) rfl e_X9_startsMany ⟨Nat.le_of_ble_eq_true rfl, Nat.le_of_ble_eq_true rfl⟩ hK hP hD hE hS hA 0 wM_at0 rfl rfl hl.1 rfl (Nat.le_of_ble_eq_true rfl) dX9_asksPlan_3 ⟨Nat.le_refl _, Nat.le_refl _⟩) hP hD hS hA (fun u_1 H locs hw_1 hP hD hS => ?_)
  refine lv_lconst (v := 1) hx hb dX9_asksPlan_6 (by decide) ?_
  refine lv_lstore_n (lv' := [(3, .long 1), (0, .ref m0), (1, .int p1), (2, .int p2)]) hx hb dX9_asksPlan_7 rfl hl (by decide) rfl (fun ls hl => ?_)
  refine lv_iconst (v := 0) hx hb dX9_asksPlan_8 (by decide) ?_
  refine lv_istore (lv' := [(5, .int 0), (3, .long 1), (0, .ref m0), (1, .int p1), (2, .int p2)]) hx hb dX9_asksPlan_9 hl (by decide) rfl (fun ls hl => ?_)
  exact hJ_11 8589934592 h_1 p1 p2 1 0 hF H _ ls hP hD hS (lv_sub hl [2, 3, 4, 1, 0] rfl)
def f_X9_triesDoings_46 (k31 : HS → Int32 → Int32 → Int32 → Int32 → Option HS) : Nat → HS → Int32 → Int32 → Int32 → Int32 → Int32 → Int32 → Option HS
  | 0, _, _, _, _, _, _, _ => none
  | n + 1, h, x1, x2, x3, x4, x5, x6 => (if x6 < 0 then (ob1 (f_X9_asksPlan h x1 x2) (fun h_4 => (k31 h_4 x1 x2 x3 (x4 + 1)))) else (if ¬ (3 * ((eA h 0 0) 0)) = 0 then (if 0 ≤ (x6).toInt ∧ (x6).toInt < 3 then (if ¬ (3 * ((eA h 0 0) 0)) = 0 then ((f_X9_triesDoings_46 k31 n) (sA h 0 49 (upd (eA h 0 49) ((x6).toNatClampNeg) (x5 - x5 / (3 * ((eA h 0 0) 0)) * (3 * ((eA h 0 0) 0))))) x1 x2 x3 x4 (x5 / (3 * ((eA h 0 0) 0))) (x6 + (-1))) else none) else none) else none))
theorem f_X9_triesDoings_46_s (k31 : HS → Int32 → Int32 → Int32 → Int32 → Option HS) (n : Nat) (h : HS) (x1 : Int32) (x2 : Int32) (x3 : Int32) (x4 : Int32) (x5 : Int32) (x6 : Int32) : f_X9_triesDoings_46 k31 (n + 1) h x1 x2 x3 x4 x5 x6 = (if x6 < 0 then (ob1 (f_X9_asksPlan h x1 x2) (fun h_4 => (k31 h_4 x1 x2 x3 (x4 + 1)))) else (if ¬ (3 * ((eA h 0 0) 0)) = 0 then (if 0 ≤ (x6).toInt ∧ (x6).toInt < 3 then (if ¬ (3 * ((eA h 0 0) 0)) = 0 then ((f_X9_triesDoings_46 k31 n) (sA h 0 49 (upd (eA h 0 49) ((x6).toNatClampNeg) (x5 - x5 / (3 * ((eA h 0 0) 0)) * (3 * ((eA h 0 0) 0))))) x1 x2 x3 x4 (x5 / (3 * ((eA h 0 0) 0))) (x6 + (-1))) else none) else none) else none)) := rfl
def f_X9_triesDoings_31 : Nat → HS → Int32 → Int32 → Int32 → Int32 → Option HS
  | 0, _, _, _, _, _ => none
  | n + 1, h, x1, x2, x3, x4 => (if x3 ≤ x4 then (some h) else (f_X9_triesDoings_46 (f_X9_triesDoings_31 n) 8589934592 h x1 x2 x3 x4 x4 (x1 - 1)))
theorem f_X9_triesDoings_31_s (n : Nat) (h : HS) (x1 : Int32) (x2 : Int32) (x3 : Int32) (x4 : Int32) : f_X9_triesDoings_31 (n + 1) h x1 x2 x3 x4 = (if x3 ≤ x4 then (some h) else (f_X9_triesDoings_46 (f_X9_triesDoings_31 n) 8589934592 h x1 x2 x3 x4 x4 (x1 - 1))) := rfl
def f_X9_triesDoings_5 : Nat → HS → Int32 → Int32 → Int32 → Int32 → Option HS
  | 0, _, _, _, _, _ => none
  | n + 1, h, x1, x2, x3, x4 => (if x1 ≤ x4 then (f_X9_triesDoings_31 8589934592 h x1 x2 x3 0) else ((f_X9_triesDoings_5 n) h x1 x2 ((x3 * 3) * ((eA h 0 0) 0)) (x4 + 1)))
theorem f_X9_triesDoings_5_s (n : Nat) (h : HS) (x1 : Int32) (x2 : Int32) (x3 : Int32) (x4 : Int32) : f_X9_triesDoings_5 (n + 1) h x1 x2 x3 x4 = (if x1 ≤ x4 then (f_X9_triesDoings_31 8589934592 h x1 x2 x3 0) else ((f_X9_triesDoings_5 n) h x1 x2 ((x3 * 3) * ((eA h 0 0) 0)) (x4 + 1))) := rfl
def f_X9_triesDoings (h : HS) (p1 : Int32) (p2 : Int32) : Option HS := (f_X9_triesDoings_5 8589934592 h p1 p2 1 0)
theorem e_X9_asksPlan : yX9_asksPlan.cls = RX9 ∧ yX9_asksPlan.cls ≠ "java/lang/invoke/MethodHandle" ∧ yX9_asksPlan.cls ≠ "java/lang/invoke/VarHandle" ∧ (parseMethodDescriptor yX9_asksPlan.desc).map (fun d => d.parameters.length) = some 2 := by decide +kernel
set_option maxHeartbeats 4000000 in
set_option maxRecDepth 100000 in
theorem c_X9_triesDoings (l : Launch) (G : va_G) (cI cJ cZ cB cT : ClassId) (m0 : Nat) (r : Nat → Nat) (h : HS) (p1 : Int32) (p2 : Int32) (hh : HS) (hF : f_X9_triesDoings h p1 p2 = some hh) : gMv l yX9_triesDoings (gws yX9_triesDoings cX9_triesDoings 7 none) 4 G (gT cI cJ cZ cB cT) [.ref m0, .int p1, .int p2] (wM m0 r cI cJ cZ cB cT h) (fun (_ : Unit) => True) (fun (_ : Unit) => (wM m0 r cI cJ cZ cB cT hh)) := by
  intro sz
  refine gM_start (y := yX9_triesDoings) (av := [.ref m0, .int p1, .int p2]) (ws := (wM m0 r cI cJ cZ cB cT h)) (Qf := fun A => va_Qv (fun (_ : Unit) => True) (gB G (fun (_ : Unit) => (wM m0 r cI cJ cZ cB cT hh)) A) A) (cc := cX9_triesDoings) (maxL := 7) (ret := none) (by decide) (Nat.le_of_ble_eq_true rfl) ?_
  intro p e s m args below meth c A ls H hx hb hr hts hown hin hlocks hml hP hK hD hA hS hl hE
  have hl : lv_has ls 7 [(0, .ref m0), (1, .int p1), (2, .int p2)] := hl
  have hJ_31 : ∀ (n_31 : Nat) (h : HS) (x1 : Int32) (x2 : Int32) (x3 : Int32) (x4 : Int32), f_X9_triesDoings_31 n_31 h x1 x2 x3 x4 = some hh → ∀ (H : Heap) (locs : List Loc) (ls : Array Slot), va_P G vwCl (wM m0 r cI cJ cZ cB cT h) H → va_D A (wM m0 r cI cJ cZ cB cT h) → va_S A s.heap H locs → lv_has ls 7 [(0, .ref m0), (1, .int x1), (2, .int x2), (3, .int x3), (4, .int x4)] → W p l e (gRm 4) s m args below meth c H locs 0 0 (MQ below (va_Qv (fun (_ : Unit) => True) (gB G (fun (_ : Unit) => (wM m0 r cI cJ cZ cB cT hh)) A) A) args s 0 0 A) (F0 m 31 ls []) := by
    intro n_31
    induction n_31 with
    | zero =>
      intro h x1 x2 x3 x4 hF
      exact absurd hF (by simp [f_X9_triesDoings_31])
    | succ n_31 ih_31 =>
      have hJ_46 : ∀ (n_46 : Nat) (h : HS) (x1 : Int32) (x2 : Int32) (x3 : Int32) (x4 : Int32) (x5 : Int32) (x6 : Int32), f_X9_triesDoings_46 (f_X9_triesDoings_31 n_31) n_46 h x1 x2 x3 x4 x5 x6 = some hh → ∀ (H : Heap) (locs : List Loc) (ls : Array Slot), va_P G vwCl (wM m0 r cI cJ cZ cB cT h) H → va_D A (wM m0 r cI cJ cZ cB cT h) → va_S A s.heap H locs → lv_has ls 7 [(0, .ref m0), (1, .int x1), (2, .int x2), (3, .int x3), (4, .int x4), (5, .int x5), (6, .int x6)] → W p l e (gRm 4) s m args below meth c H locs 0 0 (MQ below (va_Qv (fun (_ : Unit) => True) (gB G (fun (_ : Unit) => (wM m0 r cI cJ cZ cB cT hh)) A) A) args s 0 0 A) (F0 m 46 ls []) := by
        intro n_46
        induction n_46 with
        | zero =>
          intro h x1 x2 x3 x4 x5 x6 hF
          exact absurd hF (by simp [f_X9_triesDoings_46])
        | succ n_46 ih_46 =>
          intro h x1 x2 x3 x4 x5 x6 hF H locs ls hP hD hS hl
          rw [f_X9_triesDoings_46_s] at hF
          refine lv_iload hx hb dX9_triesDoings_46 (lv_at hl 6 rfl) ?_
          refine lv_if_lt (tgt := 88) hx hb dX9_triesDoings_48 (by decide) (fun c_3 => ?_) (fun c_3 => ?_)
          · have hF := ob_pos c_3 hF
            refine lv_aload_n hx hb dX9_triesDoings_88 rfl (lv_at hl 0 rfl) ?_
            refine lv_iload_n hx hb dX9_triesDoings_89 rfl (lv_at hl 1 rfl) ?_
            refine lv_iload_n hx hb dX9_triesDoings_90 rfl (lv_at hl 2 rfl) ?_
            obtain ⟨h_4, e_4, hF⟩ := ob1_some hF
            refine gx_callv (gx_runV (As := [.int x1, .int x2]) (rest := []) ⟨hx, hb, hml, hown, hts⟩ (c_X9_asksPlan l G cI cJ cZ cB cT m0 r h x1 x2 h_4 e_4 H.size) (gG_V m_386 m_387 m_388 m_64 m_385) rfl e_X9_asksPlan ⟨Nat.le_of_ble_eq_true rfl, Nat.le_of_ble_eq_true rfl⟩ hK hP hD hE hS hA 0 wM_at0 rfl rfl hl.1 rfl (Nat.le_of_ble_eq_true rfl) dX9_triesDoings_91 ⟨Nat.le_refl _, Nat.le_refl _⟩) hP hD hS hA (fun u_4 H locs hw_4 hP hD hS => ?_)
            refine lv_iinc (v := (x4 + 1)) (lv' := [(4, .int (x4 + 1)), (0, .ref m0), (1, .int x1), (2, .int x2), (3, .int x3), (5, .int x5), (6, .int x6)]) hx hb dX9_triesDoings_94 hl (k := 4) rfl rfl (by decide) rfl (fun ls hl => ?_)
            refine lv_goto (tgt := 31) hx hb dX9_triesDoings_97 (by decide) ?_
            exact ih_31 h_4 x1 x2 x3 (x4 + 1) hF H _ ls hP hD hS (lv_sub hl [1, 2, 3, 4, 0] rfl)
          · have hF := ob_neg c_3 hF
            refine lv_aload_n hx hb dX9_triesDoings_51 rfl (lv_at hl 0 rfl) ?_
            refine va_get (D := G) (ci := 9) (v := .ref (r 49)) (C := RX9) (T := TX9) (N := 53) hx hb hts iX9 hown hK hP 0 wM_at0 rfl 49 (by decide) (hts _ m_382) (fun _ h9 => h9) rfl dX9_triesDoings_52 ?_
            refine lv_iload hx hb dX9_triesDoings_55 (lv_at hl 6 rfl) ?_
            refine lv_iload hx hb dX9_triesDoings_57 (lv_at hl 5 rfl) ?_
            refine lv_iconst (v := 3) hx hb dX9_triesDoings_59 (by decide) ?_
            refine lv_aload_n hx hb dX9_triesDoings_60 rfl (lv_at hl 0 rfl) ?_
            refine va_get (D := G) (ci := 9) (v := .ref (r 0)) (C := RX9) (T := TX9) (N := 53) hx hb hts iX9 hown hK hP 0 wM_at0 rfl 0 (by decide) (hts _ m_92) (fun _ h9 => h9) rfl dX9_triesDoings_61 ?_
            refine lv_iconst (v := 0) hx hb dX9_triesDoings_64 (by decide) ?_
            refine va_iald (D := G) hx hb hK hP 1 0 wM_at1 rfl (vp_in_nI (n := 0) (by decide) (by decide)) dX9_triesDoings_65 ?_
            refine gw_topi (y := ((eA h 0 0) 0)) rfl ?_
            refine lv_imul hx hb dX9_triesDoings_66 ?_
            obtain ⟨hd_5, hF⟩ := ob_if hF
            refine lv_irem hx hb dX9_triesDoings_67 hd_5 ?_
            obtain ⟨hi_6, hF⟩ := ob_if hF
            refine va_iast (D := G) hx hb hK hP hD hS 32 0 wM_at32 rfl (vp_in_iff.mpr hi_6) dX9_triesDoings_68 (fun H locs hP hD hS => ?_)
            rw [wM_sA32] at hP hD
            have hP : va_P G vwCl (wM m0 r cI cJ cZ cB cT (sA h 0 49 (upd (eA h 0 49) ((x6).toNatClampNeg) (x5 - x5 / (3 * ((eA h 0 0) 0)) * (3 * ((eA h 0 0) 0)))))) H := hP
            have hD : va_D A (wM m0 r cI cJ cZ cB cT (sA h 0 49 (upd (eA h 0 49) ((x6).toNatClampNeg) (x5 - x5 / (3 * ((eA h 0 0) 0)) * (3 * ((eA h 0 0) 0)))))) := hD
            refine lv_iload hx hb dX9_triesDoings_69 (lv_at hl 5 rfl) ?_
            refine lv_iconst (v := 3) hx hb dX9_triesDoings_71 (by decide) ?_
            refine lv_aload_n hx hb dX9_triesDoings_72 rfl (lv_at hl 0 rfl) ?_
            refine va_get (D := G) (ci := 9) (v := .ref (r 0)) (C := RX9) (T := TX9) (N := 53) hx hb hts iX9 hown hK hP 0 wM_at0 rfl 0 (by decide) (hts _ m_92) (fun _ h9 => h9) rfl dX9_triesDoings_73 ?_
            refine lv_iconst (v := 0) hx hb dX9_triesDoings_76 (by decide) ?_
            refine va_iald (D := G) hx hb hK hP 1 0 wM_at1 rfl (vp_in_nI (n := 0) (by decide) (by decide)) dX9_triesDoings_77 ?_
            refine gw_topi (y := ((eA h 0 0) 0)) rfl ?_
            refine lv_imul hx hb dX9_triesDoings_78 ?_
            obtain ⟨hd_7, hF⟩ := ob_if hF
            refine lv_idiv hx hb dX9_triesDoings_79 hd_7 ?_
            refine lv_istore (lv' := [(5, .int (x5 / (3 * ((eA h 0 0) 0)))), (0, .ref m0), (1, .int x1), (2, .int x2), (3, .int x3), (4, .int x4), (6, .int x6)]) hx hb dX9_triesDoings_80 hl (by decide) rfl (fun ls hl => ?_)
            refine lv_iinc (v := (x6 + (-1))) (lv' := [(6, .int (x6 + (-1))), (5, .int (x5 / (3 * ((eA h 0 0) 0)))), (0, .ref m0), (1, .int x1), (2, .int x2), (3, .int x3), (4, .int x4)]) hx hb dX9_triesDoings_82 hl (k := 6) rfl rfl (by decide) rfl (fun ls hl => ?_)
            refine lv_goto (tgt := 46) hx hb dX9_triesDoings_85 (by decide) ?_
            exact ih_46 (sA h 0 49 (upd (eA h 0 49) ((x6).toNatClampNeg) (x5 - x5 / (3 * ((eA h 0 0) 0)) * (3 * ((eA h 0 0) 0))))) x1 x2 x3 x4 (x5 / (3 * ((eA h 0 0) 0))) (x6 + (-1)) hF H _ ls hP hD hS (lv_sub hl [2, 3, 4, 5, 6, 1, 0] rfl)
      intro h x1 x2 x3 x4 hF H locs ls hP hD hS hl
      rw [f_X9_triesDoings_31_s] at hF
      refine lv_iload hx hb dX9_triesDoings_31 (lv_at hl 4 rfl) ?_
      refine lv_iload_n hx hb dX9_triesDoings_33 rfl (lv_at hl 3 rfl) ?_
      refine lv_icmp_ge (tgt := 100) hx hb dX9_triesDoings_34 (by decide) (fun c_2 => ?_) (fun c_2 => ?_)
      · have hF := ob_pos c_2 hF
        obtain rfl := ob_one hF
        exact gw_vret () hx hb hr hlocks hP hD hS trivial dX9_triesDoings_100
      · have hF := ob_neg c_2 hF
        refine lv_iload hx hb dX9_triesDoings_37 (lv_at hl 4 rfl) ?_
        refine lv_istore (lv' := [(5, .int x4), (0, .ref m0), (1, .int x1), (2, .int x2), (3, .int x3), (4, .int x4)]) hx hb dX9_triesDoings_39 hl (by decide) rfl (fun ls hl => ?_)
        refine lv_iload_n hx hb dX9_triesDoings_41 rfl (lv_at hl 2 rfl) ?_
        refine lv_iconst (v := 1) hx hb dX9_triesDoings_42 (by decide) ?_
        refine lv_isub hx hb dX9_triesDoings_43 ?_
        refine lv_istore (lv' := [(6, .int (x1 - 1)), (5, .int x4), (0, .ref m0), (1, .int x1), (2, .int x2), (3, .int x3), (4, .int x4)]) hx hb dX9_triesDoings_44 hl (by decide) rfl (fun ls hl => ?_)
        exact hJ_46 8589934592 h x1 x2 x3 x4 x4 (x1 - 1) hF H _ ls hP hD hS (lv_sub hl [2, 3, 4, 5, 6, 1, 0] rfl)
  have hJ_5 : ∀ (n_5 : Nat) (h : HS) (x1 : Int32) (x2 : Int32) (x3 : Int32) (x4 : Int32), f_X9_triesDoings_5 n_5 h x1 x2 x3 x4 = some hh → ∀ (H : Heap) (locs : List Loc) (ls : Array Slot), va_P G vwCl (wM m0 r cI cJ cZ cB cT h) H → va_D A (wM m0 r cI cJ cZ cB cT h) → va_S A s.heap H locs → lv_has ls 7 [(0, .ref m0), (1, .int x1), (2, .int x2), (3, .int x3), (4, .int x4)] → W p l e (gRm 4) s m args below meth c H locs 0 0 (MQ below (va_Qv (fun (_ : Unit) => True) (gB G (fun (_ : Unit) => (wM m0 r cI cJ cZ cB cT hh)) A) A) args s 0 0 A) (F0 m 5 ls []) := by
    intro n_5
    induction n_5 with
    | zero =>
      intro h x1 x2 x3 x4 hF
      exact absurd hF (by simp [f_X9_triesDoings_5])
    | succ n_5 ih_5 =>
      intro h x1 x2 x3 x4 hF H locs ls hP hD hS hl
      rw [f_X9_triesDoings_5_s] at hF
      refine lv_iload hx hb dX9_triesDoings_5 (lv_at hl 4 rfl) ?_
      refine lv_iload_n hx hb dX9_triesDoings_7 rfl (lv_at hl 1 rfl) ?_
      refine lv_icmp_ge (tgt := 28) hx hb dX9_triesDoings_8 (by decide) (fun c_1 => ?_) (fun c_1 => ?_)
      · have hF := ob_pos c_1 hF
        refine lv_iconst (v := 0) hx hb dX9_triesDoings_28 (by decide) ?_
        refine lv_istore (lv' := [(4, .int 0), (0, .ref m0), (1, .int x1), (2, .int x2), (3, .int x3)]) hx hb dX9_triesDoings_29 hl (by decide) rfl (fun ls hl => ?_)
        exact hJ_31 8589934592 h x1 x2 x3 0 hF H _ ls hP hD hS (lv_sub hl [1, 2, 3, 4, 0] rfl)
      · have hF := ob_neg c_1 hF
        refine lv_iload_n hx hb dX9_triesDoings_11 rfl (lv_at hl 3 rfl) ?_
        refine lv_iconst (v := 3) hx hb dX9_triesDoings_12 (by decide) ?_
        refine lv_imul hx hb dX9_triesDoings_13 ?_
        refine lv_aload_n hx hb dX9_triesDoings_14 rfl (lv_at hl 0 rfl) ?_
        refine va_get (D := G) (ci := 9) (v := .ref (r 0)) (C := RX9) (T := TX9) (N := 53) hx hb hts iX9 hown hK hP 0 wM_at0 rfl 0 (by decide) (hts _ m_92) (fun _ h9 => h9) rfl dX9_triesDoings_15 ?_
        refine lv_iconst (v := 0) hx hb dX9_triesDoings_18 (by decide) ?_
        refine va_iald (D := G) hx hb hK hP 1 0 wM_at1 rfl (vp_in_nI (n := 0) (by decide) (by decide)) dX9_triesDoings_19 ?_
        refine gw_topi (y := ((eA h 0 0) 0)) rfl ?_
        refine lv_imul hx hb dX9_triesDoings_20 ?_
        refine lv_istore_n (lv' := [(3, .int ((x3 * 3) * ((eA h 0 0) 0))), (0, .ref m0), (1, .int x1), (2, .int x2), (4, .int x4)]) hx hb dX9_triesDoings_21 rfl hl (by decide) rfl (fun ls hl => ?_)
        refine lv_iinc (v := (x4 + 1)) (lv' := [(4, .int (x4 + 1)), (3, .int ((x3 * 3) * ((eA h 0 0) 0))), (0, .ref m0), (1, .int x1), (2, .int x2)]) hx hb dX9_triesDoings_22 hl (k := 4) rfl rfl (by decide) rfl (fun ls hl => ?_)
        refine lv_goto (tgt := 5) hx hb dX9_triesDoings_25 (by decide) ?_
        exact ih_5 h x1 x2 ((x3 * 3) * ((eA h 0 0) 0)) (x4 + 1) hF H _ ls hP hD hS (lv_sub hl [2, 3, 4, 1, 0] rfl)
  unfold f_X9_triesDoings at hF
  refine lv_iconst (v := 1) hx hb dX9_triesDoings_0 (by decide) ?_
  refine lv_istore_n (lv' := [(3, .int 1), (0, .ref m0), (1, .int p1), (2, .int p2)]) hx hb dX9_triesDoings_1 rfl hl (by decide) rfl (fun ls hl => ?_)
  refine lv_iconst (v := 0) hx hb dX9_triesDoings_2 (by decide) ?_
  refine lv_istore (lv' := [(4, .int 0), (3, .int 1), (0, .ref m0), (1, .int p1), (2, .int p2)]) hx hb dX9_triesDoings_3 hl (by decide) rfl (fun ls hl => ?_)
  exact hJ_5 8589934592 h p1 p2 1 0 hF H _ ls hP hD hS (lv_sub hl [2, 3, 4, 1, 0] rfl)
def f_X9_plansOf_167 (h : HS) (y0 : Int32) : Option (Int32 × HS) := (if y0 = 0 ∨ y0 = 1 then (some (y0, h)) else none)
def f_X9_plansOf_145 (k9 : HS → Int32 → Int32 → Int32 → Option (Int32 × HS)) (h : HS) (x1 : Int32) (x2 : Int32) (x3 : Int32) : Option (Int32 × HS) := (k9 h x1 x2 (x3 + 1))
def f_X9_plansOf_122 (k9 : HS → Int32 → Int32 → Int32 → Option (Int32 × HS)) (k25 : HS → Int32 → Int32 → Int32 → Int32 → Int32 → Int32 → Option (Int32 × HS)) (h : HS) (x1 : Int32) (x2 : Int32) (x3 : Int32) (x4 : Int32) (x5 : Int32) (x6 : Int32) : Option (Int32 × HS) := (k25 h x1 x2 x3 x4 x5 (x6 + 1))
def f_X9_plansOf_119 (k9 : HS → Int32 → Int32 → Int32 → Option (Int32 × HS)) (k25 : HS → Int32 → Int32 → Int32 → Int32 → Int32 → Int32 → Option (Int32 × HS)) (h : HS) (x1 : Int32) (x2 : Int32) (x3 : Int32) (x4 : Int32) (x5 : Int32) (x6 : Int32) : Option (Int32 × HS) := (f_X9_plansOf_122 k9 k25 h x1 x2 x3 (x4 + 1) x5 x6)
def f_X9_plansOf_102 (k9 : HS → Int32 → Int32 → Int32 → Option (Int32 × HS)) (k25 : HS → Int32 → Int32 → Int32 → Int32 → Int32 → Int32 → Option (Int32 × HS)) (h : HS) (x1 : Int32) (x2 : Int32) (x3 : Int32) (x4 : Int32) (x6 : Int32) (y0 : Int32) : Option (Int32 × HS) := (if 3 ≤ x4 then (f_X9_plansOf_119 k9 k25 h x1 x2 x3 x4 y0 x6) else (if 0 ≤ (x4).toInt ∧ (x4).toInt < 3 then (f_X9_plansOf_119 k9 k25 (sA h 0 48 (upd (eA h 0 48) ((x4).toNatClampNeg) x6)) x1 x2 x3 x4 y0 x6) else none))
def f_X9_plansOf_101 (k9 : HS → Int32 → Int32 → Int32 → Option (Int32 × HS)) (k25 : HS → Int32 → Int32 → Int32 → Int32 → Int32 → Int32 → Option (Int32 × HS)) (h : HS) (x1 : Int32) (x2 : Int32) (x3 : Int32) (x4 : Int32) (x6 : Int32) : Option (Int32 × HS) := (f_X9_plansOf_102 k9 k25 h x1 x2 x3 x4 x6 0)
def f_X9_plansOf_79 (k9 : HS → Int32 → Int32 → Int32 → Option (Int32 × HS)) (k25 : HS → Int32 → Int32 → Int32 → Int32 → Int32 → Int32 → Option (Int32 × HS)) (k48 : HS → Int32 → Int32 → Int32 → Int32 → Int32 → Int32 → Int32 → Int32 → Option (Int32 × HS)) (h : HS) (x1 : Int32) (x2 : Int32) (x3 : Int32) (x4 : Int32) (x5 : Int32) (x6 : Int32) (x8 : Int32) (y0 : Int32) : Option (Int32 × HS) := (k48 h x1 x2 x3 x4 x5 x6 y0 (x8 + 1))
def f_X9_plansOf_74 (k9 : HS → Int32 → Int32 → Int32 → Option (Int32 × HS)) (k25 : HS → Int32 → Int32 → Int32 → Int32 → Int32 → Int32 → Option (Int32 × HS)) (k48 : HS → Int32 → Int32 → Int32 → Int32 → Int32 → Int32 → Int32 → Int32 → Option (Int32 × HS)) (h : HS) (x1 : Int32) (x2 : Int32) (x3 : Int32) (x4 : Int32) (x5 : Int32) (x6 : Int32) (x8 : Int32) : Option (Int32 × HS) := (f_X9_plansOf_79 k9 k25 k48 h x1 x2 x3 x4 x5 x6 x8 1)
def f_X9_plansOf_48 (k9 : HS → Int32 → Int32 → Int32 → Option (Int32 × HS)) (k25 : HS → Int32 → Int32 → Int32 → Int32 → Int32 → Int32 → Option (Int32 × HS)) : Nat → HS → Int32 → Int32 → Int32 → Int32 → Int32 → Int32 → Int32 → Int32 → Option (Int32 × HS)
  | 0, _, _, _, _, _, _, _, _, _ => none
  | n + 1, h, x1, x2, x3, x4, x5, x6, x7, x8 => (if (eI h 0 47) ≤ x8 then (if x5 = 0 then (f_X9_plansOf_101 k9 k25 h x1 x2 x3 x4 x6) else (if x7 = 0 then (f_X9_plansOf_101 k9 k25 h x1 x2 x3 x4 x6) else (f_X9_plansOf_102 k9 k25 h x1 x2 x3 x4 x6 1))) else (if x7 = 0 then (if 0 ≤ (x8).toInt ∧ (x8).toInt < 10 then (if ((eA h 0 46) ((x8).toNatClampNeg)) = x6 then (f_X9_plansOf_74 k9 k25 (f_X9_plansOf_48 k9 k25 n) h x1 x2 x3 x4 x5 x6 x8) else (f_X9_plansOf_79 k9 k25 (f_X9_plansOf_48 k9 k25 n) h x1 x2 x3 x4 x5 x6 x8 0)) else none) else (f_X9_plansOf_74 k9 k25 (f_X9_plansOf_48 k9 k25 n) h x1 x2 x3 x4 x5 x6 x8)))
theorem f_X9_plansOf_48_s (k9 : HS → Int32 → Int32 → Int32 → Option (Int32 × HS)) (k25 : HS → Int32 → Int32 → Int32 → Int32 → Int32 → Int32 → Option (Int32 × HS)) (n : Nat) (h : HS) (x1 : Int32) (x2 : Int32) (x3 : Int32) (x4 : Int32) (x5 : Int32) (x6 : Int32) (x7 : Int32) (x8 : Int32) : f_X9_plansOf_48 k9 k25 (n + 1) h x1 x2 x3 x4 x5 x6 x7 x8 = (if (eI h 0 47) ≤ x8 then (if x5 = 0 then (f_X9_plansOf_101 k9 k25 h x1 x2 x3 x4 x6) else (if x7 = 0 then (f_X9_plansOf_101 k9 k25 h x1 x2 x3 x4 x6) else (f_X9_plansOf_102 k9 k25 h x1 x2 x3 x4 x6 1))) else (if x7 = 0 then (if 0 ≤ (x8).toInt ∧ (x8).toInt < 10 then (if ((eA h 0 46) ((x8).toNatClampNeg)) = x6 then (f_X9_plansOf_74 k9 k25 (f_X9_plansOf_48 k9 k25 n) h x1 x2 x3 x4 x5 x6 x8) else (f_X9_plansOf_79 k9 k25 (f_X9_plansOf_48 k9 k25 n) h x1 x2 x3 x4 x5 x6 x8 0)) else none) else (f_X9_plansOf_74 k9 k25 (f_X9_plansOf_48 k9 k25 n) h x1 x2 x3 x4 x5 x6 x8))) := rfl
def f_X9_plansOf_25 (k9 : HS → Int32 → Int32 → Int32 → Option (Int32 × HS)) : Nat → HS → Int32 → Int32 → Int32 → Int32 → Int32 → Int32 → Option (Int32 × HS)
  | 0, _, _, _, _, _, _, _ => none
  | n + 1, h, x1, x2, x3, x4, x5, x6 => (if 10 ≤ x6 then (if x5 = 0 then (f_X9_plansOf_145 k9 h x1 x2 x3) else (if x4 = x1 then (ob1 (f_X9_triesDoings h x1 x2) (fun h_7 => (f_X9_plansOf_145 k9 h_7 x1 x2 x3))) else (f_X9_plansOf_145 k9 h x1 x2 x3))) else (if ((x3 >>> (x6 &&& 31)) &&& 1) = 1 then (f_X9_plansOf_48 k9 (f_X9_plansOf_25 k9 n) 8589934592 h x1 x2 x3 x4 x5 x6 0 0) else (f_X9_plansOf_122 k9 (f_X9_plansOf_25 k9 n) h x1 x2 x3 x4 x5 x6)))
theorem f_X9_plansOf_25_s (k9 : HS → Int32 → Int32 → Int32 → Option (Int32 × HS)) (n : Nat) (h : HS) (x1 : Int32) (x2 : Int32) (x3 : Int32) (x4 : Int32) (x5 : Int32) (x6 : Int32) : f_X9_plansOf_25 k9 (n + 1) h x1 x2 x3 x4 x5 x6 = (if 10 ≤ x6 then (if x5 = 0 then (f_X9_plansOf_145 k9 h x1 x2 x3) else (if x4 = x1 then (ob1 (f_X9_triesDoings h x1 x2) (fun h_7 => (f_X9_plansOf_145 k9 h_7 x1 x2 x3))) else (f_X9_plansOf_145 k9 h x1 x2 x3))) else (if ((x3 >>> (x6 &&& 31)) &&& 1) = 1 then (f_X9_plansOf_48 k9 (f_X9_plansOf_25 k9 n) 8589934592 h x1 x2 x3 x4 x5 x6 0 0) else (f_X9_plansOf_122 k9 (f_X9_plansOf_25 k9 n) h x1 x2 x3 x4 x5 x6))) := rfl
def f_X9_plansOf_9 : Nat → HS → Int32 → Int32 → Int32 → Option (Int32 × HS)
  | 0, _, _, _, _ => none
  | n + 1, h, x1, x2, x3 => (if 1024 ≤ x3 then (if (lg_cmp (eL h 0 52) (-1)) = 0 then (f_X9_plansOf_167 h 0) else (f_X9_plansOf_167 h 1)) else (f_X9_plansOf_25 (f_X9_plansOf_9 n) 8589934592 h x1 x2 x3 0 1 0))
theorem f_X9_plansOf_9_s (n : Nat) (h : HS) (x1 : Int32) (x2 : Int32) (x3 : Int32) : f_X9_plansOf_9 (n + 1) h x1 x2 x3 = (if 1024 ≤ x3 then (if (lg_cmp (eL h 0 52) (-1)) = 0 then (f_X9_plansOf_167 h 0) else (f_X9_plansOf_167 h 1)) else (f_X9_plansOf_25 (f_X9_plansOf_9 n) 8589934592 h x1 x2 x3 0 1 0)) := rfl
def f_X9_plansOf (h : HS) (p1 : Int32) (p2 : Int32) : Option (Int32 × HS) := (f_X9_plansOf_9 8589934592 (sL h 0 52 (-1)) p1 p2 0)
theorem e_X9_triesDoings : yX9_triesDoings.cls = RX9 ∧ yX9_triesDoings.cls ≠ "java/lang/invoke/MethodHandle" ∧ yX9_triesDoings.cls ≠ "java/lang/invoke/VarHandle" ∧ (parseMethodDescriptor yX9_triesDoings.desc).map (fun d => d.parameters.length) = some 2 := by decide +kernel
set_option maxHeartbeats 4000000 in
set_option maxRecDepth 100000 in
theorem c_X9_plansOf (l : Launch) (G : va_G) (cI cJ cZ cB cT : ClassId) (m0 : Nat) (r : Nat → Nat) (h : HS) (p1 : Int32) (p2 : Int32) (rr : Int32) (hh : HS) (hF : f_X9_plansOf h p1 p2 = some (rr, hh)) : gMi l yX9_plansOf (gws yX9_plansOf cX9_plansOf 9 (some .boolean)) 5 G (gT cI cJ cZ cB cT) [.ref m0, .int p1, .int p2] (wM m0 r cI cJ cZ cB cT h) (fun x (_ : Unit) => x = rr) (fun (_ : Unit) => (wM m0 r cI cJ cZ cB cT hh)) := by
  intro sz
  refine gM_start (y := yX9_plansOf) (av := [.ref m0, .int p1, .int p2]) (ws := (wM m0 r cI cJ cZ cB cT h)) (Qf := fun A => va_Qi (fun x (_ : Unit) => x = rr) (gB G (fun (_ : Unit) => (wM m0 r cI cJ cZ cB cT hh)) A) A) (cc := cX9_plansOf) (maxL := 9) (ret := (some .boolean)) (by decide) (Nat.le_of_ble_eq_true rfl) ?_
  intro p e s m args below meth c A ls H hx hb hr hts hown hin hlocks hml hP hK hD hA hS hl hE
  have hl : lv_has ls 9 [(0, .ref m0), (1, .int p1), (2, .int p2)] := hl
  have hJ_167 : ∀ (h : HS) (y0 : Int32), f_X9_plansOf_167 h y0 = some (rr, hh) → ∀ (H : Heap) (locs : List Loc) (ls : Array Slot), va_P G vwCl (wM m0 r cI cJ cZ cB cT h) H → va_D A (wM m0 r cI cJ cZ cB cT h) → va_S A s.heap H locs → lv_has ls 9 [] → W p l e (gRm 5) s m args below meth c H locs 0 0 (MQ below (va_Qi (fun x (_ : Unit) => x = rr) (gB G (fun (_ : Unit) => (wM m0 r cI cJ cZ cB cT hh)) A) A) args s 0 0 A) (F0 m 167 ls [.int y0]) := by
    intro h y0 hF H locs ls hP hD hS hl
    unfold f_X9_plansOf_167 at hF
    obtain ⟨hz_3, hF⟩ := ob_if hF
    obtain ⟨rfl, rfl⟩ := ob_pair hF
    exact gw_zret () hx hb hr hlocks (gz hz_3) hP hD hS rfl dX9_plansOf_167
  have hJ_9 : ∀ (n_9 : Nat) (h : HS) (x1 : Int32) (x2 : Int32) (x3 : Int32), f_X9_plansOf_9 n_9 h x1 x2 x3 = some (rr, hh) → ∀ (H : Heap) (locs : List Loc) (ls : Array Slot), va_P G vwCl (wM m0 r cI cJ cZ cB cT h) H → va_D A (wM m0 r cI cJ cZ cB cT h) → va_S A s.heap H locs → lv_has ls 9 [(0, .ref m0), (1, .int x1), (2, .int x2), (3, .int x3)] → W p l e (gRm 5) s m args below meth c H locs 0 0 (MQ below (va_Qi (fun x (_ : Unit) => x = rr) (gB G (fun (_ : Unit) => (wM m0 r cI cJ cZ cB cT hh)) A) A) args s 0 0 A) (F0 m 9 ls []) := by
    intro n_9
    induction n_9 with
    | zero =>
      intro h x1 x2 x3 hF
      exact absurd hF (by simp [f_X9_plansOf_9])
    | succ n_9 ih_9 =>
      have hJ_145 : ∀ (h : HS) (x1 : Int32) (x2 : Int32) (x3 : Int32), f_X9_plansOf_145 (f_X9_plansOf_9 n_9) h x1 x2 x3 = some (rr, hh) → ∀ (H : Heap) (locs : List Loc) (ls : Array Slot), va_P G vwCl (wM m0 r cI cJ cZ cB cT h) H → va_D A (wM m0 r cI cJ cZ cB cT h) → va_S A s.heap H locs → lv_has ls 9 [(0, .ref m0), (1, .int x1), (2, .int x2), (3, .int x3)] → W p l e (gRm 5) s m args below meth c H locs 0 0 (MQ below (va_Qi (fun x (_ : Unit) => x = rr) (gB G (fun (_ : Unit) => (wM m0 r cI cJ cZ cB cT hh)) A) A) args s 0 0 A) (F0 m 145 ls []) := by
        intro h x1 x2 x3 hF H locs ls hP hD hS hl
        unfold f_X9_plansOf_145 at hF
        refine lv_iinc (v := (x3 + 1)) (lv' := [(3, .int (x3 + 1)), (0, .ref m0), (1, .int x1), (2, .int x2)]) hx hb dX9_plansOf_145 hl (k := 3) rfl rfl (by decide) rfl (fun ls hl => ?_)
        refine lv_goto (tgt := 9) hx hb dX9_plansOf_148 (by decide) ?_
        exact ih_9 h x1 x2 (x3 + 1) hF H _ ls hP hD hS (lv_sub hl [1, 2, 3, 0] rfl)
      have hJ_25 : ∀ (n_25 : Nat) (h : HS) (x1 : Int32) (x2 : Int32) (x3 : Int32) (x4 : Int32) (x5 : Int32) (x6 : Int32), f_X9_plansOf_25 (f_X9_plansOf_9 n_9) n_25 h x1 x2 x3 x4 x5 x6 = some (rr, hh) → ∀ (H : Heap) (locs : List Loc) (ls : Array Slot), va_P G vwCl (wM m0 r cI cJ cZ cB cT h) H → va_D A (wM m0 r cI cJ cZ cB cT h) → va_S A s.heap H locs → lv_has ls 9 [(0, .ref m0), (1, .int x1), (2, .int x2), (3, .int x3), (4, .int x4), (5, .int x5), (6, .int x6)] → W p l e (gRm 5) s m args below meth c H locs 0 0 (MQ below (va_Qi (fun x (_ : Unit) => x = rr) (gB G (fun (_ : Unit) => (wM m0 r cI cJ cZ cB cT hh)) A) A) args s 0 0 A) (F0 m 25 ls []) := by
        intro n_25
        induction n_25 with
        | zero =>
          intro h x1 x2 x3 x4 x5 x6 hF
          exact absurd hF (by simp [f_X9_plansOf_25])
        | succ n_25 ih_25 =>
          have hJ_122 : ∀ (h : HS) (x1 : Int32) (x2 : Int32) (x3 : Int32) (x4 : Int32) (x5 : Int32) (x6 : Int32), f_X9_plansOf_122 (f_X9_plansOf_9 n_9) (f_X9_plansOf_25 (f_X9_plansOf_9 n_9) n_25) h x1 x2 x3 x4 x5 x6 = some (rr, hh) → ∀ (H : Heap) (locs : List Loc) (ls : Array Slot), va_P G vwCl (wM m0 r cI cJ cZ cB cT h) H → va_D A (wM m0 r cI cJ cZ cB cT h) → va_S A s.heap H locs → lv_has ls 9 [(0, .ref m0), (1, .int x1), (2, .int x2), (3, .int x3), (4, .int x4), (5, .int x5), (6, .int x6)] → W p l e (gRm 5) s m args below meth c H locs 0 0 (MQ below (va_Qi (fun x (_ : Unit) => x = rr) (gB G (fun (_ : Unit) => (wM m0 r cI cJ cZ cB cT hh)) A) A) args s 0 0 A) (F0 m 122 ls []) := by
            intro h x1 x2 x3 x4 x5 x6 hF H locs ls hP hD hS hl
            unfold f_X9_plansOf_122 at hF
            refine lv_iinc (v := (x6 + 1)) (lv' := [(6, .int (x6 + 1)), (0, .ref m0), (1, .int x1), (2, .int x2), (3, .int x3), (4, .int x4), (5, .int x5)]) hx hb dX9_plansOf_122 hl (k := 6) rfl rfl (by decide) rfl (fun ls hl => ?_)
            refine lv_goto (tgt := 25) hx hb dX9_plansOf_125 (by decide) ?_
            exact ih_25 h x1 x2 x3 x4 x5 (x6 + 1) hF H _ ls hP hD hS (lv_sub hl [1, 2, 3, 4, 5, 6, 0] rfl)
          have hJ_119 : ∀ (h : HS) (x1 : Int32) (x2 : Int32) (x3 : Int32) (x4 : Int32) (x5 : Int32) (x6 : Int32), f_X9_plansOf_119 (f_X9_plansOf_9 n_9) (f_X9_plansOf_25 (f_X9_plansOf_9 n_9) n_25) h x1 x2 x3 x4 x5 x6 = some (rr, hh) → ∀ (H : Heap) (locs : List Loc) (ls : Array Slot), va_P G vwCl (wM m0 r cI cJ cZ cB cT h) H → va_D A (wM m0 r cI cJ cZ cB cT h) → va_S A s.heap H locs → lv_has ls 9 [(0, .ref m0), (1, .int x1), (2, .int x2), (3, .int x3), (4, .int x4), (5, .int x5), (6, .int x6)] → W p l e (gRm 5) s m args below meth c H locs 0 0 (MQ below (va_Qi (fun x (_ : Unit) => x = rr) (gB G (fun (_ : Unit) => (wM m0 r cI cJ cZ cB cT hh)) A) A) args s 0 0 A) (F0 m 119 ls []) := by
            intro h x1 x2 x3 x4 x5 x6 hF H locs ls hP hD hS hl
            unfold f_X9_plansOf_119 at hF
            refine lv_iinc (v := (x4 + 1)) (lv' := [(4, .int (x4 + 1)), (0, .ref m0), (1, .int x1), (2, .int x2), (3, .int x3), (5, .int x5), (6, .int x6)]) hx hb dX9_plansOf_119 hl (k := 4) rfl rfl (by decide) rfl (fun ls hl => ?_)
            exact hJ_122 h x1 x2 x3 (x4 + 1) x5 x6 hF H _ ls hP hD hS (lv_sub hl [1, 2, 3, 4, 0, 5, 6] rfl)
          have hJ_102 : ∀ (h : HS) (x1 : Int32) (x2 : Int32) (x3 : Int32) (x4 : Int32) (x6 : Int32) (y0 : Int32), f_X9_plansOf_102 (f_X9_plansOf_9 n_9) (f_X9_plansOf_25 (f_X9_plansOf_9 n_9) n_25) h x1 x2 x3 x4 x6 y0 = some (rr, hh) → ∀ (H : Heap) (locs : List Loc) (ls : Array Slot), va_P G vwCl (wM m0 r cI cJ cZ cB cT h) H → va_D A (wM m0 r cI cJ cZ cB cT h) → va_S A s.heap H locs → lv_has ls 9 [(0, .ref m0), (1, .int x1), (2, .int x2), (3, .int x3), (4, .int x4), (6, .int x6)] → W p l e (gRm 5) s m args below meth c H locs 0 0 (MQ below (va_Qi (fun x (_ : Unit) => x = rr) (gB G (fun (_ : Unit) => (wM m0 r cI cJ cZ cB cT hh)) A) A) args s 0 0 A) (F0 m 102 ls [.int y0]) := by
            intro h x1 x2 x3 x4 x6 y0 hF H locs ls hP hD hS hl
            unfold f_X9_plansOf_102 at hF
            refine lv_istore (lv' := [(5, .int y0), (0, .ref m0), (1, .int x1), (2, .int x2), (3, .int x3), (4, .int x4), (6, .int x6)]) hx hb dX9_plansOf_102 hl (by decide) rfl (fun ls hl => ?_)
            refine lv_iload hx hb dX9_plansOf_104 (lv_at hl 5 rfl) ?_
            refine lv_iconst (v := 3) hx hb dX9_plansOf_106 (by decide) ?_
            refine lv_icmp_ge (tgt := 119) hx hb dX9_plansOf_107 (by decide) (fun c_15 => ?_) (fun c_15 => ?_)
            · have hF := ob_pos c_15 hF
              exact hJ_119 h x1 x2 x3 x4 y0 x6 hF H _ ls hP hD hS (lv_sub hl [1, 2, 3, 4, 5, 0, 6] rfl)
            · have hF := ob_neg c_15 hF
              refine lv_aload_n hx hb dX9_plansOf_110 rfl (lv_at hl 1 rfl) ?_
              refine va_get (D := G) (ci := 9) (v := .ref (r 48)) (C := RX9) (T := TX9) (N := 53) hx hb hts iX9 hown hK hP 0 wM_at0 rfl 48 (by decide) (hts _ m_381) (fun _ h9 => h9) rfl dX9_plansOf_111 ?_
              refine lv_iload hx hb dX9_plansOf_114 (lv_at hl 5 rfl) ?_
              refine lv_iload hx hb dX9_plansOf_116 (lv_at hl 6 rfl) ?_
              obtain ⟨hi_16, hF⟩ := ob_if hF
              refine va_iast (D := G) hx hb hK hP hD hS 31 0 wM_at31 rfl (vp_in_iff.mpr hi_16) dX9_plansOf_118 (fun H locs hP hD hS => ?_)
              rw [wM_sA31] at hP hD
              have hP : va_P G vwCl (wM m0 r cI cJ cZ cB cT (sA h 0 48 (upd (eA h 0 48) ((x4).toNatClampNeg) x6))) H := hP
              have hD : va_D A (wM m0 r cI cJ cZ cB cT (sA h 0 48 (upd (eA h 0 48) ((x4).toNatClampNeg) x6))) := hD
              exact hJ_119 (sA h 0 48 (upd (eA h 0 48) ((x4).toNatClampNeg) x6)) x1 x2 x3 x4 y0 x6 hF H _ ls hP hD hS (lv_sub hl [1, 2, 3, 4, 5, 0, 6] rfl)
          have hJ_101 : ∀ (h : HS) (x1 : Int32) (x2 : Int32) (x3 : Int32) (x4 : Int32) (x6 : Int32), f_X9_plansOf_101 (f_X9_plansOf_9 n_9) (f_X9_plansOf_25 (f_X9_plansOf_9 n_9) n_25) h x1 x2 x3 x4 x6 = some (rr, hh) → ∀ (H : Heap) (locs : List Loc) (ls : Array Slot), va_P G vwCl (wM m0 r cI cJ cZ cB cT h) H → va_D A (wM m0 r cI cJ cZ cB cT h) → va_S A s.heap H locs → lv_has ls 9 [(0, .ref m0), (1, .int x1), (2, .int x2), (3, .int x3), (4, .int x4), (6, .int x6)] → W p l e (gRm 5) s m args below meth c H locs 0 0 (MQ below (va_Qi (fun x (_ : Unit) => x = rr) (gB G (fun (_ : Unit) => (wM m0 r cI cJ cZ cB cT hh)) A) A) args s 0 0 A) (F0 m 101 ls []) := by
            intro h x1 x2 x3 x4 x6 hF H locs ls hP hD hS hl
            unfold f_X9_plansOf_101 at hF
            refine lv_iconst (v := 0) hx hb dX9_plansOf_101 (by decide) ?_
            exact hJ_102 h x1 x2 x3 x4 x6 0 hF H _ ls hP hD hS (lv_sub hl [0, 1, 2, 3, 4, 5] rfl)
          have hJ_48 : ∀ (n_48 : Nat) (h : HS) (x1 : Int32) (x2 : Int32) (x3 : Int32) (x4 : Int32) (x5 : Int32) (x6 : Int32) (x7 : Int32) (x8 : Int32), f_X9_plansOf_48 (f_X9_plansOf_9 n_9) (f_X9_plansOf_25 (f_X9_plansOf_9 n_9) n_25) n_48 h x1 x2 x3 x4 x5 x6 x7 x8 = some (rr, hh) → ∀ (H : Heap) (locs : List Loc) (ls : Array Slot), va_P G vwCl (wM m0 r cI cJ cZ cB cT h) H → va_D A (wM m0 r cI cJ cZ cB cT h) → va_S A s.heap H locs → lv_has ls 9 [(0, .ref m0), (1, .int x1), (2, .int x2), (3, .int x3), (4, .int x4), (5, .int x5), (6, .int x6), (7, .int x7), (8, .int x8)] → W p l e (gRm 5) s m args below meth c H locs 0 0 (MQ below (va_Qi (fun x (_ : Unit) => x = rr) (gB G (fun (_ : Unit) => (wM m0 r cI cJ cZ cB cT hh)) A) A) args s 0 0 A) (F0 m 48 ls []) := by
            intro n_48
            induction n_48 with
            | zero =>
              intro h x1 x2 x3 x4 x5 x6 x7 x8 hF
              exact absurd hF (by simp [f_X9_plansOf_48])
            | succ n_48 ih_48 =>
              have hJ_79 : ∀ (h : HS) (x1 : Int32) (x2 : Int32) (x3 : Int32) (x4 : Int32) (x5 : Int32) (x6 : Int32) (x8 : Int32) (y0 : Int32), f_X9_plansOf_79 (f_X9_plansOf_9 n_9) (f_X9_plansOf_25 (f_X9_plansOf_9 n_9) n_25) (f_X9_plansOf_48 (f_X9_plansOf_9 n_9) (f_X9_plansOf_25 (f_X9_plansOf_9 n_9) n_25) n_48) h x1 x2 x3 x4 x5 x6 x8 y0 = some (rr, hh) → ∀ (H : Heap) (locs : List Loc) (ls : Array Slot), va_P G vwCl (wM m0 r cI cJ cZ cB cT h) H → va_D A (wM m0 r cI cJ cZ cB cT h) → va_S A s.heap H locs → lv_has ls 9 [(0, .ref m0), (1, .int x1), (2, .int x2), (3, .int x3), (4, .int x4), (5, .int x5), (6, .int x6), (8, .int x8)] → W p l e (gRm 5) s m args below meth c H locs 0 0 (MQ below (va_Qi (fun x (_ : Unit) => x = rr) (gB G (fun (_ : Unit) => (wM m0 r cI cJ cZ cB cT hh)) A) A) args s 0 0 A) (F0 m 79 ls [.int y0]) := by
                intro h x1 x2 x3 x4 x5 x6 x8 y0 hF H locs ls hP hD hS hl
                unfold f_X9_plansOf_79 at hF
                refine lv_istore (lv' := [(7, .int y0), (0, .ref m0), (1, .int x1), (2, .int x2), (3, .int x3), (4, .int x4), (5, .int x5), (6, .int x6), (8, .int x8)]) hx hb dX9_plansOf_79 hl (by decide) rfl (fun ls hl => ?_)
                refine lv_iinc (v := (x8 + 1)) (lv' := [(8, .int (x8 + 1)), (7, .int y0), (0, .ref m0), (1, .int x1), (2, .int x2), (3, .int x3), (4, .int x4), (5, .int x5), (6, .int x6)]) hx hb dX9_plansOf_81 hl (k := 8) rfl rfl (by decide) rfl (fun ls hl => ?_)
                refine lv_goto (tgt := 48) hx hb dX9_plansOf_84 (by decide) ?_
                exact ih_48 h x1 x2 x3 x4 x5 x6 y0 (x8 + 1) hF H _ ls hP hD hS (lv_sub hl [2, 3, 4, 5, 6, 7, 8, 1, 0] rfl)
              have hJ_74 : ∀ (h : HS) (x1 : Int32) (x2 : Int32) (x3 : Int32) (x4 : Int32) (x5 : Int32) (x6 : Int32) (x8 : Int32), f_X9_plansOf_74 (f_X9_plansOf_9 n_9) (f_X9_plansOf_25 (f_X9_plansOf_9 n_9) n_25) (f_X9_plansOf_48 (f_X9_plansOf_9 n_9) (f_X9_plansOf_25 (f_X9_plansOf_9 n_9) n_25) n_48) h x1 x2 x3 x4 x5 x6 x8 = some (rr, hh) → ∀ (H : Heap) (locs : List Loc) (ls : Array Slot), va_P G vwCl (wM m0 r cI cJ cZ cB cT h) H → va_D A (wM m0 r cI cJ cZ cB cT h) → va_S A s.heap H locs → lv_has ls 9 [(0, .ref m0), (1, .int x1), (2, .int x2), (3, .int x3), (4, .int x4), (5, .int x5), (6, .int x6), (8, .int x8)] → W p l e (gRm 5) s m args below meth c H locs 0 0 (MQ below (va_Qi (fun x (_ : Unit) => x = rr) (gB G (fun (_ : Unit) => (wM m0 r cI cJ cZ cB cT hh)) A) A) args s 0 0 A) (F0 m 74 ls []) := by
                intro h x1 x2 x3 x4 x5 x6 x8 hF H locs ls hP hD hS hl
                unfold f_X9_plansOf_74 at hF
                refine lv_iconst (v := 1) hx hb dX9_plansOf_74 (by decide) ?_
                refine lv_goto (tgt := 79) hx hb dX9_plansOf_75 (by decide) ?_
                exact hJ_79 h x1 x2 x3 x4 x5 x6 x8 1 hF H _ ls hP hD hS (lv_sub hl [0, 1, 2, 3, 4, 5, 6, 7] rfl)
              intro h x1 x2 x3 x4 x5 x6 x7 x8 hF H locs ls hP hD hS hl
              rw [f_X9_plansOf_48_s] at hF
              refine lv_iload hx hb dX9_plansOf_48 (lv_at hl 8 rfl) ?_
              refine lv_aload_n hx hb dX9_plansOf_50 rfl (lv_at hl 0 rfl) ?_
              refine va_get (D := G) (ci := 9) (v := .int (eI h 0 47)) (C := RX9) (T := TX9) (N := 53) hx hb hts iX9 hown hK hP 0 wM_at0 rfl 47 (by decide) (hts _ m_375) (fun _ h9 => h9) rfl dX9_plansOf_51 ?_
              refine lv_icmp_ge (tgt := 87) hx hb dX9_plansOf_54 (by decide) (fun c_9 => ?_) (fun c_9 => ?_)
              · have hF := ob_pos c_9 hF
                refine lv_iload hx hb dX9_plansOf_87 (lv_at hl 5 rfl) ?_
                refine lv_if_eq (tgt := 101) hx hb dX9_plansOf_89 (by decide) (fun c_10 => ?_) (fun c_10 => ?_)
                · have hF := ob_pos c_10 hF
                  exact hJ_101 h x1 x2 x3 x4 x6 hF H _ ls hP hD hS (lv_sub hl [0, 1, 2, 3, 4, 6] rfl)
                · have hF := ob_neg c_10 hF
                  refine lv_iload hx hb dX9_plansOf_92 (lv_at hl 7 rfl) ?_
                  refine lv_if_eq (tgt := 101) hx hb dX9_plansOf_94 (by decide) (fun c_11 => ?_) (fun c_11 => ?_)
                  · have hF := ob_pos c_11 hF
                    exact hJ_101 h x1 x2 x3 x4 x6 hF H _ ls hP hD hS (lv_sub hl [0, 1, 2, 3, 4, 6] rfl)
                  · have hF := ob_neg c_11 hF
                    refine lv_iconst (v := 1) hx hb dX9_plansOf_97 (by decide) ?_
                    refine lv_goto (tgt := 102) hx hb dX9_plansOf_98 (by decide) ?_
                    exact hJ_102 h x1 x2 x3 x4 x6 1 hF H _ ls hP hD hS (lv_sub hl [0, 1, 2, 3, 4, 6] rfl)
              · have hF := ob_neg c_9 hF
                refine lv_iload hx hb dX9_plansOf_57 (lv_at hl 7 rfl) ?_
                refine lv_if_ne (tgt := 74) hx hb dX9_plansOf_59 (by decide) (fun c_12 => ?_) (fun c_12 => ?_)
                · have hF := ob_neg c_12 hF
                  exact hJ_74 h x1 x2 x3 x4 x5 x6 x8 hF H _ ls hP hD hS (lv_sub hl [0, 1, 2, 3, 4, 5, 6, 8] rfl)
                · have hF := ob_pos c_12 hF
                  refine lv_aload_n hx hb dX9_plansOf_62 rfl (lv_at hl 0 rfl) ?_
                  refine va_get (D := G) (ci := 9) (v := .ref (r 46)) (C := RX9) (T := TX9) (N := 53) hx hb hts iX9 hown hK hP 0 wM_at0 rfl 46 (by decide) (hts _ m_376) (fun _ h9 => h9) rfl dX9_plansOf_63 ?_
                  refine lv_iload hx hb dX9_plansOf_66 (lv_at hl 8 rfl) ?_
                  obtain ⟨hi_13, hF⟩ := ob_if hF
                  refine va_iald (D := G) hx hb hK hP 30 0 wM_at30 rfl (vp_in_iff.mpr hi_13) dX9_plansOf_68 ?_
                  refine gw_topi (y := ((eA h 0 46) ((x8).toNatClampNeg))) rfl ?_
                  refine lv_iload hx hb dX9_plansOf_69 (lv_at hl 6 rfl) ?_
                  refine lv_icmp_ne (tgt := 78) hx hb dX9_plansOf_71 (by decide) (fun c_14 => ?_) (fun c_14 => ?_)
                  · have hF := ob_neg c_14 hF
                    refine lv_iconst (v := 0) hx hb dX9_plansOf_78 (by decide) ?_
                    exact hJ_79 h x1 x2 x3 x4 x5 x6 x8 0 hF H _ ls hP hD hS (lv_sub hl [0, 1, 2, 3, 4, 5, 6, 8] rfl)
                  · have hF := ob_pos c_14 hF
                    exact hJ_74 h x1 x2 x3 x4 x5 x6 x8 hF H _ ls hP hD hS (lv_sub hl [0, 1, 2, 3, 4, 5, 6, 8] rfl)
          intro h x1 x2 x3 x4 x5 x6 hF H locs ls hP hD hS hl
          rw [f_X9_plansOf_25_s] at hF
          refine lv_iload hx hb dX9_plansOf_25 (lv_at hl 6 rfl) ?_
          refine lv_bipush (v := 10) hx hb dX9_plansOf_27 (by decide) ?_
          refine lv_icmp_ge (tgt := 128) hx hb dX9_plansOf_29 (by decide) (fun c_4 => ?_) (fun c_4 => ?_)
          · have hF := ob_pos c_4 hF
            refine lv_iload hx hb dX9_plansOf_128 (lv_at hl 5 rfl) ?_
            refine lv_if_eq (tgt := 145) hx hb dX9_plansOf_130 (by decide) (fun c_5 => ?_) (fun c_5 => ?_)
            · have hF := ob_pos c_5 hF
              exact hJ_145 h x1 x2 x3 hF H _ ls hP hD hS (lv_sub hl [0, 1, 2, 3] rfl)
            · have hF := ob_neg c_5 hF
              refine lv_iload hx hb dX9_plansOf_133 (lv_at hl 4 rfl) ?_
              refine lv_iload_n hx hb dX9_plansOf_135 rfl (lv_at hl 1 rfl) ?_
              refine lv_icmp_ne (tgt := 145) hx hb dX9_plansOf_136 (by decide) (fun c_6 => ?_) (fun c_6 => ?_)
              · have hF := ob_neg c_6 hF
                exact hJ_145 h x1 x2 x3 hF H _ ls hP hD hS (lv_sub hl [0, 1, 2, 3] rfl)
              · have hF := ob_pos c_6 hF
                refine lv_aload_n hx hb dX9_plansOf_139 rfl (lv_at hl 0 rfl) ?_
                refine lv_iload_n hx hb dX9_plansOf_140 rfl (lv_at hl 1 rfl) ?_
                refine lv_iload_n hx hb dX9_plansOf_141 rfl (lv_at hl 2 rfl) ?_
                obtain ⟨h_7, e_7, hF⟩ := ob1_some hF
                refine gx_callv (gx_runV (As := [.int x1, .int x2]) (rest := []) ⟨hx, hb, hml, hown, hts⟩ (c_X9_triesDoings l G cI cJ cZ cB cT m0 r h x1 x2 h_7 e_7 H.size) (gG_V m_390 m_391 m_392 m_64 m_389) rfl e_X9_triesDoings ⟨Nat.le_of_ble_eq_true rfl, Nat.le_of_ble_eq_true rfl⟩ hK hP hD hE hS hA 0 wM_at0 rfl rfl hl.1 rfl (Nat.le_of_ble_eq_true rfl) dX9_plansOf_142 ⟨Nat.le_refl _, Nat.le_refl _⟩) hP hD hS hA (fun u_7 H locs hw_7 hP hD hS => ?_)
                exact hJ_145 h_7 x1 x2 x3 hF H _ ls hP hD hS (lv_sub hl [0, 1, 2, 3] rfl)
          · have hF := ob_neg c_4 hF
            refine lv_iload_n hx hb dX9_plansOf_32 rfl (lv_at hl 3 rfl) ?_
            refine lv_iload hx hb dX9_plansOf_33 (lv_at hl 6 rfl) ?_
            refine lv_ishr hx hb dX9_plansOf_35 ?_
            refine lv_iconst (v := 1) hx hb dX9_plansOf_36 (by decide) ?_
            refine lv_iand hx hb dX9_plansOf_37 ?_
            refine lv_iconst (v := 1) hx hb dX9_plansOf_38 (by decide) ?_
            refine lv_icmp_ne (tgt := 122) hx hb dX9_plansOf_39 (by decide) (fun c_8 => ?_) (fun c_8 => ?_)
            · have hF := ob_neg c_8 hF
              exact hJ_122 h x1 x2 x3 x4 x5 x6 hF H _ ls hP hD hS (lv_sub hl [0, 1, 2, 3, 4, 5, 6] rfl)
            · have hF := ob_pos c_8 hF
              refine lv_iconst (v := 0) hx hb dX9_plansOf_42 (by decide) ?_
              refine lv_istore (lv' := [(7, .int 0), (0, .ref m0), (1, .int x1), (2, .int x2), (3, .int x3), (4, .int x4), (5, .int x5), (6, .int x6)]) hx hb dX9_plansOf_43 hl (by decide) rfl (fun ls hl => ?_)
              refine lv_iconst (v := 0) hx hb dX9_plansOf_45 (by decide) ?_
              refine lv_istore (lv' := [(8, .int 0), (7, .int 0), (0, .ref m0), (1, .int x1), (2, .int x2), (3, .int x3), (4, .int x4), (5, .int x5), (6, .int x6)]) hx hb dX9_plansOf_46 hl (by decide) rfl (fun ls hl => ?_)
              exact hJ_48 8589934592 h x1 x2 x3 x4 x5 x6 0 0 hF H _ ls hP hD hS (lv_sub hl [2, 3, 4, 5, 6, 7, 8, 1, 0] rfl)
      intro h x1 x2 x3 hF H locs ls hP hD hS hl
      rw [f_X9_plansOf_9_s] at hF
      refine lv_iload_n hx hb dX9_plansOf_9 rfl (lv_at hl 3 rfl) ?_
      refine lv_sipush (v := 1024) hx hb dX9_plansOf_10 (by decide) ?_
      refine lv_icmp_ge (tgt := 151) hx hb dX9_plansOf_13 (by decide) (fun c_1 => ?_) (fun c_1 => ?_)
      · have hF := ob_pos c_1 hF
        refine lv_aload_n hx hb dX9_plansOf_151 rfl (lv_at hl 0 rfl) ?_
        refine va_get (D := G) (ci := 9) (v := .long (eL h 0 52)) (C := RX9) (T := TX9) (N := 53) hx hb hts iX9 hown hK hP 0 wM_at0 rfl 52 (by decide) (hts _ m_380) (fun _ h9 => h9) rfl dX9_plansOf_152 ?_
        refine lv_ldc2 (v := (-1)) hx hb hown (hts _ m_365) dX9_plansOf_155 ?_
        refine W.lcmp hx hb dX9_plansOf_158 ?_
        refine lv_if_eq (tgt := 166) hx hb dX9_plansOf_159 (by decide) (fun c_2 => ?_) (fun c_2 => ?_)
        · have hF := ob_pos c_2 hF
          refine lv_iconst (v := 0) hx hb dX9_plansOf_166 (by decide) ?_
          exact hJ_167 h 0 hF H _ ls hP hD hS (lv_sub hl [] rfl)
        · have hF := ob_neg c_2 hF
          refine lv_iconst (v := 1) hx hb dX9_plansOf_162 (by decide) ?_
          refine lv_goto (tgt := 167) hx hb dX9_plansOf_163 (by decide) ?_
          exact hJ_167 h 1 hF H _ ls hP hD hS (lv_sub hl [] rfl)
      · have hF := ob_neg c_1 hF
        refine lv_iconst (v := 0) hx hb dX9_plansOf_16 (by decide) ?_
        refine lv_istore (lv' := [(4, .int 0), (0, .ref m0), (1, .int x1), (2, .int x2), (3, .int x3)]) hx hb dX9_plansOf_17 hl (by decide) rfl (fun ls hl => ?_)
        refine lv_iconst (v := 1) hx hb dX9_plansOf_19 (by decide) ?_
        refine lv_istore (lv' := [(5, .int 1), (4, .int 0), (0, .ref m0), (1, .int x1), (2, .int x2), (3, .int x3)]) hx hb dX9_plansOf_20 hl (by decide) rfl (fun ls hl => ?_)
        refine lv_iconst (v := 0) hx hb dX9_plansOf_22 (by decide) ?_
        refine lv_istore (lv' := [(6, .int 0), (5, .int 1), (4, .int 0), (0, .ref m0), (1, .int x1), (2, .int x2), (3, .int x3)]) hx hb dX9_plansOf_23 hl (by decide) rfl (fun ls hl => ?_)
        exact hJ_25 8589934592 h x1 x2 x3 0 1 0 hF H _ ls hP hD hS (lv_sub hl [3, 4, 5, 6, 2, 1, 0] rfl)
  unfold f_X9_plansOf at hF
  refine lv_aload_n hx hb dX9_plansOf_0 rfl (lv_at hl 0 rfl) ?_
  refine lv_ldc2 (v := (-1)) hx hb hown (hts _ m_365) dX9_plansOf_1 ?_
  refine va_put (D := G) (ci := 9) (v := .long (-1)) (ty := .long) (C := RX9) (T := TX9) (N := 53) hx hb hts iX9 tyX9 tyX9_ok nmX9 hown hK hP hD hS 0 wM_at0 rfl 52 (by decide) (hts _ m_380) (fun _ h9 => h9) rfl (tyX9_ok 52 (by decide)) rfl rfl (Nat.le_of_ble_eq_true rfl) dX9_plansOf_4 (fun H locs hP hD hS => ?_)
  rw [wM_sI0_52] at hP hD
  refine lv_iconst (v := 0) hx hb dX9_plansOf_7 (by decide) ?_
  refine lv_istore_n (lv' := [(3, .int 0), (0, .ref m0), (1, .int p1), (2, .int p2)]) hx hb dX9_plansOf_8 rfl hl (by decide) rfl (fun ls hl => ?_)
  exact hJ_9 8589934592 (sL h 0 52 (-1)) p1 p2 0 hF H _ ls hP hD hS (lv_sub hl [1, 2, 3, 0] rfl)
def f_X9_plan_30 (h : HS) : Option (Int32 × HS) := (some ((-2), h))
def f_X9_plan_131 (h : HS) (x5 : Int32) : Option (Int32 × HS) := (some (x5, h))
def f_X9_plan_123 (k73 : HS → Int32 → Int32 → Int32 → Int32 → Option (Int32 × HS)) (h : HS) (x3 : Int32) (x4 : Int32) (x6 : Int32) (y0 : Int32) : Option (Int32 × HS) := (k73 h x3 x4 y0 (x6 + 1))
def f_X9_plan_73 : Nat → HS → Int32 → Int32 → Int32 → Int32 → Option (Int32 × HS)
  | 0, _, _, _, _, _ => none
  | n + 1, h, x3, x4, x5, x6 => (if x4 ≤ x6 then (f_X9_plan_131 h x5) else (if x3 = (-1) then (f_X9_plan_131 h x5) else (if 0 ≤ (x6).toInt ∧ (x6).toInt < 3 then (if ((eA h 0 50) ((x6).toNatClampNeg)) = x3 then (if 0 ≤ (x6).toInt ∧ (x6).toInt < 3 then (if 0 ≤ (x6).toInt ∧ (x6).toInt < 3 then (f_X9_plan_123 (f_X9_plan_73 n) h x3 x4 x6 ((10 * (((eA h 0 51) ((x6).toNatClampNeg)) / 3)) + (((eA h 0 51) ((x6).toNatClampNeg)) - ((eA h 0 51) ((x6).toNatClampNeg)) / 3 * 3))) else none) else none) else (f_X9_plan_123 (f_X9_plan_73 n) h x3 x4 x6 x5)) else none)))
theorem f_X9_plan_73_s (n : Nat) (h : HS) (x3 : Int32) (x4 : Int32) (x5 : Int32) (x6 : Int32) : f_X9_plan_73 (n + 1) h x3 x4 x5 x6 = (if x4 ≤ x6 then (f_X9_plan_131 h x5) else (if x3 = (-1) then (f_X9_plan_131 h x5) else (if 0 ≤ (x6).toInt ∧ (x6).toInt < 3 then (if ((eA h 0 50) ((x6).toNatClampNeg)) = x3 then (if 0 ≤ (x6).toInt ∧ (x6).toInt < 3 then (if 0 ≤ (x6).toInt ∧ (x6).toInt < 3 then (f_X9_plan_123 (f_X9_plan_73 n) h x3 x4 x6 ((10 * (((eA h 0 51) ((x6).toNatClampNeg)) / 3)) + (((eA h 0 51) ((x6).toNatClampNeg)) - ((eA h 0 51) ((x6).toNatClampNeg)) / 3 * 3))) else none) else none) else (f_X9_plan_123 (f_X9_plan_73 n) h x3 x4 x6 x5)) else none))) := rfl
def f_X9_plan_68 (h : HS) (x3 : Int32) (x4 : Int32) (y0 : Int32) : Option (Int32 × HS) := (f_X9_plan_73 8589934592 h x3 x4 y0 0)
def f_X9_plan_41 : Nat → HS → Int32 → Int32 → Int32 → Option (Int32 × HS)
  | 0, _, _, _, _ => none
  | n + 1, h, x2, x3, x4 => (if 4 ≤ x4 then (some ((-2), h)) else (ob2 (f_X9_plansOf h x4 x2) (fun r_10 h_10 => (if r_10 = 0 then ((f_X9_plan_41 n) h_10 x2 x3 (x4 + 1)) else (if x3 = (-1) then (f_X9_plan_68 h_10 x3 x4 x4) else (f_X9_plan_68 h_10 x3 x4 (-1)))))))
theorem f_X9_plan_41_s (n : Nat) (h : HS) (x2 : Int32) (x3 : Int32) (x4 : Int32) : f_X9_plan_41 (n + 1) h x2 x3 x4 = (if 4 ≤ x4 then (some ((-2), h)) else (ob2 (f_X9_plansOf h x4 x2) (fun r_10 h_10 => (if r_10 = 0 then ((f_X9_plan_41 n) h_10 x2 x3 (x4 + 1)) else (if x3 = (-1) then (f_X9_plan_68 h_10 x3 x4 x4) else (f_X9_plan_68 h_10 x3 x4 (-1))))))) := rfl
def f_X9_plan_33 (h : HS) (x1 : Int32) (x2 : Int32) (x3 : Int32) : Option (Int32 × HS) := (ob1 (f_X9_laysFlock h x1) (fun h_8 => (f_X9_plan_41 8589934592 h_8 x2 x3 1)))
def f_X9_plan (h : HS) (p1 : Int32) (p2 : Int32) (p3 : Int32) : Option (Int32 × HS) := (ob1 (f_X9_isLetterNumber p1) (fun r_1 => (if r_1 = 0 then (f_X9_plan_30 h) else (ob1 (f_X9_in p2 1 100) (fun r_3 => (if r_3 = 0 then (f_X9_plan_30 h) else (if p3 = (-1) then (f_X9_plan_33 h p1 p2 p3) else (ob2 (f_X9_isGoose h p3) (fun r_6 h_6 => (if r_6 = 0 then (f_X9_plan_30 h_6) else (f_X9_plan_33 h_6 p1 p2 p3)))))))))))
theorem e_X9_laysFlock : yX9_laysFlock.cls = RX9 ∧ yX9_laysFlock.cls ≠ "java/lang/invoke/MethodHandle" ∧ yX9_laysFlock.cls ≠ "java/lang/invoke/VarHandle" ∧ (parseMethodDescriptor yX9_laysFlock.desc).map (fun d => d.parameters.length) = some 1 := by decide +kernel
theorem e_X9_plansOf : yX9_plansOf.cls = RX9 ∧ yX9_plansOf.cls ≠ "java/lang/invoke/MethodHandle" ∧ yX9_plansOf.cls ≠ "java/lang/invoke/VarHandle" ∧ (parseMethodDescriptor yX9_plansOf.desc).map (fun d => d.parameters.length) = some 2 := by decide +kernel
set_option maxHeartbeats 4000000 in
set_option maxRecDepth 100000 in
theorem c_X9_plan (l : Launch) (G : va_G) (cI cJ cZ cB cT : ClassId) (m0 : Nat) (r : Nat → Nat) (h : HS) (p1 : Int32) (p2 : Int32) (p3 : Int32) (rr : Int32) (hh : HS) (hF : f_X9_plan h p1 p2 p3 = some (rr, hh)) : gMi l yX9_plan (gws yX9_plan cX9_plan 7 (some .int)) 6 G (gT cI cJ cZ cB cT) [.ref m0, .int p1, .int p2, .int p3] (wM m0 r cI cJ cZ cB cT h) (fun x (_ : Unit) => x = rr) (fun (_ : Unit) => (wM m0 r cI cJ cZ cB cT hh)) := by
  intro sz
  refine gM_start (y := yX9_plan) (av := [.ref m0, .int p1, .int p2, .int p3]) (ws := (wM m0 r cI cJ cZ cB cT h)) (Qf := fun A => va_Qi (fun x (_ : Unit) => x = rr) (gB G (fun (_ : Unit) => (wM m0 r cI cJ cZ cB cT hh)) A) A) (cc := cX9_plan) (maxL := 7) (ret := (some .int)) (by decide) (Nat.le_of_ble_eq_true rfl) ?_
  intro p e s m args below meth c A ls H hx hb hr hts hown hin hlocks hml hP hK hD hA hS hl hE
  have hl : lv_has ls 7 [(0, .ref m0), (1, .int p1), (2, .int p2), (3, .int p3)] := hl
  have hJ_30 : ∀ (h : HS), f_X9_plan_30 h = some (rr, hh) → ∀ (H : Heap) (locs : List Loc) (ls : Array Slot), va_P G vwCl (wM m0 r cI cJ cZ cB cT h) H → va_D A (wM m0 r cI cJ cZ cB cT h) → va_S A s.heap H locs → lv_has ls 7 [] → W p l e (gRm 6) s m args below meth c H locs 0 0 (MQ below (va_Qi (fun x (_ : Unit) => x = rr) (gB G (fun (_ : Unit) => (wM m0 r cI cJ cZ cB cT hh)) A) A) args s 0 0 A) (F0 m 30 ls []) := by
    intro h hF H locs ls hP hD hS hl
    unfold f_X9_plan_30 at hF
    refine lv_bipush (v := (-2)) hx hb dX9_plan_30 (by decide) ?_
    obtain ⟨rfl, rfl⟩ := ob_pair hF
    exact gw_iret () hx hb hr hlocks hP hD hS rfl dX9_plan_32
  have hJ_131 : ∀ (h : HS) (x5 : Int32), f_X9_plan_131 h x5 = some (rr, hh) → ∀ (H : Heap) (locs : List Loc) (ls : Array Slot), va_P G vwCl (wM m0 r cI cJ cZ cB cT h) H → va_D A (wM m0 r cI cJ cZ cB cT h) → va_S A s.heap H locs → lv_has ls 7 [(5, .int x5)] → W p l e (gRm 6) s m args below meth c H locs 0 0 (MQ below (va_Qi (fun x (_ : Unit) => x = rr) (gB G (fun (_ : Unit) => (wM m0 r cI cJ cZ cB cT hh)) A) A) args s 0 0 A) (F0 m 131 ls []) := by
    intro h x5 hF H locs ls hP hD hS hl
    unfold f_X9_plan_131 at hF
    refine lv_iload hx hb dX9_plan_131 (lv_at hl 0 rfl) ?_
    obtain ⟨rfl, rfl⟩ := ob_pair hF
    exact gw_iret () hx hb hr hlocks hP hD hS rfl dX9_plan_133
  have hJ_73 : ∀ (n_73 : Nat) (h : HS) (x3 : Int32) (x4 : Int32) (x5 : Int32) (x6 : Int32), f_X9_plan_73 n_73 h x3 x4 x5 x6 = some (rr, hh) → ∀ (H : Heap) (locs : List Loc) (ls : Array Slot), va_P G vwCl (wM m0 r cI cJ cZ cB cT h) H → va_D A (wM m0 r cI cJ cZ cB cT h) → va_S A s.heap H locs → lv_has ls 7 [(0, .ref m0), (3, .int x3), (4, .int x4), (5, .int x5), (6, .int x6)] → W p l e (gRm 6) s m args below meth c H locs 0 0 (MQ below (va_Qi (fun x (_ : Unit) => x = rr) (gB G (fun (_ : Unit) => (wM m0 r cI cJ cZ cB cT hh)) A) A) args s 0 0 A) (F0 m 73 ls []) := by
    intro n_73
    induction n_73 with
    | zero =>
      intro h x3 x4 x5 x6 hF
      exact absurd hF (by simp [f_X9_plan_73])
    | succ n_73 ih_73 =>
      have hJ_123 : ∀ (h : HS) (x3 : Int32) (x4 : Int32) (x6 : Int32) (y0 : Int32), f_X9_plan_123 (f_X9_plan_73 n_73) h x3 x4 x6 y0 = some (rr, hh) → ∀ (H : Heap) (locs : List Loc) (ls : Array Slot), va_P G vwCl (wM m0 r cI cJ cZ cB cT h) H → va_D A (wM m0 r cI cJ cZ cB cT h) → va_S A s.heap H locs → lv_has ls 7 [(0, .ref m0), (3, .int x3), (4, .int x4), (6, .int x6)] → W p l e (gRm 6) s m args below meth c H locs 0 0 (MQ below (va_Qi (fun x (_ : Unit) => x = rr) (gB G (fun (_ : Unit) => (wM m0 r cI cJ cZ cB cT hh)) A) A) args s 0 0 A) (F0 m 123 ls [.int y0]) := by
        intro h x3 x4 x6 y0 hF H locs ls hP hD hS hl
        unfold f_X9_plan_123 at hF
        refine lv_istore (lv' := [(5, .int y0), (0, .ref m0), (3, .int x3), (4, .int x4), (6, .int x6)]) hx hb dX9_plan_123 hl (by decide) rfl (fun ls hl => ?_)
        refine lv_iinc (v := (x6 + 1)) (lv' := [(6, .int (x6 + 1)), (5, .int y0), (0, .ref m0), (3, .int x3), (4, .int x4)]) hx hb dX9_plan_125 hl (k := 4) rfl rfl (by decide) rfl (fun ls hl => ?_)
        refine lv_goto (tgt := 73) hx hb dX9_plan_128 (by decide) ?_
        exact ih_73 h x3 x4 y0 (x6 + 1) hF H _ ls hP hD hS (lv_sub hl [2, 3, 4, 1, 0] rfl)
      intro h x3 x4 x5 x6 hF H locs ls hP hD hS hl
      rw [f_X9_plan_73_s] at hF
      refine lv_iload hx hb dX9_plan_73 (lv_at hl 4 rfl) ?_
      refine lv_iload hx hb dX9_plan_75 (lv_at hl 2 rfl) ?_
      refine lv_icmp_ge (tgt := 131) hx hb dX9_plan_77 (by decide) (fun c_13 => ?_) (fun c_13 => ?_)
      · have hF := ob_pos c_13 hF
        exact hJ_131 h x5 hF H _ ls hP hD hS (lv_sub hl [3] rfl)
      · have hF := ob_neg c_13 hF
        refine lv_iload_n hx hb dX9_plan_80 rfl (lv_at hl 1 rfl) ?_
        refine lv_iconst (v := (-1)) hx hb dX9_plan_81 (by decide) ?_
        refine lv_icmp_eq (tgt := 131) hx hb dX9_plan_82 (by decide) (fun c_14 => ?_) (fun c_14 => ?_)
        · have hF := ob_pos c_14 hF
          exact hJ_131 h x5 hF H _ ls hP hD hS (lv_sub hl [3] rfl)
        · have hF := ob_neg c_14 hF
          refine lv_aload_n hx hb dX9_plan_85 rfl (lv_at hl 0 rfl) ?_
          refine va_get (D := G) (ci := 9) (v := .ref (r 50)) (C := RX9) (T := TX9) (N := 53) hx hb hts iX9 hown hK hP 0 wM_at0 rfl 50 (by decide) (hts _ m_383) (fun _ h9 => h9) rfl dX9_plan_86 ?_
          refine lv_iload hx hb dX9_plan_89 (lv_at hl 4 rfl) ?_
          obtain ⟨hi_15, hF⟩ := ob_if hF
          refine va_iald (D := G) hx hb hK hP 33 0 wM_at33 rfl (vp_in_iff.mpr hi_15) dX9_plan_91 ?_
          refine gw_topi (y := ((eA h 0 50) ((x6).toNatClampNeg))) rfl ?_
          refine lv_iload_n hx hb dX9_plan_92 rfl (lv_at hl 1 rfl) ?_
          refine lv_icmp_ne (tgt := 121) hx hb dX9_plan_93 (by decide) (fun c_16 => ?_) (fun c_16 => ?_)
          · have hF := ob_neg c_16 hF
            refine lv_iload hx hb dX9_plan_121 (lv_at hl 3 rfl) ?_
            exact hJ_123 h x3 x4 x6 x5 hF H _ ls hP hD hS (lv_sub hl [0, 1, 2, 4] rfl)
          · have hF := ob_pos c_16 hF
            refine lv_bipush (v := 10) hx hb dX9_plan_96 (by decide) ?_
            refine lv_aload_n hx hb dX9_plan_98 rfl (lv_at hl 0 rfl) ?_
            refine va_get (D := G) (ci := 9) (v := .ref (r 51)) (C := RX9) (T := TX9) (N := 53) hx hb hts iX9 hown hK hP 0 wM_at0 rfl 51 (by decide) (hts _ m_384) (fun _ h9 => h9) rfl dX9_plan_99 ?_
            refine lv_iload hx hb dX9_plan_102 (lv_at hl 4 rfl) ?_
            obtain ⟨hi_17, hF⟩ := ob_if hF
            refine va_iald (D := G) hx hb hK hP 34 0 wM_at34 rfl (vp_in_iff.mpr hi_17) dX9_plan_104 ?_
            refine gw_topi (y := ((eA h 0 51) ((x6).toNatClampNeg))) rfl ?_
            refine lv_iconst (v := 3) hx hb dX9_plan_105 (by decide) ?_
            refine lv_idiv hx hb dX9_plan_106 (by decide) ?_
            refine lv_imul hx hb dX9_plan_107 ?_
            refine lv_aload_n hx hb dX9_plan_108 rfl (lv_at hl 0 rfl) ?_
            refine va_get (D := G) (ci := 9) (v := .ref (r 51)) (C := RX9) (T := TX9) (N := 53) hx hb hts iX9 hown hK hP 0 wM_at0 rfl 51 (by decide) (hts _ m_384) (fun _ h9 => h9) rfl dX9_plan_109 ?_
            refine lv_iload hx hb dX9_plan_112 (lv_at hl 4 rfl) ?_
            obtain ⟨hi_18, hF⟩ := ob_if hF
            refine va_iald (D := G) hx hb hK hP 34 0 wM_at34 rfl (vp_in_iff.mpr hi_18) dX9_plan_114 ?_
            refine gw_topi (y := ((eA h 0 51) ((x6).toNatClampNeg))) rfl ?_
            refine lv_iconst (v := 3) hx hb dX9_plan_115 (by decide) ?_
            refine lv_irem hx hb dX9_plan_116 (by decide) ?_
            refine lv_iadd hx hb dX9_plan_117 ?_
            refine lv_goto (tgt := 123) hx hb dX9_plan_118 (by decide) ?_
            exact hJ_123 h x3 x4 x6 ((10 * (((eA h 0 51) ((x6).toNatClampNeg)) / 3)) + (((eA h 0 51) ((x6).toNatClampNeg)) - ((eA h 0 51) ((x6).toNatClampNeg)) / 3 * 3)) hF H _ ls hP hD hS (lv_sub hl [0, 1, 2, 4] rfl)
  have hJ_68 : ∀ (h : HS) (x3 : Int32) (x4 : Int32) (y0 : Int32), f_X9_plan_68 h x3 x4 y0 = some (rr, hh) → ∀ (H : Heap) (locs : List Loc) (ls : Array Slot), va_P G vwCl (wM m0 r cI cJ cZ cB cT h) H → va_D A (wM m0 r cI cJ cZ cB cT h) → va_S A s.heap H locs → lv_has ls 7 [(0, .ref m0), (3, .int x3), (4, .int x4)] → W p l e (gRm 6) s m args below meth c H locs 0 0 (MQ below (va_Qi (fun x (_ : Unit) => x = rr) (gB G (fun (_ : Unit) => (wM m0 r cI cJ cZ cB cT hh)) A) A) args s 0 0 A) (F0 m 68 ls [.int y0]) := by
    intro h x3 x4 y0 hF H locs ls hP hD hS hl
    unfold f_X9_plan_68 at hF
    refine lv_istore (lv' := [(5, .int y0), (0, .ref m0), (3, .int x3), (4, .int x4)]) hx hb dX9_plan_68 hl (by decide) rfl (fun ls hl => ?_)
    refine lv_iconst (v := 0) hx hb dX9_plan_70 (by decide) ?_
    refine lv_istore (lv' := [(6, .int 0), (5, .int y0), (0, .ref m0), (3, .int x3), (4, .int x4)]) hx hb dX9_plan_71 hl (by decide) rfl (fun ls hl => ?_)
    exact hJ_73 8589934592 h x3 x4 y0 0 hF H _ ls hP hD hS (lv_sub hl [2, 3, 4, 1, 0] rfl)
  have hJ_41 : ∀ (n_41 : Nat) (h : HS) (x2 : Int32) (x3 : Int32) (x4 : Int32), f_X9_plan_41 n_41 h x2 x3 x4 = some (rr, hh) → ∀ (H : Heap) (locs : List Loc) (ls : Array Slot), va_P G vwCl (wM m0 r cI cJ cZ cB cT h) H → va_D A (wM m0 r cI cJ cZ cB cT h) → va_S A s.heap H locs → lv_has ls 7 [(0, .ref m0), (2, .int x2), (3, .int x3), (4, .int x4)] → W p l e (gRm 6) s m args below meth c H locs 0 0 (MQ below (va_Qi (fun x (_ : Unit) => x = rr) (gB G (fun (_ : Unit) => (wM m0 r cI cJ cZ cB cT hh)) A) A) args s 0 0 A) (F0 m 41 ls []) := by
    intro n_41
    induction n_41 with
    | zero =>
      intro h x2 x3 x4 hF
      exact absurd hF (by simp [f_X9_plan_41])
    | succ n_41 ih_41 =>
      intro h x2 x3 x4 hF H locs ls hP hD hS hl
      rw [f_X9_plan_41_s] at hF
      refine lv_iload hx hb dX9_plan_41 (lv_at hl 3 rfl) ?_
      refine lv_iconst (v := 4) hx hb dX9_plan_43 (by decide) ?_
      refine lv_icmp_ge (tgt := 140) hx hb dX9_plan_44 (by decide) (fun c_9 => ?_) (fun c_9 => ?_)
      · have hF := ob_pos c_9 hF
        refine lv_bipush (v := (-2)) hx hb dX9_plan_140 (by decide) ?_
        obtain ⟨rfl, rfl⟩ := ob_pair hF
        exact gw_iret () hx hb hr hlocks hP hD hS rfl dX9_plan_142
      · have hF := ob_neg c_9 hF
        refine lv_aload_n hx hb dX9_plan_47 rfl (lv_at hl 0 rfl) ?_
        refine lv_iload hx hb dX9_plan_48 (lv_at hl 3 rfl) ?_
        refine lv_iload_n hx hb dX9_plan_50 rfl (lv_at hl 1 rfl) ?_
        obtain ⟨r_10, h_10, e_10, hF⟩ := ob2_some hF
        refine gx_calli (gx_runV (As := [.int x4, .int x2]) (rest := []) ⟨hx, hb, hml, hown, hts⟩ (c_X9_plansOf l G cI cJ cZ cB cT m0 r h x4 x2 r_10 h_10 e_10 H.size) (gG_V m_398 m_399 m_400 m_64 m_397) rfl e_X9_plansOf ⟨Nat.le_of_ble_eq_true rfl, Nat.le_of_ble_eq_true rfl⟩ hK hP hD hE hS hA 0 wM_at0 rfl rfl hl.1 rfl (Nat.le_of_ble_eq_true rfl) dX9_plan_51 ⟨Nat.le_refl _, Nat.le_refl _⟩) hP hD hS hA (fun x_10 u_10 H locs hw_10 hP hD hS => ?_)
        subst x_10
        refine lv_if_eq (tgt := 134) hx hb dX9_plan_54 (by decide) (fun c_11 => ?_) (fun c_11 => ?_)
        · have hF := ob_pos c_11 hF
          refine lv_iinc (v := (x4 + 1)) (lv' := [(4, .int (x4 + 1)), (0, .ref m0), (2, .int x2), (3, .int x3)]) hx hb dX9_plan_134 hl (k := 3) rfl rfl (by decide) rfl (fun ls hl => ?_)
          refine lv_goto (tgt := 41) hx hb dX9_plan_137 (by decide) ?_
          exact ih_41 h_10 x2 x3 (x4 + 1) hF H _ ls hP hD hS (lv_sub hl [1, 2, 3, 0] rfl)
        · have hF := ob_neg c_11 hF
          refine lv_iload_n hx hb dX9_plan_57 rfl (lv_at hl 2 rfl) ?_
          refine lv_iconst (v := (-1)) hx hb dX9_plan_58 (by decide) ?_
          refine lv_icmp_ne (tgt := 67) hx hb dX9_plan_59 (by decide) (fun c_12 => ?_) (fun c_12 => ?_)
          · have hF := ob_neg c_12 hF
            refine lv_iconst (v := (-1)) hx hb dX9_plan_67 (by decide) ?_
            exact hJ_68 h_10 x3 x4 (-1) hF H _ ls hP hD hS (lv_sub hl [0, 2, 3] rfl)
          · have hF := ob_pos c_12 hF
            refine lv_iload hx hb dX9_plan_62 (lv_at hl 3 rfl) ?_
            refine lv_goto (tgt := 68) hx hb dX9_plan_64 (by decide) ?_
            exact hJ_68 h_10 x3 x4 x4 hF H _ ls hP hD hS (lv_sub hl [0, 2, 3] rfl)
  have hJ_33 : ∀ (h : HS) (x1 : Int32) (x2 : Int32) (x3 : Int32), f_X9_plan_33 h x1 x2 x3 = some (rr, hh) → ∀ (H : Heap) (locs : List Loc) (ls : Array Slot), va_P G vwCl (wM m0 r cI cJ cZ cB cT h) H → va_D A (wM m0 r cI cJ cZ cB cT h) → va_S A s.heap H locs → lv_has ls 7 [(0, .ref m0), (1, .int x1), (2, .int x2), (3, .int x3)] → W p l e (gRm 6) s m args below meth c H locs 0 0 (MQ below (va_Qi (fun x (_ : Unit) => x = rr) (gB G (fun (_ : Unit) => (wM m0 r cI cJ cZ cB cT hh)) A) A) args s 0 0 A) (F0 m 33 ls []) := by
    intro h x1 x2 x3 hF H locs ls hP hD hS hl
    unfold f_X9_plan_33 at hF
    refine lv_aload_n hx hb dX9_plan_33 rfl (lv_at hl 0 rfl) ?_
    refine lv_iload_n hx hb dX9_plan_34 rfl (lv_at hl 1 rfl) ?_
    obtain ⟨h_8, e_8, hF⟩ := ob1_some hF
    refine gx_callv (gx_runV (As := [.int x1]) (rest := []) ⟨hx, hb, hml, hown, hts⟩ (c_X9_laysFlock l G cI cJ cZ cB cT m0 r h x1 h_8 e_8 H.size) (gG_V m_394 m_395 m_396 m_64 m_393) rfl e_X9_laysFlock ⟨Nat.le_of_ble_eq_true rfl, Nat.le_of_ble_eq_true rfl⟩ hK hP hD hE hS hA 0 wM_at0 rfl rfl hl.1 rfl (Nat.le_of_ble_eq_true rfl) dX9_plan_35 ⟨Nat.le_refl _, Nat.le_refl _⟩) hP hD hS hA (fun u_8 H locs hw_8 hP hD hS => ?_)
    refine lv_iconst (v := 1) hx hb dX9_plan_38 (by decide) ?_
    refine lv_istore (lv' := [(4, .int 1), (0, .ref m0), (1, .int x1), (2, .int x2), (3, .int x3)]) hx hb dX9_plan_39 hl (by decide) rfl (fun ls hl => ?_)
    exact hJ_41 8589934592 h_8 x2 x3 1 hF H _ ls hP hD hS (lv_sub hl [1, 3, 4, 0] rfl)
  unfold f_X9_plan at hF
  refine lv_iload_n hx hb dX9_plan_0 rfl (lv_at hl 1 rfl) ?_
  obtain ⟨r_1, e_1, hF⟩ := ob1_some hF
  refine gx_calli0 (gx_runS0 (As := [.int p1]) (rest := []) ⟨hx, hb, hml, hown, hts⟩ (c_X9_isLetterNumber l G cI cJ cZ cB cT   p1 r_1 e_1 H.size) (gG_S m_348 m_349 m_64 m_347) rfl e_X9_isLetterNumber ⟨Nat.le_of_ble_eq_true rfl, Nat.le_of_ble_eq_true rfl⟩ hK hE hS hA rfl hl.1 rfl (Nat.le_of_ble_eq_true rfl) dX9_plan_1 ⟨Nat.le_refl _, Nat.le_refl _⟩) hP hD hS hA (fun x_1 u_1 H locs hw_1 hP hD hS => ?_)
  subst x_1
  refine lv_if_eq (tgt := 30) hx hb dX9_plan_4 (by decide) (fun c_2 => ?_) (fun c_2 => ?_)
  · have hF := ob_pos c_2 hF
    exact hJ_30 h hF H _ ls hP hD hS (lv_sub hl [] rfl)
  · have hF := ob_neg c_2 hF
    refine lv_iload_n hx hb dX9_plan_7 rfl (lv_at hl 2 rfl) ?_
    refine lv_iconst (v := 1) hx hb dX9_plan_8 (by decide) ?_
    refine lv_bipush (v := 100) hx hb dX9_plan_9 (by decide) ?_
    obtain ⟨r_3, e_3, hF⟩ := ob1_some hF
    refine gx_calli0 (gx_runS0 (As := [.int p2, .int 1, .int 100]) (rest := []) ⟨hx, hb, hml, hown, hts⟩ (c_X9_in l G cI cJ cZ cB cT   p2 1 100 r_3 e_3 H.size) (gG_S m_62 m_63 m_64 m_61) rfl e_X9_in ⟨Nat.le_of_ble_eq_true rfl, Nat.le_of_ble_eq_true rfl⟩ hK hE hS hA rfl hl.1 rfl (Nat.le_of_ble_eq_true rfl) dX9_plan_11 ⟨Nat.le_refl _, Nat.le_refl _⟩) hP hD hS hA (fun x_3 u_3 H locs hw_3 hP hD hS => ?_)
    subst x_3
    refine lv_if_eq (tgt := 30) hx hb dX9_plan_14 (by decide) (fun c_4 => ?_) (fun c_4 => ?_)
    · have hF := ob_pos c_4 hF
      exact hJ_30 h hF H _ ls hP hD hS (lv_sub hl [] rfl)
    · have hF := ob_neg c_4 hF
      refine lv_iload_n hx hb dX9_plan_17 rfl (lv_at hl 3 rfl) ?_
      refine lv_iconst (v := (-1)) hx hb dX9_plan_18 (by decide) ?_
      refine lv_icmp_eq (tgt := 33) hx hb dX9_plan_19 (by decide) (fun c_5 => ?_) (fun c_5 => ?_)
      · have hF := ob_pos c_5 hF
        exact hJ_33 h p1 p2 p3 hF H _ ls hP hD hS (lv_sub hl [0, 1, 2, 3] rfl)
      · have hF := ob_neg c_5 hF
        refine lv_aload_n hx hb dX9_plan_22 rfl (lv_at hl 0 rfl) ?_
        refine lv_iload_n hx hb dX9_plan_23 rfl (lv_at hl 3 rfl) ?_
        obtain ⟨r_6, h_6, e_6, hF⟩ := ob2_some hF
        refine gx_calli (gx_runV (As := [.int p3]) (rest := []) ⟨hx, hb, hml, hown, hts⟩ (c_X9_isGoose l G cI cJ cZ cB cT m0 r h p3 r_6 h_6 e_6 H.size) (gG_V m_99 m_100 m_101 m_64 m_98) rfl e_X9_isGoose ⟨Nat.le_of_ble_eq_true rfl, Nat.le_of_ble_eq_true rfl⟩ hK hP hD hE hS hA 0 wM_at0 rfl rfl hl.1 rfl (Nat.le_of_ble_eq_true rfl) dX9_plan_24 ⟨Nat.le_refl _, Nat.le_refl _⟩) hP hD hS hA (fun x_6 u_6 H locs hw_6 hP hD hS => ?_)
        subst x_6
        refine lv_if_ne (tgt := 33) hx hb dX9_plan_27 (by decide) (fun c_7 => ?_) (fun c_7 => ?_)
        · have hF := ob_neg c_7 hF
          exact hJ_33 h_6 p1 p2 p3 hF H _ ls hP hD hS (lv_sub hl [0, 1, 2, 3] rfl)
        · have hF := ob_pos c_7 hF
          exact hJ_30 h_6 hF H _ ls hP hD hS (lv_sub hl [] rfl)
