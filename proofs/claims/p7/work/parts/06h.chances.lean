theorem ei_X8_halvesOf : yX8_halvesOf.cls ≠ "java/lang/invoke/MethodHandle" ∧ yX8_halvesOf.cls ≠ "java/lang/invoke/VarHandle" ∧ (parseMethodDescriptor yX8_halvesOf.desc).map (fun d => d.parameters.length) = some 1 := by decide +kernel
def f_X0_add_129 : Nat → HS → Int32 → Int32 → Int32 → Int32 → Int32 → Option HS
  | 0, _, _, _, _, _, _ => none
  | n + 1, h, x4, x5, x7, x8, x9 => (if 16 ≤ x9 then (some (sL (sJ h 7 2 (va_cpy (eJ h 7 3) (eJ h 7 2) 0 0 16)) 7 1 ((eL h 7 1) * 100))) else (if 0 ≤ ((x9 ||| (x5 * 4))).toInt ∧ ((x9 ||| (x5 * 4))).toInt < 16 then (if 0 ≤ (x9).toInt ∧ (x9).toInt < 16 then (if 0 ≤ ((x9 ||| (x5 * 4))).toInt ∧ ((x9 ||| (x5 * 4))).toInt < 16 then (if 0 ≤ ((x9 ||| x4)).toInt ∧ ((x9 ||| x4)).toInt < 16 then (if 0 ≤ (x9).toInt ∧ (x9).toInt < 16 then (if 0 ≤ ((x9 ||| x4)).toInt ∧ ((x9 ||| x4)).toInt < 16 then ((f_X0_add_129 n) (sJ (sJ h 7 3 (vp_updL (eJ h 7 3) (((x9 ||| (x5 * 4))).toNatClampNeg) (((eJ h 7 3) (((x9 ||| (x5 * 4))).toNatClampNeg)) + (((eJ h 7 2) ((x9).toNatClampNeg)) * ((x8).toInt64))))) 7 3 (vp_updL (vp_updL (eJ h 7 3) (((x9 ||| (x5 * 4))).toNatClampNeg) (((eJ h 7 3) (((x9 ||| (x5 * 4))).toNatClampNeg)) + (((eJ h 7 2) ((x9).toNatClampNeg)) * ((x8).toInt64)))) (((x9 ||| x4)).toNatClampNeg) (((vp_updL (eJ h 7 3) (((x9 ||| (x5 * 4))).toNatClampNeg) (((eJ h 7 3) (((x9 ||| (x5 * 4))).toNatClampNeg)) + (((eJ h 7 2) ((x9).toNatClampNeg)) * ((x8).toInt64)))) (((x9 ||| x4)).toNatClampNeg)) + (((eJ h 7 2) ((x9).toNatClampNeg)) * ((x7).toInt64))))) x4 x5 x7 x8 (x9 + 1)) else none) else none) else none) else none) else none) else none))
theorem f_X0_add_129_s (n : Nat) (h : HS) (x4 : Int32) (x5 : Int32) (x7 : Int32) (x8 : Int32) (x9 : Int32) : f_X0_add_129 (n + 1) h x4 x5 x7 x8 x9 = (if 16 ≤ x9 then (some (sL (sJ h 7 2 (va_cpy (eJ h 7 3) (eJ h 7 2) 0 0 16)) 7 1 ((eL h 7 1) * 100))) else (if 0 ≤ ((x9 ||| (x5 * 4))).toInt ∧ ((x9 ||| (x5 * 4))).toInt < 16 then (if 0 ≤ (x9).toInt ∧ (x9).toInt < 16 then (if 0 ≤ ((x9 ||| (x5 * 4))).toInt ∧ ((x9 ||| (x5 * 4))).toInt < 16 then (if 0 ≤ ((x9 ||| x4)).toInt ∧ ((x9 ||| x4)).toInt < 16 then (if 0 ≤ (x9).toInt ∧ (x9).toInt < 16 then (if 0 ≤ ((x9 ||| x4)).toInt ∧ ((x9 ||| x4)).toInt < 16 then ((f_X0_add_129 n) (sJ (sJ h 7 3 (vp_updL (eJ h 7 3) (((x9 ||| (x5 * 4))).toNatClampNeg) (((eJ h 7 3) (((x9 ||| (x5 * 4))).toNatClampNeg)) + (((eJ h 7 2) ((x9).toNatClampNeg)) * ((x8).toInt64))))) 7 3 (vp_updL (vp_updL (eJ h 7 3) (((x9 ||| (x5 * 4))).toNatClampNeg) (((eJ h 7 3) (((x9 ||| (x5 * 4))).toNatClampNeg)) + (((eJ h 7 2) ((x9).toNatClampNeg)) * ((x8).toInt64)))) (((x9 ||| x4)).toNatClampNeg) (((vp_updL (eJ h 7 3) (((x9 ||| (x5 * 4))).toNatClampNeg) (((eJ h 7 3) (((x9 ||| (x5 * 4))).toNatClampNeg)) + (((eJ h 7 2) ((x9).toNatClampNeg)) * ((x8).toInt64)))) (((x9 ||| x4)).toNatClampNeg)) + (((eJ h 7 2) ((x9).toNatClampNeg)) * ((x7).toInt64))))) x4 x5 x7 x8 (x9 + 1)) else none) else none) else none) else none) else none) else none)) := rfl
def f_X0_add_86 : Nat → HS → Int32 → Int32 → Int32 → Int32 → Int32 → Option HS
  | 0, _, _, _, _, _, _ => none
  | n + 1, h, x4, x5, x7, x8, x9 => (if 16 ≤ x9 then (f_X0_add_129 8589934592 h x4 x5 x7 x8 0) else (if 0 ≤ (x9).toInt ∧ (x9).toInt < 16 then (if 0 ≤ (x9).toInt ∧ (x9).toInt < 16 then ((f_X0_add_86 n) (sJ h 7 3 (vp_updL (eJ h 7 3) ((x9).toNatClampNeg) (((eJ h 7 2) ((x9).toNatClampNeg)) * ((((100 - x8) - x7)).toInt64)))) x4 x5 x7 x8 (x9 + 1)) else none) else none))
theorem f_X0_add_86_s (n : Nat) (h : HS) (x4 : Int32) (x5 : Int32) (x7 : Int32) (x8 : Int32) (x9 : Int32) : f_X0_add_86 (n + 1) h x4 x5 x7 x8 x9 = (if 16 ≤ x9 then (f_X0_add_129 8589934592 h x4 x5 x7 x8 0) else (if 0 ≤ (x9).toInt ∧ (x9).toInt < 16 then (if 0 ≤ (x9).toInt ∧ (x9).toInt < 16 then ((f_X0_add_86 n) (sJ h 7 3 (vp_updL (eJ h 7 3) ((x9).toNatClampNeg) (((eJ h 7 2) ((x9).toNatClampNeg)) * ((((100 - x8) - x7)).toInt64)))) x4 x5 x7 x8 (x9 + 1)) else none) else none)) := rfl
def f_X0_add_46 (h : HS) (x3 : Int32) (x4 : Int32) (y0 : Int32) : Option HS := (ob1 (f_X1_lookAtTraveller h x3) (fun h_6 => (ob2 (f_X1_rule h_6 0) (fun r_7 h_7 => (ob2 (f_X1_rule h_7 1) (fun r_8 h_8 => (f_X0_add_86 8589934592 h_8 x4 y0 (r_7 * r_8) ((10 - r_7) * 10) 0)))))))
def f_X0_add (h : HS) (p1 : Int32) : Option HS := (if ((eI h 7 0) + 1) ≤ 8 then (ob2 (f_X4_ofGoose (sI h 7 0 ((eI h 7 0) + 1)) p1 3) (fun r_2 h_2 => (ob1 (f_X8_halvesOf r_2) (fun r_3 => (ob2 (f_X1_isTrue h_2 p1) (fun r_4 h_4 => (if r_4 = 0 then (f_X0_add_46 h_4 p1 r_3 0) else (f_X0_add_46 h_4 p1 r_3 r_3)))))))) else (some (sI h 7 0 ((eI h 7 0) + 1))))
theorem e_X1_isTrue : yX1_isTrue.cls = RX1 ∧ yX1_isTrue.cls ≠ "java/lang/invoke/MethodHandle" ∧ yX1_isTrue.cls ≠ "java/lang/invoke/VarHandle" ∧ (parseMethodDescriptor yX1_isTrue.desc).map (fun d => d.parameters.length) = some 2 := by decide +kernel
theorem e_X1_lookAtTraveller : yX1_lookAtTraveller.cls = RX1 ∧ yX1_lookAtTraveller.cls ≠ "java/lang/invoke/MethodHandle" ∧ yX1_lookAtTraveller.cls ≠ "java/lang/invoke/VarHandle" ∧ (parseMethodDescriptor yX1_lookAtTraveller.desc).map (fun d => d.parameters.length) = some 2 := by decide +kernel
set_option maxHeartbeats 4000000 in
set_option maxRecDepth 100000 in
theorem c_X0_add (l : Launch) (G : va_G) (cI cJ cZ cB cT : ClassId) (q : Nat → Nat) (h : HS) (p1 : Int32) (hh : HS) (hF : f_X0_add h p1 = some hh) : gMv l yX0_add (gws yX0_add cX0_add 10 none) 5 G (gT cI cJ cZ cB cT) [.ref (q 20), .ref (q 1), .ref (q 16), .int p1] (wC q cI cJ cZ cB cT h) (fun (_ : Unit) => True) (fun (_ : Unit) => (wC q cI cJ cZ cB cT hh)) := by
  intro sz
  refine gM_start (y := yX0_add) (av := [.ref (q 20), .ref (q 1), .ref (q 16), .int p1]) (ws := (wC q cI cJ cZ cB cT h)) (Qf := fun A => va_Qv (fun (_ : Unit) => True) (gB G (fun (_ : Unit) => (wC q cI cJ cZ cB cT hh)) A) A) (cc := cX0_add) (maxL := 10) (ret := none) (by decide) (Nat.le_of_ble_eq_true rfl) ?_
  intro p e s m args below meth c A ls H hx hb hr hts hown hin hlocks hml hP hK hD hA hS hl hE
  have hl : lv_has ls 10 [(0, .ref (q 20)), (1, .ref (q 1)), (2, .ref (q 16)), (3, .int p1)] := hl
  have hJ_129 : ∀ (n_129 : Nat) (h : HS) (x4 : Int32) (x5 : Int32) (x7 : Int32) (x8 : Int32) (x9 : Int32), f_X0_add_129 n_129 h x4 x5 x7 x8 x9 = some hh → ∀ (H : Heap) (locs : List Loc) (ls : Array Slot), va_P G vwCl (wC q cI cJ cZ cB cT h) H → va_D A (wC q cI cJ cZ cB cT h) → va_S A s.heap H locs → lv_has ls 10 [(0, .ref (q 20)), (4, .int x4), (5, .int x5), (7, .int x7), (8, .int x8), (9, .int x9)] → W p l e (gRm 5) s m args below meth c H locs 0 0 (MQ below (va_Qv (fun (_ : Unit) => True) (gB G (fun (_ : Unit) => (wC q cI cJ cZ cB cT hh)) A) A) args s 0 0 A) (F0 m 129 ls []) := by
    intro n_129
    induction n_129 with
    | zero =>
      intro h x4 x5 x7 x8 x9 hF
      exact absurd hF (by simp [f_X0_add_129])
    | succ n_129 ih_129 =>
      intro h x4 x5 x7 x8 x9 hF H locs ls hP hD hS hl
      rw [f_X0_add_129_s] at hF
      refine lv_iload hx hb dX0_add_129 (lv_at hl 5 rfl) ?_
      refine lv_aload_n hx hb dX0_add_131 rfl (lv_at hl 0 rfl) ?_
      refine va_get (D := G) (ci := 0) (v := .ref (q 21)) (C := RX0) (T := TX0) (N := 4) hx hb hts iX0 hown hK hP 20 wC_at20 rfl 2 (by decide) (hts _ m_467) (fun _ h9 => h9) rfl dX0_add_132 ?_
      refine va_alen (D := G) hx hb hK hP 21 1 wC_at21 rfl (v := 16) rfl dX0_add_135 ?_
      refine lv_icmp_ge (tgt := 195) hx hb dX0_add_136 (by decide) (fun c_12 => ?_) (fun c_12 => ?_)
      · have hF := ob_pos c_12 hF
        refine lv_aload_n hx hb dX0_add_195 rfl (lv_at hl 0 rfl) ?_
        refine va_get (D := G) (ci := 0) (v := .ref (q 22)) (C := RX0) (T := TX0) (N := 4) hx hb hts iX0 hown hK hP 20 wC_at20 rfl 3 (by decide) (hts _ m_606) (fun _ h9 => h9) rfl dX0_add_196 ?_
        refine lv_iconst (v := 0) hx hb dX0_add_199 (by decide) ?_
        refine lv_aload_n hx hb dX0_add_200 rfl (lv_at hl 0 rfl) ?_
        refine va_get (D := G) (ci := 0) (v := .ref (q 21)) (C := RX0) (T := TX0) (N := 4) hx hb hts iX0 hown hK hP 20 wC_at20 rfl 2 (by decide) (hts _ m_467) (fun _ h9 => h9) rfl dX0_add_201 ?_
        refine lv_iconst (v := 0) hx hb dX0_add_204 (by decide) ?_
        refine lv_aload_n hx hb dX0_add_205 rfl (lv_at hl 0 rfl) ?_
        refine va_get (D := G) (ci := 0) (v := .ref (q 21)) (C := RX0) (T := TX0) (N := 4) hx hb hts iX0 hown hK hP 20 wC_at20 rfl 2 (by decide) (hts _ m_467) (fun _ h9 => h9) rfl dX0_add_206 ?_
        refine va_alen (D := G) hx hb hK hP 21 1 wC_at21 rfl (v := 16) rfl dX0_add_209 ?_
        refine va_copyl (D := G) hx hb (by rw [hml]; exact hl.1.symm) hown (hts _ m_607) (hts _ m_45) (hts _ m_46) (hts _ m_47) hK hP hD hS 22 21 1 1 wC_at22 wC_at21 rfl rfl rfl (by decide) (by decide) (by decide) (by decide) (by decide) (fun _ _ => rfl) (Nat.le_of_ble_eq_true rfl) (Nat.le_of_ble_eq_true rfl) dX0_add_210 (fun H locs hP hD hS => ?_)
        rw [wC_sA21] at hP hD
        have hP : va_P G vwCl (wC q cI cJ cZ cB cT (sJ h 7 2 (va_cpy (eJ h 7 3) (eJ h 7 2) 0 0 16))) H := hP
        have hD : va_D A (wC q cI cJ cZ cB cT (sJ h 7 2 (va_cpy (eJ h 7 3) (eJ h 7 2) 0 0 16))) := hD
        refine lv_aload_n hx hb dX0_add_213 rfl (lv_at hl 0 rfl) ?_
        refine lv_dup hx hb dX0_add_214 rfl ?_
        refine va_get (D := G) (ci := 0) (v := .long (eL h 7 1)) (C := RX0) (T := TX0) (N := 4) hx hb hts iX0 hown hK hP 20 wC_at20 rfl 1 (by decide) (hts _ m_466) (fun _ h9 => h9) rfl dX0_add_215 ?_
        refine lv_ldc2 (v := 100) hx hb hown (hts _ m_608) dX0_add_218 ?_
        refine lv_lmul hx hb dX0_add_221 ?_
        refine va_put (D := G) (ci := 0) (v := .long ((eL h 7 1) * 100)) (ty := .long) (C := RX0) (T := TX0) (N := 4) hx hb hts iX0 tyX0 tyX0_ok nmX0 hown hK hP hD hS 20 wC_at20 rfl 1 (by decide) (hts _ m_466) (fun _ h9 => h9) rfl (tyX0_ok 1 (by decide)) rfl rfl (Nat.le_of_ble_eq_true rfl) dX0_add_222 (fun H locs hP hD hS => ?_)
        rw [wC_sI20_1] at hP hD
        obtain rfl := ob_one hF
        exact gw_vret () hx hb hr hlocks hP hD hS trivial dX0_add_225
      · have hF := ob_neg c_12 hF
        refine lv_aload_n hx hb dX0_add_139 rfl (lv_at hl 0 rfl) ?_
        refine va_get (D := G) (ci := 0) (v := .ref (q 22)) (C := RX0) (T := TX0) (N := 4) hx hb hts iX0 hown hK hP 20 wC_at20 rfl 3 (by decide) (hts _ m_606) (fun _ h9 => h9) rfl dX0_add_140 ?_
        refine lv_iload hx hb dX0_add_143 (lv_at hl 5 rfl) ?_
        refine lv_iload hx hb dX0_add_145 (lv_at hl 2 rfl) ?_
        refine lv_iconst (v := 4) hx hb dX0_add_147 (by decide) ?_
        refine lv_imul hx hb dX0_add_148 ?_
        refine lv_ior hx hb dX0_add_149 ?_
        refine lv_dup2_11 hx hb dX0_add_150 rfl rfl ?_
        obtain ⟨hi_13, hF⟩ := ob_if hF
        refine va_lald (D := G) hx hb hK hP 22 1 wC_at22 rfl (vp_in_iff.mpr hi_13) dX0_add_151 ?_
        refine gw_topl (y := ((eJ h 7 3) (((x9 ||| (x5 * 4))).toNatClampNeg))) rfl ?_
        refine lv_aload_n hx hb dX0_add_152 rfl (lv_at hl 0 rfl) ?_
        refine va_get (D := G) (ci := 0) (v := .ref (q 21)) (C := RX0) (T := TX0) (N := 4) hx hb hts iX0 hown hK hP 20 wC_at20 rfl 2 (by decide) (hts _ m_467) (fun _ h9 => h9) rfl dX0_add_153 ?_
        refine lv_iload hx hb dX0_add_156 (lv_at hl 5 rfl) ?_
        obtain ⟨hi_14, hF⟩ := ob_if hF
        refine va_lald (D := G) hx hb hK hP 21 1 wC_at21 rfl (vp_in_iff.mpr hi_14) dX0_add_158 ?_
        refine gw_topl (y := ((eJ h 7 2) ((x9).toNatClampNeg))) rfl ?_
        refine lv_iload hx hb dX0_add_159 (lv_at hl 4 rfl) ?_
        refine lv_i2l (v := (x8).toInt64) hx hb dX0_add_161 rfl ?_
        refine lv_lmul hx hb dX0_add_162 ?_
        refine lv_ladd hx hb dX0_add_163 ?_
        obtain ⟨hi_15, hF⟩ := ob_if hF
        refine va_last (D := G) hx hb hK hP hD hS 22 1 wC_at22 rfl (vp_in_iff.mpr hi_15) dX0_add_164 (fun H locs hP hD hS => ?_)
        rw [wC_sA22] at hP hD
        have hP : va_P G vwCl (wC q cI cJ cZ cB cT (sJ h 7 3 (vp_updL (eJ h 7 3) (((x9 ||| (x5 * 4))).toNatClampNeg) (((eJ h 7 3) (((x9 ||| (x5 * 4))).toNatClampNeg)) + (((eJ h 7 2) ((x9).toNatClampNeg)) * ((x8).toInt64)))))) H := hP
        have hD : va_D A (wC q cI cJ cZ cB cT (sJ h 7 3 (vp_updL (eJ h 7 3) (((x9 ||| (x5 * 4))).toNatClampNeg) (((eJ h 7 3) (((x9 ||| (x5 * 4))).toNatClampNeg)) + (((eJ h 7 2) ((x9).toNatClampNeg)) * ((x8).toInt64)))))) := hD
        refine lv_aload_n hx hb dX0_add_165 rfl (lv_at hl 0 rfl) ?_
        refine va_get (D := G) (ci := 0) (v := .ref (q 22)) (C := RX0) (T := TX0) (N := 4) hx hb hts iX0 hown hK hP 20 wC_at20 rfl 3 (by decide) (hts _ m_606) (fun _ h9 => h9) rfl dX0_add_166 ?_
        refine lv_iload hx hb dX0_add_169 (lv_at hl 5 rfl) ?_
        refine lv_iload hx hb dX0_add_171 (lv_at hl 1 rfl) ?_
        refine lv_ior hx hb dX0_add_173 ?_
        refine lv_dup2_11 hx hb dX0_add_174 rfl rfl ?_
        obtain ⟨hi_16, hF⟩ := ob_if hF
        refine va_lald (D := G) hx hb hK hP 22 1 wC_at22 rfl (vp_in_iff.mpr hi_16) dX0_add_175 ?_
        refine gw_topl (y := ((vp_updL (eJ h 7 3) (((x9 ||| (x5 * 4))).toNatClampNeg) (((eJ h 7 3) (((x9 ||| (x5 * 4))).toNatClampNeg)) + (((eJ h 7 2) ((x9).toNatClampNeg)) * ((x8).toInt64)))) (((x9 ||| x4)).toNatClampNeg))) rfl ?_
        refine lv_aload_n hx hb dX0_add_176 rfl (lv_at hl 0 rfl) ?_
        refine va_get (D := G) (ci := 0) (v := .ref (q 21)) (C := RX0) (T := TX0) (N := 4) hx hb hts iX0 hown hK hP 20 wC_at20 rfl 2 (by decide) (hts _ m_467) (fun _ h9 => h9) rfl dX0_add_177 ?_
        refine lv_iload hx hb dX0_add_180 (lv_at hl 5 rfl) ?_
        obtain ⟨hi_17, hF⟩ := ob_if hF
        refine va_lald (D := G) hx hb hK hP 21 1 wC_at21 rfl (vp_in_iff.mpr hi_17) dX0_add_182 ?_
        refine gw_topl (y := ((eJ h 7 2) ((x9).toNatClampNeg))) rfl ?_
        refine lv_iload hx hb dX0_add_183 (lv_at hl 3 rfl) ?_
        refine lv_i2l (v := (x7).toInt64) hx hb dX0_add_185 rfl ?_
        refine lv_lmul hx hb dX0_add_186 ?_
        refine lv_ladd hx hb dX0_add_187 ?_
        obtain ⟨hi_18, hF⟩ := ob_if hF
        refine va_last (D := G) hx hb hK hP hD hS 22 1 wC_at22 rfl (vp_in_iff.mpr hi_18) dX0_add_188 (fun H locs hP hD hS => ?_)
        rw [wC_sA22] at hP hD
        have hP : va_P G vwCl (wC q cI cJ cZ cB cT (sJ (sJ h 7 3 (vp_updL (eJ h 7 3) (((x9 ||| (x5 * 4))).toNatClampNeg) (((eJ h 7 3) (((x9 ||| (x5 * 4))).toNatClampNeg)) + (((eJ h 7 2) ((x9).toNatClampNeg)) * ((x8).toInt64))))) 7 3 (vp_updL (vp_updL (eJ h 7 3) (((x9 ||| (x5 * 4))).toNatClampNeg) (((eJ h 7 3) (((x9 ||| (x5 * 4))).toNatClampNeg)) + (((eJ h 7 2) ((x9).toNatClampNeg)) * ((x8).toInt64)))) (((x9 ||| x4)).toNatClampNeg) (((vp_updL (eJ h 7 3) (((x9 ||| (x5 * 4))).toNatClampNeg) (((eJ h 7 3) (((x9 ||| (x5 * 4))).toNatClampNeg)) + (((eJ h 7 2) ((x9).toNatClampNeg)) * ((x8).toInt64)))) (((x9 ||| x4)).toNatClampNeg)) + (((eJ h 7 2) ((x9).toNatClampNeg)) * ((x7).toInt64)))))) H := hP
        have hD : va_D A (wC q cI cJ cZ cB cT (sJ (sJ h 7 3 (vp_updL (eJ h 7 3) (((x9 ||| (x5 * 4))).toNatClampNeg) (((eJ h 7 3) (((x9 ||| (x5 * 4))).toNatClampNeg)) + (((eJ h 7 2) ((x9).toNatClampNeg)) * ((x8).toInt64))))) 7 3 (vp_updL (vp_updL (eJ h 7 3) (((x9 ||| (x5 * 4))).toNatClampNeg) (((eJ h 7 3) (((x9 ||| (x5 * 4))).toNatClampNeg)) + (((eJ h 7 2) ((x9).toNatClampNeg)) * ((x8).toInt64)))) (((x9 ||| x4)).toNatClampNeg) (((vp_updL (eJ h 7 3) (((x9 ||| (x5 * 4))).toNatClampNeg) (((eJ h 7 3) (((x9 ||| (x5 * 4))).toNatClampNeg)) + (((eJ h 7 2) ((x9).toNatClampNeg)) * ((x8).toInt64)))) (((x9 ||| x4)).toNatClampNeg)) + (((eJ h 7 2) ((x9).toNatClampNeg)) * ((x7).toInt64)))))) := hD
        refine lv_iinc (v := (x9 + 1)) (lv' := [(9, .int (x9 + 1)), (0, .ref (q 20)), (4, .int x4), (5, .int x5), (7, .int x7), (8, .int x8)]) hx hb dX0_add_189 hl (k := 5) rfl rfl (by decide) rfl (fun ls hl => ?_)
        refine lv_goto (tgt := 129) hx hb dX0_add_192 (by decide) ?_
        exact ih_129 (sJ (sJ h 7 3 (vp_updL (eJ h 7 3) (((x9 ||| (x5 * 4))).toNatClampNeg) (((eJ h 7 3) (((x9 ||| (x5 * 4))).toNatClampNeg)) + (((eJ h 7 2) ((x9).toNatClampNeg)) * ((x8).toInt64))))) 7 3 (vp_updL (vp_updL (eJ h 7 3) (((x9 ||| (x5 * 4))).toNatClampNeg) (((eJ h 7 3) (((x9 ||| (x5 * 4))).toNatClampNeg)) + (((eJ h 7 2) ((x9).toNatClampNeg)) * ((x8).toInt64)))) (((x9 ||| x4)).toNatClampNeg) (((vp_updL (eJ h 7 3) (((x9 ||| (x5 * 4))).toNatClampNeg) (((eJ h 7 3) (((x9 ||| (x5 * 4))).toNatClampNeg)) + (((eJ h 7 2) ((x9).toNatClampNeg)) * ((x8).toInt64)))) (((x9 ||| x4)).toNatClampNeg)) + (((eJ h 7 2) ((x9).toNatClampNeg)) * ((x7).toInt64))))) x4 x5 x7 x8 (x9 + 1) hF H _ ls hP hD hS (lv_sub hl [1, 2, 3, 4, 5, 0] rfl)
  have hJ_86 : ∀ (n_86 : Nat) (h : HS) (x4 : Int32) (x5 : Int32) (x7 : Int32) (x8 : Int32) (x9 : Int32), f_X0_add_86 n_86 h x4 x5 x7 x8 x9 = some hh → ∀ (H : Heap) (locs : List Loc) (ls : Array Slot), va_P G vwCl (wC q cI cJ cZ cB cT h) H → va_D A (wC q cI cJ cZ cB cT h) → va_S A s.heap H locs → lv_has ls 10 [(0, .ref (q 20)), (4, .int x4), (5, .int x5), (7, .int x7), (8, .int x8), (9, .int x9)] → W p l e (gRm 5) s m args below meth c H locs 0 0 (MQ below (va_Qv (fun (_ : Unit) => True) (gB G (fun (_ : Unit) => (wC q cI cJ cZ cB cT hh)) A) A) args s 0 0 A) (F0 m 86 ls []) := by
    intro n_86
    induction n_86 with
    | zero =>
      intro h x4 x5 x7 x8 x9 hF
      exact absurd hF (by simp [f_X0_add_86])
    | succ n_86 ih_86 =>
      intro h x4 x5 x7 x8 x9 hF H locs ls hP hD hS hl
      rw [f_X0_add_86_s] at hF
      refine lv_iload hx hb dX0_add_86 (lv_at hl 5 rfl) ?_
      refine lv_aload_n hx hb dX0_add_88 rfl (lv_at hl 0 rfl) ?_
      refine va_get (D := G) (ci := 0) (v := .ref (q 22)) (C := RX0) (T := TX0) (N := 4) hx hb hts iX0 hown hK hP 20 wC_at20 rfl 3 (by decide) (hts _ m_606) (fun _ h9 => h9) rfl dX0_add_89 ?_
      refine va_alen (D := G) hx hb hK hP 22 1 wC_at22 rfl (v := 16) rfl dX0_add_92 ?_
      refine lv_icmp_ge (tgt := 126) hx hb dX0_add_93 (by decide) (fun c_9 => ?_) (fun c_9 => ?_)
      · have hF := ob_pos c_9 hF
        refine lv_iconst (v := 0) hx hb dX0_add_126 (by decide) ?_
        refine lv_istore (lv' := [(9, .int 0), (0, .ref (q 20)), (4, .int x4), (5, .int x5), (7, .int x7), (8, .int x8)]) hx hb dX0_add_127 hl (by decide) rfl (fun ls hl => ?_)
        exact hJ_129 8589934592 h x4 x5 x7 x8 0 hF H _ ls hP hD hS (lv_sub hl [1, 2, 3, 4, 5, 0] rfl)
      · have hF := ob_neg c_9 hF
        refine lv_aload_n hx hb dX0_add_96 rfl (lv_at hl 0 rfl) ?_
        refine va_get (D := G) (ci := 0) (v := .ref (q 22)) (C := RX0) (T := TX0) (N := 4) hx hb hts iX0 hown hK hP 20 wC_at20 rfl 3 (by decide) (hts _ m_606) (fun _ h9 => h9) rfl dX0_add_97 ?_
        refine lv_iload hx hb dX0_add_100 (lv_at hl 5 rfl) ?_
        refine lv_aload_n hx hb dX0_add_102 rfl (lv_at hl 0 rfl) ?_
        refine va_get (D := G) (ci := 0) (v := .ref (q 21)) (C := RX0) (T := TX0) (N := 4) hx hb hts iX0 hown hK hP 20 wC_at20 rfl 2 (by decide) (hts _ m_467) (fun _ h9 => h9) rfl dX0_add_103 ?_
        refine lv_iload hx hb dX0_add_106 (lv_at hl 5 rfl) ?_
        obtain ⟨hi_10, hF⟩ := ob_if hF
        refine va_lald (D := G) hx hb hK hP 21 1 wC_at21 rfl (vp_in_iff.mpr hi_10) dX0_add_108 ?_
        refine gw_topl (y := ((eJ h 7 2) ((x9).toNatClampNeg))) rfl ?_
        refine lv_bipush (v := 100) hx hb dX0_add_109 (by decide) ?_
        refine lv_iload hx hb dX0_add_111 (lv_at hl 4 rfl) ?_
        refine lv_isub hx hb dX0_add_113 ?_
        refine lv_iload hx hb dX0_add_114 (lv_at hl 3 rfl) ?_
        refine lv_isub hx hb dX0_add_116 ?_
        refine lv_i2l (v := (((100 - x8) - x7)).toInt64) hx hb dX0_add_117 rfl ?_
        refine lv_lmul hx hb dX0_add_118 ?_
        obtain ⟨hi_11, hF⟩ := ob_if hF
        refine va_last (D := G) hx hb hK hP hD hS 22 1 wC_at22 rfl (vp_in_iff.mpr hi_11) dX0_add_119 (fun H locs hP hD hS => ?_)
        rw [wC_sA22] at hP hD
        have hP : va_P G vwCl (wC q cI cJ cZ cB cT (sJ h 7 3 (vp_updL (eJ h 7 3) ((x9).toNatClampNeg) (((eJ h 7 2) ((x9).toNatClampNeg)) * ((((100 - x8) - x7)).toInt64))))) H := hP
        have hD : va_D A (wC q cI cJ cZ cB cT (sJ h 7 3 (vp_updL (eJ h 7 3) ((x9).toNatClampNeg) (((eJ h 7 2) ((x9).toNatClampNeg)) * ((((100 - x8) - x7)).toInt64))))) := hD
        refine lv_iinc (v := (x9 + 1)) (lv' := [(9, .int (x9 + 1)), (0, .ref (q 20)), (4, .int x4), (5, .int x5), (7, .int x7), (8, .int x8)]) hx hb dX0_add_120 hl (k := 5) rfl rfl (by decide) rfl (fun ls hl => ?_)
        refine lv_goto (tgt := 86) hx hb dX0_add_123 (by decide) ?_
        exact ih_86 (sJ h 7 3 (vp_updL (eJ h 7 3) ((x9).toNatClampNeg) (((eJ h 7 2) ((x9).toNatClampNeg)) * ((((100 - x8) - x7)).toInt64)))) x4 x5 x7 x8 (x9 + 1) hF H _ ls hP hD hS (lv_sub hl [1, 2, 3, 4, 5, 0] rfl)
  have hJ_46 : ∀ (h : HS) (x3 : Int32) (x4 : Int32) (y0 : Int32), f_X0_add_46 h x3 x4 y0 = some hh → ∀ (H : Heap) (locs : List Loc) (ls : Array Slot), va_P G vwCl (wC q cI cJ cZ cB cT h) H → va_D A (wC q cI cJ cZ cB cT h) → va_S A s.heap H locs → lv_has ls 10 [(0, .ref (q 20)), (1, .ref (q 1)), (2, .ref (q 16)), (3, .int x3), (4, .int x4)] → W p l e (gRm 5) s m args below meth c H locs 0 0 (MQ below (va_Qv (fun (_ : Unit) => True) (gB G (fun (_ : Unit) => (wC q cI cJ cZ cB cT hh)) A) A) args s 0 0 A) (F0 m 46 ls [.int y0]) := by
    intro h x3 x4 y0 hF H locs ls hP hD hS hl
    unfold f_X0_add_46 at hF
    refine lv_istore (lv' := [(5, .int y0), (0, .ref (q 20)), (1, .ref (q 1)), (2, .ref (q 16)), (3, .int x3), (4, .int x4)]) hx hb dX0_add_46 hl (by decide) rfl (fun ls hl => ?_)
    refine lv_aload_n hx hb dX0_add_48 rfl (lv_at hl 3 rfl) ?_
    refine lv_aload_n hx hb dX0_add_49 rfl (lv_at hl 2 rfl) ?_
    refine lv_iload_n hx hb dX0_add_50 rfl (lv_at hl 4 rfl) ?_
    obtain ⟨h_6, e_6, hF⟩ := ob1_some hF
    refine gx_callv (gx_runV (As := [.ref (q 1), .int x3]) (rest := []) ⟨hx, hb, hml, hown, hts⟩ (c_X1_lookAtTraveller l G cI cJ cZ cB cT q h x3 h_6 e_6 H.size) (gG_V m_602 m_603 m_604 m_436 m_601) rfl e_X1_lookAtTraveller ⟨Nat.le_of_ble_eq_true rfl, Nat.le_of_ble_eq_true rfl⟩ hK hP hD hE hS hA 16 wC_at16 rfl rfl hl.1 rfl (Nat.le_of_ble_eq_true rfl) dX0_add_51 ⟨Nat.le_refl _, Nat.le_refl _⟩) hP hD hS hA (fun u_6 H locs hw_6 hP hD hS => ?_)
    refine lv_aload_n hx hb dX0_add_54 rfl (lv_at hl 3 rfl) ?_
    refine lv_aload_n hx hb dX0_add_55 rfl (lv_at hl 2 rfl) ?_
    refine lv_iconst (v := 0) hx hb dX0_add_56 (by decide) ?_
    obtain ⟨r_7, h_7, e_7, hF⟩ := ob2_some hF
    refine gx_calli (gx_runV (As := [.ref (q 1), .int 0]) (rest := []) ⟨hx, hb, hml, hown, hts⟩ (c_X1_rule l G cI cJ cZ cB cT q h_6 0 r_7 h_7 e_7 H.size) (gG_V m_605 m_592 m_593 m_436 m_590) rfl e_X1_rule ⟨Nat.le_of_ble_eq_true rfl, Nat.le_of_ble_eq_true rfl⟩ hK hP hD hE hS hA 16 wC_at16 rfl rfl hl.1 rfl (Nat.le_of_ble_eq_true rfl) dX0_add_57 ⟨Nat.le_refl _, Nat.le_refl _⟩) hP hD hS hA (fun x_7 u_7 H locs hw_7 hP hD hS => ?_)
    subst x_7
    refine lv_istore (lv' := [(6, .int r_7), (5, .int y0), (0, .ref (q 20)), (1, .ref (q 1)), (2, .ref (q 16)), (3, .int x3), (4, .int x4)]) hx hb dX0_add_60 hl (by decide) rfl (fun ls hl => ?_)
    refine lv_iload hx hb dX0_add_62 (lv_at hl 0 rfl) ?_
    refine lv_aload_n hx hb dX0_add_64 rfl (lv_at hl 4 rfl) ?_
    refine lv_aload_n hx hb dX0_add_65 rfl (lv_at hl 3 rfl) ?_
    refine lv_iconst (v := 1) hx hb dX0_add_66 (by decide) ?_
    obtain ⟨r_8, h_8, e_8, hF⟩ := ob2_some hF
    refine gx_calli (gx_runV (As := [.ref (q 1), .int 1]) (rest := [.int r_7]) ⟨hx, hb, hml, hown, hts⟩ (c_X1_rule l G cI cJ cZ cB cT q h_7 1 r_8 h_8 e_8 H.size) (gG_V m_605 m_592 m_593 m_436 m_590) rfl e_X1_rule ⟨Nat.le_of_ble_eq_true rfl, Nat.le_of_ble_eq_true rfl⟩ hK hP hD hE hS hA 16 wC_at16 rfl rfl hl.1 rfl (Nat.le_of_ble_eq_true rfl) dX0_add_67 ⟨Nat.le_refl _, Nat.le_refl _⟩) hP hD hS hA (fun x_8 u_8 H locs hw_8 hP hD hS => ?_)
    subst x_8
    refine lv_imul hx hb dX0_add_70 ?_
    refine lv_istore (lv' := [(7, .int (r_7 * r_8)), (6, .int r_7), (5, .int y0), (0, .ref (q 20)), (1, .ref (q 1)), (2, .ref (q 16)), (3, .int x3), (4, .int x4)]) hx hb dX0_add_71 hl (by decide) rfl (fun ls hl => ?_)
    refine lv_bipush (v := 10) hx hb dX0_add_73 (by decide) ?_
    refine lv_iload hx hb dX0_add_75 (lv_at hl 1 rfl) ?_
    refine lv_isub hx hb dX0_add_77 ?_
    refine lv_bipush (v := 10) hx hb dX0_add_78 (by decide) ?_
    refine lv_imul hx hb dX0_add_80 ?_
    refine lv_istore (lv' := [(8, .int ((10 - r_7) * 10)), (7, .int (r_7 * r_8)), (6, .int r_7), (5, .int y0), (0, .ref (q 20)), (1, .ref (q 1)), (2, .ref (q 16)), (3, .int x3), (4, .int x4)]) hx hb dX0_add_81 hl (by decide) rfl (fun ls hl => ?_)
    refine lv_iconst (v := 0) hx hb dX0_add_83 (by decide) ?_
    refine lv_istore (lv' := [(9, .int 0), (8, .int ((10 - r_7) * 10)), (7, .int (r_7 * r_8)), (6, .int r_7), (5, .int y0), (0, .ref (q 20)), (1, .ref (q 1)), (2, .ref (q 16)), (3, .int x3), (4, .int x4)]) hx hb dX0_add_84 hl (by decide) rfl (fun ls hl => ?_)
    exact hJ_86 8589934592 h_8 x4 y0 (r_7 * r_8) ((10 - r_7) * 10) 0 hF H _ ls hP hD hS (lv_sub hl [5, 9, 4, 2, 1, 0] rfl)
  unfold f_X0_add at hF
  refine lv_aload_n hx hb dX0_add_0 rfl (lv_at hl 0 rfl) ?_
  refine lv_dup hx hb dX0_add_1 rfl ?_
  refine va_get (D := G) (ci := 0) (v := .int (eI h 7 0)) (C := RX0) (T := TX0) (N := 4) hx hb hts iX0 hown hK hP 20 wC_at20 rfl 0 (by decide) (hts _ m_465) (fun _ h9 => h9) rfl dX0_add_2 ?_
  refine lv_iconst (v := 1) hx hb dX0_add_5 (by decide) ?_
  refine lv_iadd hx hb dX0_add_6 ?_
  refine va_put (D := G) (ci := 0) (v := .int ((eI h 7 0) + 1)) (ty := .int) (C := RX0) (T := TX0) (N := 4) hx hb hts iX0 tyX0 tyX0_ok nmX0 hown hK hP hD hS 20 wC_at20 rfl 0 (by decide) (hts _ m_465) (fun _ h9 => h9) rfl (tyX0_ok 0 (by decide)) rfl rfl (Nat.le_of_ble_eq_true rfl) dX0_add_7 (fun H locs hP hD hS => ?_)
  rw [wC_sI20_0] at hP hD
  refine lv_aload_n hx hb dX0_add_10 rfl (lv_at hl 0 rfl) ?_
  refine va_get (D := G) (ci := 0) (v := .int ((eI h 7 0) + 1)) (C := RX0) (T := TX0) (N := 4) hx hb hts iX0 hown hK hP 20 wC_at20 rfl 0 (by decide) (hts _ m_465) (fun _ h9 => h9) rfl dX0_add_11 ?_
  refine lv_bipush (v := 8) hx hb dX0_add_14 (by decide) ?_
  refine lv_icmp_le (tgt := 20) hx hb dX0_add_16 (by decide) (fun c_1 => ?_) (fun c_1 => ?_)
  · have hF := ob_pos c_1 hF
    refine lv_aload_n hx hb dX0_add_20 rfl (lv_at hl 1 rfl) ?_
    refine lv_iload_n hx hb dX0_add_21 rfl (lv_at hl 3 rfl) ?_
    refine lv_iconst (v := 3) hx hb dX0_add_22 (by decide) ?_
    obtain ⟨r_2, h_2, e_2, hF⟩ := ob2_some hF
    refine gx_calli (gx_runV (As := [.int p1, .int 3]) (rest := []) ⟨hx, hb, hml, hown, hts⟩ (c_X4_ofGoose l G cI cJ cZ cB cT q (sI h 7 0 ((eI h 7 0) + 1)) p1 3 r_2 h_2 e_2 H.size) (gG_V m_594 m_15 m_16 m_7 m_13) rfl e_X4_ofGoose ⟨Nat.le_of_ble_eq_true rfl, Nat.le_of_ble_eq_true rfl⟩ hK hP hD hE hS hA 1 wC_at1 rfl rfl hl.1 rfl (Nat.le_of_ble_eq_true rfl) dX0_add_23 ⟨Nat.le_refl _, Nat.le_refl _⟩) hP hD hS hA (fun x_2 u_2 H locs hw_2 hP hD hS => ?_)
    subst x_2
    obtain ⟨r_3, e_3, hF⟩ := ob1_some hF
    refine gx_calli0 (gx_runSN0 (host := "GooseLetters") (As := [.int r_2]) (rest := []) ⟨hx, hb, hml, hown, hts⟩ (c_X8_halvesOf l G cI cJ cZ cB cT   r_2 r_3 e_3 H.size) (gG_I m_595) rfl hE.1 (hts _ m_60) (hts _ m_596) ei_X8_halvesOf ⟨Nat.le_of_ble_eq_true rfl, Nat.le_of_ble_eq_true rfl⟩ hK hE hS hA rfl hl.1 rfl (Nat.le_of_ble_eq_true rfl) dX0_add_26 ⟨Nat.le_refl _, Nat.le_refl _⟩) hP hD hS hA (fun x_3 u_3 H locs hw_3 hP hD hS => ?_)
    subst x_3
    refine lv_istore (lv' := [(4, .int r_3), (0, .ref (q 20)), (1, .ref (q 1)), (2, .ref (q 16)), (3, .int p1)]) hx hb dX0_add_29 hl (by decide) rfl (fun ls hl => ?_)
    refine lv_aload_n hx hb dX0_add_31 rfl (lv_at hl 3 rfl) ?_
    refine lv_aload_n hx hb dX0_add_32 rfl (lv_at hl 2 rfl) ?_
    refine lv_iload_n hx hb dX0_add_33 rfl (lv_at hl 4 rfl) ?_
    obtain ⟨r_4, h_4, e_4, hF⟩ := ob2_some hF
    refine gx_calli (gx_runV (As := [.ref (q 1), .int p1]) (rest := []) ⟨hx, hb, hml, hown, hts⟩ (c_X1_isTrue l G cI cJ cZ cB cT q h_2 p1 r_4 h_4 e_4 H.size) (gG_V m_598 m_599 m_600 m_436 m_597) rfl e_X1_isTrue ⟨Nat.le_of_ble_eq_true rfl, Nat.le_of_ble_eq_true rfl⟩ hK hP hD hE hS hA 16 wC_at16 rfl rfl hl.1 rfl (Nat.le_of_ble_eq_true rfl) dX0_add_34 ⟨Nat.le_refl _, Nat.le_refl _⟩) hP hD hS hA (fun x_4 u_4 H locs hw_4 hP hD hS => ?_)
    subst x_4
    refine lv_if_eq (tgt := 45) hx hb dX0_add_37 (by decide) (fun c_5 => ?_) (fun c_5 => ?_)
    · have hF := ob_pos c_5 hF
      refine lv_iconst (v := 0) hx hb dX0_add_45 (by decide) ?_
      exact hJ_46 h_4 p1 r_3 0 hF H _ ls hP hD hS (lv_sub hl [1, 2, 3, 4, 0] rfl)
    · have hF := ob_neg c_5 hF
      refine lv_iload hx hb dX0_add_40 (lv_at hl 0 rfl) ?_
      refine lv_goto (tgt := 46) hx hb dX0_add_42 (by decide) ?_
      exact hJ_46 h_4 p1 r_3 r_3 hF H _ ls hP hD hS (lv_sub hl [1, 2, 3, 4, 0] rfl)
  · have hF := ob_neg c_1 hF
    obtain rfl := ob_one hF
    exact gw_vret () hx hb hr hlocks hP hD hS trivial dX0_add_19
