theorem e_X8_market : yX8_market.cls = RX8 ∧ yX8_market.cls ≠ "java/lang/invoke/MethodHandle" ∧ yX8_market.cls ≠ "java/lang/invoke/VarHandle" ∧ (parseMethodDescriptor yX8_market.desc).map (fun d => d.parameters.length) = some 3 := by decide +kernel
theorem e_X9_market : yX9_market.cls = RX9 ∧ yX9_market.cls ≠ "java/lang/invoke/MethodHandle" ∧ yX9_market.cls ≠ "java/lang/invoke/VarHandle" ∧ (parseMethodDescriptor yX9_market.desc).map (fun d => d.parameters.length) = some 3 := by decide +kernel
set_option maxHeartbeats 4000000 in
set_option maxRecDepth 100000 in
theorem law_case0 {p : Program} {l : Launch} {e : Env} {s : State} {m : MethodId} {below : List Frame} {meth : Method} {c : Code} {G : va_G} {cI cJ cZ cB cT : ClassId} {b L : Nat} {xs : Nat → Int32} {A : Nat → Prop} {Inv : HS → HS → Prop} (hL : L ≤ 3072) (C0 : lw_At p s m meth c b L xs) (hAs : ∀ q, A q → s.heap.size ≤ q) (hA : ∀ q, s.heap.size ≤ q → A q) (hK : va_K G vwCl (gT cI cJ cZ cB cT) s) (hE : gEX G A s) {q r : Nat → Nat} {m0 : Nat} (hst : LawStep (fun k => k = 23) Inv) {i : Nat} (hi : i + 6 ≤ L) (hback : ∀ (h g : HS), Inv h g → ∀ (H : Heap) (locs : List Loc) (ls : Array Slot), va_P G vwCl (wC q cI cJ cZ cB cT h) H → va_D A (wC q cI cJ cZ cB cT h) → va_P G vwCl (wM m0 r cI cJ cZ cB cT g) H → va_D A (wM m0 r cI cJ cZ cB cT g) → gApart (wC q cI cJ cZ cB cT h) (wM m0 r cI cJ cZ cB cT g) → va_S A s.heap H locs → lv_has ls 4 [(0, .ref b), (1, .ref (q 0)), (2, .ref m0), (3, .int (nI i))] → W p l e room_1 s m #[Value.ref b] below meth c H locs 600000 7302249 (lw_Z below #[Value.ref b] s) (F0 m 1014 ls [])) {h g : HS} (hI : Inv h g) {H : Heap} {locs : List Loc} {ls : Array Slot} (hP : va_P G vwCl (wC q cI cJ cZ cB cT h) H) (hD : va_D A (wC q cI cJ cZ cB cT h)) (hPm : va_P G vwCl (wM m0 r cI cJ cZ cB cT g) H) (hDm : va_D A (wM m0 r cI cJ cZ cB cT g)) (hab : gApart (wC q cI cJ cZ cB cT h) (wM m0 r cI cJ cZ cB cT g)) (hS : va_S A s.heap H locs) (hl : lv_has ls 4 [(0, .ref b), (1, .ref (q 0)), (2, .ref m0), (3, .int (nI i))]) : W p l e room_1 s m #[Value.ref b] below meth c H locs 600000 7302249 (lw_Z below #[Value.ref b] s) (F0 m 164 ls []) := by
  obtain ⟨hx, hb, hr, hml, hown, hts, hX, hbl, hlocks, hgv⟩ := id C0
  have hts : ∀ w ∈ lwc, w.before #[Value.ref b] s = true := fun w h => hts w (lwc_in h)
  have hown : s.vm.findClass RL = some m.cls := hown
  have hbA : ¬ A b := fun h => Nat.lt_irrefl _ (Nat.lt_of_lt_of_le hbl (hAs b h))
  refine lv_aload_n hx hb dL_law_164 rfl (lv_at hl 1 rfl) ?_
  refine lv_aload_n hx hb dL_law_165 rfl (lv_at hl 0 rfl) ?_
  refine lv_iload_n hx hb dL_law_166 rfl (lv_at hl 3 rfl) ?_
  refine lv_iconst (v := 1) hx hb dL_law_167 (by decide) ?_
  refine lv_iadd hx hb dL_law_168 ?_
  refine gw_topi (y := (nI (i + 1))) (nI_add i 1) ?_
  refine gw_sld hx hb hX hbl hbA hS (i + 1) rfl (by omega) (by omega) dL_law_169 ?_
  refine lv_aload_n hx hb dL_law_170 rfl (lv_at hl 0 rfl) ?_
  refine lv_iload_n hx hb dL_law_171 rfl (lv_at hl 3 rfl) ?_
  refine lv_iconst (v := 2) hx hb dL_law_172 (by decide) ?_
  refine lv_iadd hx hb dL_law_173 ?_
  refine gw_topi (y := (nI (i + 2))) (nI_add i 2) ?_
  refine gw_sld hx hb hX hbl hbA hS (i + 2) rfl (by omega) (by omega) dL_law_174 ?_
  refine lv_aload_n hx hb dL_law_175 rfl (lv_at hl 0 rfl) ?_
  refine lv_iload_n hx hb dL_law_176 rfl (lv_at hl 3 rfl) ?_
  refine lv_iconst (v := 3) hx hb dL_law_177 (by decide) ?_
  refine lv_iadd hx hb dL_law_178 ?_
  refine gw_topi (y := (nI (i + 3))) (nI_add i 3) ?_
  refine gw_sld hx hb hX hbl hbA hS (i + 3) rfl (by omega) (by omega) dL_law_179 ?_
  obtain ⟨r1, h1, r2, g1, e1, e2, hI1, hq⟩ := hst.1 h g (xs (i + 1)) (xs (i + 2)) (xs (i + 3)) hI
  refine gx2_calli (gx_runV (As := [.int (xs (i + 1)), .int (xs (i + 2)), .int (xs (i + 3))]) (rest := []) ⟨hx, hb, hml, hown, hts⟩ (c_X8_market l G cI cJ cZ cB cT q h (xs (i + 1)) (xs (i + 2)) (xs (i + 3)) r1 h1 e1 H.size) (gG_V m_949 m_950 m_951 m_60 m_952) rfl e_X8_market ⟨(Nat.le_of_ble_eq_true rfl), (Nat.le_of_ble_eq_true rfl)⟩ hK hP hD hE hS hA 0 wC_at0 rfl rfl hl.1 rfl (Nat.le_of_ble_eq_true rfl) dL_law_180 ⟨(Nat.le_of_ble_eq_true rfl), (Nat.le_of_ble_eq_true rfl)⟩) hP hD hPm hab hS hA (fun x_1 u_1 H locs hw_1 hP hD hPm hab hS => ?_)
  subst x_1
  refine lv_pop hx hb dL_law_183 rfl ?_
  refine lv_aload_n hx hb dL_law_184 rfl (lv_at hl 2 rfl) ?_
  refine lv_aload_n hx hb dL_law_185 rfl (lv_at hl 0 rfl) ?_
  refine lv_iload_n hx hb dL_law_186 rfl (lv_at hl 3 rfl) ?_
  refine lv_iconst (v := 1) hx hb dL_law_187 (by decide) ?_
  refine lv_iadd hx hb dL_law_188 ?_
  refine gw_topi (y := (nI (i + 1))) (nI_add i 1) ?_
  refine gw_sld hx hb hX hbl hbA hS (i + 1) rfl (by omega) (by omega) dL_law_189 ?_
  refine lv_aload_n hx hb dL_law_190 rfl (lv_at hl 0 rfl) ?_
  refine lv_iload_n hx hb dL_law_191 rfl (lv_at hl 3 rfl) ?_
  refine lv_iconst (v := 2) hx hb dL_law_192 (by decide) ?_
  refine lv_iadd hx hb dL_law_193 ?_
  refine gw_topi (y := (nI (i + 2))) (nI_add i 2) ?_
  refine gw_sld hx hb hX hbl hbA hS (i + 2) rfl (by omega) (by omega) dL_law_194 ?_
  refine lv_aload_n hx hb dL_law_195 rfl (lv_at hl 0 rfl) ?_
  refine lv_iload_n hx hb dL_law_196 rfl (lv_at hl 3 rfl) ?_
  refine lv_iconst (v := 3) hx hb dL_law_197 (by decide) ?_
  refine lv_iadd hx hb dL_law_198 ?_
  refine gw_topi (y := (nI (i + 3))) (nI_add i 3) ?_
  refine gw_sld hx hb hX hbl hbA hS (i + 3) rfl (by omega) (by omega) dL_law_199 ?_
  refine gx2_calli (gx_runV (As := [.int (xs (i + 1)), .int (xs (i + 2)), .int (xs (i + 3))]) (rest := []) ⟨hx, hb, hml, hown, hts⟩ (c_X9_market l G cI cJ cZ cB cT m0 r g (xs (i + 1)) (xs (i + 2)) (xs (i + 3)) r2 g1 e2 H.size) (gG_V m_953 m_954 m_955 m_64 m_956) rfl e_X9_market ⟨(Nat.le_of_ble_eq_true rfl), (Nat.le_of_ble_eq_true rfl)⟩ hK hPm hDm hE hS hA 0 wM_at0 rfl rfl hl.1 rfl (Nat.le_of_ble_eq_true rfl) dL_law_200 ⟨(Nat.le_of_ble_eq_true rfl), (Nat.le_of_ble_eq_true rfl)⟩) hPm hDm hP hab.swap hS hA (fun x_2 u_2 H locs hw_2 hPm hDm hP hba hS => ?_)
  have hab := hba.swap
  subst x_2
  refine lv_pop hx hb dL_law_203 rfl ?_
  refine lv_goto (tgt := 1014) hx hb dL_law_204 (by decide) ?_
  exact hback h1 g1 hI1 H _ ls hP hD hPm hDm hab hS (lv_sub hl [0, 1, 2, 3] rfl)
theorem e_X8_goose : yX8_goose.cls = RX8 ∧ yX8_goose.cls ≠ "java/lang/invoke/MethodHandle" ∧ yX8_goose.cls ≠ "java/lang/invoke/VarHandle" ∧ (parseMethodDescriptor yX8_goose.desc).map (fun d => d.parameters.length) = some 2 := by decide +kernel
theorem e_X9_goose : yX9_goose.cls = RX9 ∧ yX9_goose.cls ≠ "java/lang/invoke/MethodHandle" ∧ yX9_goose.cls ≠ "java/lang/invoke/VarHandle" ∧ (parseMethodDescriptor yX9_goose.desc).map (fun d => d.parameters.length) = some 2 := by decide +kernel
set_option maxHeartbeats 4000000 in
set_option maxRecDepth 100000 in
theorem law_case1 {p : Program} {l : Launch} {e : Env} {s : State} {m : MethodId} {below : List Frame} {meth : Method} {c : Code} {G : va_G} {cI cJ cZ cB cT : ClassId} {b L : Nat} {xs : Nat → Int32} {A : Nat → Prop} {Inv : HS → HS → Prop} (hL : L ≤ 3072) (C0 : lw_At p s m meth c b L xs) (hAs : ∀ q, A q → s.heap.size ≤ q) (hA : ∀ q, s.heap.size ≤ q → A q) (hK : va_K G vwCl (gT cI cJ cZ cB cT) s) (hE : gEX G A s) {q r : Nat → Nat} {m0 : Nat} (hst : LawStep (fun k => k = 23) Inv) {i : Nat} (hi : i + 6 ≤ L) (hback : ∀ (h g : HS), Inv h g → ∀ (H : Heap) (locs : List Loc) (ls : Array Slot), va_P G vwCl (wC q cI cJ cZ cB cT h) H → va_D A (wC q cI cJ cZ cB cT h) → va_P G vwCl (wM m0 r cI cJ cZ cB cT g) H → va_D A (wM m0 r cI cJ cZ cB cT g) → gApart (wC q cI cJ cZ cB cT h) (wM m0 r cI cJ cZ cB cT g) → va_S A s.heap H locs → lv_has ls 4 [(0, .ref b), (1, .ref (q 0)), (2, .ref m0), (3, .int (nI i))] → W p l e room_1 s m #[Value.ref b] below meth c H locs 600000 7302249 (lw_Z below #[Value.ref b] s) (F0 m 1014 ls [])) {h g : HS} (hI : Inv h g) {H : Heap} {locs : List Loc} {ls : Array Slot} (hP : va_P G vwCl (wC q cI cJ cZ cB cT h) H) (hD : va_D A (wC q cI cJ cZ cB cT h)) (hPm : va_P G vwCl (wM m0 r cI cJ cZ cB cT g) H) (hDm : va_D A (wM m0 r cI cJ cZ cB cT g)) (hab : gApart (wC q cI cJ cZ cB cT h) (wM m0 r cI cJ cZ cB cT g)) (hS : va_S A s.heap H locs) (hl : lv_has ls 4 [(0, .ref b), (1, .ref (q 0)), (2, .ref m0), (3, .int (nI i))]) : W p l e room_1 s m #[Value.ref b] below meth c H locs 600000 7302249 (lw_Z below #[Value.ref b] s) (F0 m 207 ls []) := by
  obtain ⟨hx, hb, hr, hml, hown, hts, hX, hbl, hlocks, hgv⟩ := id C0
  have hts : ∀ w ∈ lwc, w.before #[Value.ref b] s = true := fun w h => hts w (lwc_in h)
  have hown : s.vm.findClass RL = some m.cls := hown
  have hbA : ¬ A b := fun h => Nat.lt_irrefl _ (Nat.lt_of_lt_of_le hbl (hAs b h))
  refine lv_aload_n hx hb dL_law_207 rfl (lv_at hl 1 rfl) ?_
  refine lv_aload_n hx hb dL_law_208 rfl (lv_at hl 0 rfl) ?_
  refine lv_iload_n hx hb dL_law_209 rfl (lv_at hl 3 rfl) ?_
  refine lv_iconst (v := 1) hx hb dL_law_210 (by decide) ?_
  refine lv_iadd hx hb dL_law_211 ?_
  refine gw_topi (y := (nI (i + 1))) (nI_add i 1) ?_
  refine gw_sld hx hb hX hbl hbA hS (i + 1) rfl (by omega) (by omega) dL_law_212 ?_
  refine lv_aload_n hx hb dL_law_213 rfl (lv_at hl 0 rfl) ?_
  refine lv_iload_n hx hb dL_law_214 rfl (lv_at hl 3 rfl) ?_
  refine lv_iconst (v := 2) hx hb dL_law_215 (by decide) ?_
  refine lv_iadd hx hb dL_law_216 ?_
  refine gw_topi (y := (nI (i + 2))) (nI_add i 2) ?_
  refine gw_sld hx hb hX hbl hbA hS (i + 2) rfl (by omega) (by omega) dL_law_217 ?_
  obtain ⟨r1, h1, r2, g1, e1, e2, hI1, hq⟩ := hst.2.1 h g (xs (i + 1)) (xs (i + 2)) hI
  refine gx2_calli (gx_runV (As := [.int (xs (i + 1)), .int (xs (i + 2))]) (rest := []) ⟨hx, hb, hml, hown, hts⟩ (c_X8_goose l G cI cJ cZ cB cT q h (xs (i + 1)) (xs (i + 2)) r1 h1 e1 H.size) (gG_V m_957 m_958 m_959 m_60 m_960) rfl e_X8_goose ⟨(Nat.le_of_ble_eq_true rfl), (Nat.le_of_ble_eq_true rfl)⟩ hK hP hD hE hS hA 0 wC_at0 rfl rfl hl.1 rfl (Nat.le_of_ble_eq_true rfl) dL_law_218 ⟨(Nat.le_of_ble_eq_true rfl), (Nat.le_of_ble_eq_true rfl)⟩) hP hD hPm hab hS hA (fun x_1 u_1 H locs hw_1 hP hD hPm hab hS => ?_)
  subst x_1
  refine lv_pop hx hb dL_law_221 rfl ?_
  refine lv_aload_n hx hb dL_law_222 rfl (lv_at hl 2 rfl) ?_
  refine lv_aload_n hx hb dL_law_223 rfl (lv_at hl 0 rfl) ?_
  refine lv_iload_n hx hb dL_law_224 rfl (lv_at hl 3 rfl) ?_
  refine lv_iconst (v := 1) hx hb dL_law_225 (by decide) ?_
  refine lv_iadd hx hb dL_law_226 ?_
  refine gw_topi (y := (nI (i + 1))) (nI_add i 1) ?_
  refine gw_sld hx hb hX hbl hbA hS (i + 1) rfl (by omega) (by omega) dL_law_227 ?_
  refine lv_aload_n hx hb dL_law_228 rfl (lv_at hl 0 rfl) ?_
  refine lv_iload_n hx hb dL_law_229 rfl (lv_at hl 3 rfl) ?_
  refine lv_iconst (v := 2) hx hb dL_law_230 (by decide) ?_
  refine lv_iadd hx hb dL_law_231 ?_
  refine gw_topi (y := (nI (i + 2))) (nI_add i 2) ?_
  refine gw_sld hx hb hX hbl hbA hS (i + 2) rfl (by omega) (by omega) dL_law_232 ?_
  refine gx2_calli (gx_runV (As := [.int (xs (i + 1)), .int (xs (i + 2))]) (rest := []) ⟨hx, hb, hml, hown, hts⟩ (c_X9_goose l G cI cJ cZ cB cT m0 r g (xs (i + 1)) (xs (i + 2)) r2 g1 e2 H.size) (gG_V m_961 m_962 m_963 m_64 m_964) rfl e_X9_goose ⟨(Nat.le_of_ble_eq_true rfl), (Nat.le_of_ble_eq_true rfl)⟩ hK hPm hDm hE hS hA 0 wM_at0 rfl rfl hl.1 rfl (Nat.le_of_ble_eq_true rfl) dL_law_233 ⟨(Nat.le_of_ble_eq_true rfl), (Nat.le_of_ble_eq_true rfl)⟩) hPm hDm hP hab.swap hS hA (fun x_2 u_2 H locs hw_2 hPm hDm hP hba hS => ?_)
  have hab := hba.swap
  subst x_2
  refine lv_pop hx hb dL_law_236 rfl ?_
  refine lv_goto (tgt := 1014) hx hb dL_law_237 (by decide) ?_
  exact hback h1 g1 hI1 H _ ls hP hD hPm hDm hab hS (lv_sub hl [0, 1, 2, 3] rfl)
theorem e_X8_store : yX8_store.cls = RX8 ∧ yX8_store.cls ≠ "java/lang/invoke/MethodHandle" ∧ yX8_store.cls ≠ "java/lang/invoke/VarHandle" ∧ (parseMethodDescriptor yX8_store.desc).map (fun d => d.parameters.length) = some 2 := by decide +kernel
theorem e_X9_store : yX9_store.cls = RX9 ∧ yX9_store.cls ≠ "java/lang/invoke/MethodHandle" ∧ yX9_store.cls ≠ "java/lang/invoke/VarHandle" ∧ (parseMethodDescriptor yX9_store.desc).map (fun d => d.parameters.length) = some 2 := by decide +kernel
set_option maxHeartbeats 4000000 in
set_option maxRecDepth 100000 in
theorem law_case2 {p : Program} {l : Launch} {e : Env} {s : State} {m : MethodId} {below : List Frame} {meth : Method} {c : Code} {G : va_G} {cI cJ cZ cB cT : ClassId} {b L : Nat} {xs : Nat → Int32} {A : Nat → Prop} {Inv : HS → HS → Prop} (hL : L ≤ 3072) (C0 : lw_At p s m meth c b L xs) (hAs : ∀ q, A q → s.heap.size ≤ q) (hA : ∀ q, s.heap.size ≤ q → A q) (hK : va_K G vwCl (gT cI cJ cZ cB cT) s) (hE : gEX G A s) {q r : Nat → Nat} {m0 : Nat} (hst : LawStep (fun k => k = 23) Inv) {i : Nat} (hi : i + 6 ≤ L) (hback : ∀ (h g : HS), Inv h g → ∀ (H : Heap) (locs : List Loc) (ls : Array Slot), va_P G vwCl (wC q cI cJ cZ cB cT h) H → va_D A (wC q cI cJ cZ cB cT h) → va_P G vwCl (wM m0 r cI cJ cZ cB cT g) H → va_D A (wM m0 r cI cJ cZ cB cT g) → gApart (wC q cI cJ cZ cB cT h) (wM m0 r cI cJ cZ cB cT g) → va_S A s.heap H locs → lv_has ls 4 [(0, .ref b), (1, .ref (q 0)), (2, .ref m0), (3, .int (nI i))] → W p l e room_1 s m #[Value.ref b] below meth c H locs 600000 7302249 (lw_Z below #[Value.ref b] s) (F0 m 1014 ls [])) {h g : HS} (hI : Inv h g) {H : Heap} {locs : List Loc} {ls : Array Slot} (hP : va_P G vwCl (wC q cI cJ cZ cB cT h) H) (hD : va_D A (wC q cI cJ cZ cB cT h)) (hPm : va_P G vwCl (wM m0 r cI cJ cZ cB cT g) H) (hDm : va_D A (wM m0 r cI cJ cZ cB cT g)) (hab : gApart (wC q cI cJ cZ cB cT h) (wM m0 r cI cJ cZ cB cT g)) (hS : va_S A s.heap H locs) (hl : lv_has ls 4 [(0, .ref b), (1, .ref (q 0)), (2, .ref m0), (3, .int (nI i))]) : W p l e room_1 s m #[Value.ref b] below meth c H locs 600000 7302249 (lw_Z below #[Value.ref b] s) (F0 m 240 ls []) := by
  obtain ⟨hx, hb, hr, hml, hown, hts, hX, hbl, hlocks, hgv⟩ := id C0
  have hts : ∀ w ∈ lwc, w.before #[Value.ref b] s = true := fun w h => hts w (lwc_in h)
  have hown : s.vm.findClass RL = some m.cls := hown
  have hbA : ¬ A b := fun h => Nat.lt_irrefl _ (Nat.lt_of_lt_of_le hbl (hAs b h))
  refine lv_aload_n hx hb dL_law_240 rfl (lv_at hl 1 rfl) ?_
  refine lv_aload_n hx hb dL_law_241 rfl (lv_at hl 0 rfl) ?_
  refine lv_iload_n hx hb dL_law_242 rfl (lv_at hl 3 rfl) ?_
  refine lv_iconst (v := 1) hx hb dL_law_243 (by decide) ?_
  refine lv_iadd hx hb dL_law_244 ?_
  refine gw_topi (y := (nI (i + 1))) (nI_add i 1) ?_
  refine gw_sld hx hb hX hbl hbA hS (i + 1) rfl (by omega) (by omega) dL_law_245 ?_
  refine lv_aload_n hx hb dL_law_246 rfl (lv_at hl 0 rfl) ?_
  refine lv_iload_n hx hb dL_law_247 rfl (lv_at hl 3 rfl) ?_
  refine lv_iconst (v := 2) hx hb dL_law_248 (by decide) ?_
  refine lv_iadd hx hb dL_law_249 ?_
  refine gw_topi (y := (nI (i + 2))) (nI_add i 2) ?_
  refine gw_sld hx hb hX hbl hbA hS (i + 2) rfl (by omega) (by omega) dL_law_250 ?_
  obtain ⟨r1, h1, r2, g1, e1, e2, hI1, hq⟩ := hst.2.2.1 h g (xs (i + 1)) (xs (i + 2)) hI
  refine gx2_calli (gx_runV (As := [.int (xs (i + 1)), .int (xs (i + 2))]) (rest := []) ⟨hx, hb, hml, hown, hts⟩ (c_X8_store l G cI cJ cZ cB cT q h (xs (i + 1)) (xs (i + 2)) r1 h1 e1 H.size) (gG_V m_965 m_966 m_967 m_60 m_968) rfl e_X8_store ⟨(Nat.le_of_ble_eq_true rfl), (Nat.le_of_ble_eq_true rfl)⟩ hK hP hD hE hS hA 0 wC_at0 rfl rfl hl.1 rfl (Nat.le_of_ble_eq_true rfl) dL_law_251 ⟨(Nat.le_of_ble_eq_true rfl), (Nat.le_of_ble_eq_true rfl)⟩) hP hD hPm hab hS hA (fun x_1 u_1 H locs hw_1 hP hD hPm hab hS => ?_)
  subst x_1
  refine lv_pop hx hb dL_law_254 rfl ?_
  refine lv_aload_n hx hb dL_law_255 rfl (lv_at hl 2 rfl) ?_
  refine lv_aload_n hx hb dL_law_256 rfl (lv_at hl 0 rfl) ?_
  refine lv_iload_n hx hb dL_law_257 rfl (lv_at hl 3 rfl) ?_
  refine lv_iconst (v := 1) hx hb dL_law_258 (by decide) ?_
  refine lv_iadd hx hb dL_law_259 ?_
  refine gw_topi (y := (nI (i + 1))) (nI_add i 1) ?_
  refine gw_sld hx hb hX hbl hbA hS (i + 1) rfl (by omega) (by omega) dL_law_260 ?_
  refine lv_aload_n hx hb dL_law_261 rfl (lv_at hl 0 rfl) ?_
  refine lv_iload_n hx hb dL_law_262 rfl (lv_at hl 3 rfl) ?_
  refine lv_iconst (v := 2) hx hb dL_law_263 (by decide) ?_
  refine lv_iadd hx hb dL_law_264 ?_
  refine gw_topi (y := (nI (i + 2))) (nI_add i 2) ?_
  refine gw_sld hx hb hX hbl hbA hS (i + 2) rfl (by omega) (by omega) dL_law_265 ?_
  refine gx2_calli (gx_runV (As := [.int (xs (i + 1)), .int (xs (i + 2))]) (rest := []) ⟨hx, hb, hml, hown, hts⟩ (c_X9_store l G cI cJ cZ cB cT m0 r g (xs (i + 1)) (xs (i + 2)) r2 g1 e2 H.size) (gG_V m_969 m_970 m_971 m_64 m_972) rfl e_X9_store ⟨(Nat.le_of_ble_eq_true rfl), (Nat.le_of_ble_eq_true rfl)⟩ hK hPm hDm hE hS hA 0 wM_at0 rfl rfl hl.1 rfl (Nat.le_of_ble_eq_true rfl) dL_law_266 ⟨(Nat.le_of_ble_eq_true rfl), (Nat.le_of_ble_eq_true rfl)⟩) hPm hDm hP hab.swap hS hA (fun x_2 u_2 H locs hw_2 hPm hDm hP hba hS => ?_)
  have hab := hba.swap
  subst x_2
  refine lv_pop hx hb dL_law_269 rfl ?_
  refine lv_goto (tgt := 1014) hx hb dL_law_270 (by decide) ?_
  exact hback h1 g1 hI1 H _ ls hP hD hPm hDm hab hS (lv_sub hl [0, 1, 2, 3] rfl)
theorem e_X8_seed : yX8_seed.cls = RX8 ∧ yX8_seed.cls ≠ "java/lang/invoke/MethodHandle" ∧ yX8_seed.cls ≠ "java/lang/invoke/VarHandle" ∧ (parseMethodDescriptor yX8_seed.desc).map (fun d => d.parameters.length) = some 1 := by decide +kernel
theorem e_X9_seed : yX9_seed.cls = RX9 ∧ yX9_seed.cls ≠ "java/lang/invoke/MethodHandle" ∧ yX9_seed.cls ≠ "java/lang/invoke/VarHandle" ∧ (parseMethodDescriptor yX9_seed.desc).map (fun d => d.parameters.length) = some 1 := by decide +kernel
set_option maxHeartbeats 4000000 in
set_option maxRecDepth 100000 in
theorem law_case3 {p : Program} {l : Launch} {e : Env} {s : State} {m : MethodId} {below : List Frame} {meth : Method} {c : Code} {G : va_G} {cI cJ cZ cB cT : ClassId} {b L : Nat} {xs : Nat → Int32} {A : Nat → Prop} {Inv : HS → HS → Prop} (hL : L ≤ 3072) (C0 : lw_At p s m meth c b L xs) (hAs : ∀ q, A q → s.heap.size ≤ q) (hA : ∀ q, s.heap.size ≤ q → A q) (hK : va_K G vwCl (gT cI cJ cZ cB cT) s) (hE : gEX G A s) {q r : Nat → Nat} {m0 : Nat} (hst : LawStep (fun k => k = 23) Inv) {i : Nat} (hi : i + 6 ≤ L) (hback : ∀ (h g : HS), Inv h g → ∀ (H : Heap) (locs : List Loc) (ls : Array Slot), va_P G vwCl (wC q cI cJ cZ cB cT h) H → va_D A (wC q cI cJ cZ cB cT h) → va_P G vwCl (wM m0 r cI cJ cZ cB cT g) H → va_D A (wM m0 r cI cJ cZ cB cT g) → gApart (wC q cI cJ cZ cB cT h) (wM m0 r cI cJ cZ cB cT g) → va_S A s.heap H locs → lv_has ls 4 [(0, .ref b), (1, .ref (q 0)), (2, .ref m0), (3, .int (nI i))] → W p l e room_1 s m #[Value.ref b] below meth c H locs 600000 7302249 (lw_Z below #[Value.ref b] s) (F0 m 1014 ls [])) {h g : HS} (hI : Inv h g) {H : Heap} {locs : List Loc} {ls : Array Slot} (hP : va_P G vwCl (wC q cI cJ cZ cB cT h) H) (hD : va_D A (wC q cI cJ cZ cB cT h)) (hPm : va_P G vwCl (wM m0 r cI cJ cZ cB cT g) H) (hDm : va_D A (wM m0 r cI cJ cZ cB cT g)) (hab : gApart (wC q cI cJ cZ cB cT h) (wM m0 r cI cJ cZ cB cT g)) (hS : va_S A s.heap H locs) (hl : lv_has ls 4 [(0, .ref b), (1, .ref (q 0)), (2, .ref m0), (3, .int (nI i))]) : W p l e room_1 s m #[Value.ref b] below meth c H locs 600000 7302249 (lw_Z below #[Value.ref b] s) (F0 m 273 ls []) := by
  obtain ⟨hx, hb, hr, hml, hown, hts, hX, hbl, hlocks, hgv⟩ := id C0
  have hts : ∀ w ∈ lwc, w.before #[Value.ref b] s = true := fun w h => hts w (lwc_in h)
  have hown : s.vm.findClass RL = some m.cls := hown
  have hbA : ¬ A b := fun h => Nat.lt_irrefl _ (Nat.lt_of_lt_of_le hbl (hAs b h))
  refine lv_aload_n hx hb dL_law_273 rfl (lv_at hl 1 rfl) ?_
  refine lv_aload_n hx hb dL_law_274 rfl (lv_at hl 0 rfl) ?_
  refine lv_iload_n hx hb dL_law_275 rfl (lv_at hl 3 rfl) ?_
  refine lv_iconst (v := 1) hx hb dL_law_276 (by decide) ?_
  refine lv_iadd hx hb dL_law_277 ?_
  refine gw_topi (y := (nI (i + 1))) (nI_add i 1) ?_
  refine gw_sld hx hb hX hbl hbA hS (i + 1) rfl (by omega) (by omega) dL_law_278 ?_
  obtain ⟨r1, h1, r2, g1, e1, e2, hI1, hq⟩ := hst.2.2.2.1 h g (xs (i + 1)) hI
  refine gx2_calli (gx_runV (As := [.int (xs (i + 1))]) (rest := []) ⟨hx, hb, hml, hown, hts⟩ (c_X8_seed l G cI cJ cZ cB cT q h (xs (i + 1)) r1 h1 e1 H.size) (gG_V m_973 m_974 m_975 m_60 m_976) rfl e_X8_seed ⟨(Nat.le_of_ble_eq_true rfl), (Nat.le_of_ble_eq_true rfl)⟩ hK hP hD hE hS hA 0 wC_at0 rfl rfl hl.1 rfl (Nat.le_of_ble_eq_true rfl) dL_law_279 ⟨(Nat.le_of_ble_eq_true rfl), (Nat.le_of_ble_eq_true rfl)⟩) hP hD hPm hab hS hA (fun x_1 u_1 H locs hw_1 hP hD hPm hab hS => ?_)
  subst x_1
  refine lv_pop hx hb dL_law_282 rfl ?_
  refine lv_aload_n hx hb dL_law_283 rfl (lv_at hl 2 rfl) ?_
  refine lv_aload_n hx hb dL_law_284 rfl (lv_at hl 0 rfl) ?_
  refine lv_iload_n hx hb dL_law_285 rfl (lv_at hl 3 rfl) ?_
  refine lv_iconst (v := 1) hx hb dL_law_286 (by decide) ?_
  refine lv_iadd hx hb dL_law_287 ?_
  refine gw_topi (y := (nI (i + 1))) (nI_add i 1) ?_
  refine gw_sld hx hb hX hbl hbA hS (i + 1) rfl (by omega) (by omega) dL_law_288 ?_
  refine gx2_calli (gx_runV (As := [.int (xs (i + 1))]) (rest := []) ⟨hx, hb, hml, hown, hts⟩ (c_X9_seed l G cI cJ cZ cB cT m0 r g (xs (i + 1)) r2 g1 e2 H.size) (gG_V m_977 m_978 m_979 m_64 m_980) rfl e_X9_seed ⟨(Nat.le_of_ble_eq_true rfl), (Nat.le_of_ble_eq_true rfl)⟩ hK hPm hDm hE hS hA 0 wM_at0 rfl rfl hl.1 rfl (Nat.le_of_ble_eq_true rfl) dL_law_289 ⟨(Nat.le_of_ble_eq_true rfl), (Nat.le_of_ble_eq_true rfl)⟩) hPm hDm hP hab.swap hS hA (fun x_2 u_2 H locs hw_2 hPm hDm hP hba hS => ?_)
  have hab := hba.swap
  subst x_2
  refine lv_pop hx hb dL_law_292 rfl ?_
  refine lv_goto (tgt := 1014) hx hb dL_law_293 (by decide) ?_
  exact hback h1 g1 hI1 H _ ls hP hD hPm hDm hab hS (lv_sub hl [0, 1, 2, 3] rfl)
set_option maxHeartbeats 4000000 in
set_option maxRecDepth 100000 in
theorem law_case4 {p : Program} {l : Launch} {e : Env} {s : State} {m : MethodId} {below : List Frame} {meth : Method} {c : Code} {G : va_G} {cI cJ cZ cB cT : ClassId} {b L : Nat} {xs : Nat → Int32} {A : Nat → Prop} {Inv : HS → HS → Prop} (hL : L ≤ 3072) (C0 : lw_At p s m meth c b L xs) (hAs : ∀ q, A q → s.heap.size ≤ q) (hA : ∀ q, s.heap.size ≤ q → A q) (hK : va_K G vwCl (gT cI cJ cZ cB cT) s) (hE : gEX G A s) {q r : Nat → Nat} {m0 : Nat} (hst : LawStep (fun k => k = 23) Inv) {i : Nat} (hi : i + 6 ≤ L) (hback : ∀ (h g : HS), Inv h g → ∀ (H : Heap) (locs : List Loc) (ls : Array Slot), va_P G vwCl (wC q cI cJ cZ cB cT h) H → va_D A (wC q cI cJ cZ cB cT h) → va_P G vwCl (wM m0 r cI cJ cZ cB cT g) H → va_D A (wM m0 r cI cJ cZ cB cT g) → gApart (wC q cI cJ cZ cB cT h) (wM m0 r cI cJ cZ cB cT g) → va_S A s.heap H locs → lv_has ls 4 [(0, .ref b), (1, .ref (q 0)), (2, .ref m0), (3, .int (nI i))] → W p l e room_1 s m #[Value.ref b] below meth c H locs 600000 7302249 (lw_Z below #[Value.ref b] s) (F0 m 1014 ls [])) {h g : HS} (hI : Inv h g) {H : Heap} {locs : List Loc} {ls : Array Slot} (hP : va_P G vwCl (wC q cI cJ cZ cB cT h) H) (hD : va_D A (wC q cI cJ cZ cB cT h)) (hPm : va_P G vwCl (wM m0 r cI cJ cZ cB cT g) H) (hDm : va_D A (wM m0 r cI cJ cZ cB cT g)) (hab : gApart (wC q cI cJ cZ cB cT h) (wM m0 r cI cJ cZ cB cT g)) (hS : va_S A s.heap H locs) (hl : lv_has ls 4 [(0, .ref b), (1, .ref (q 0)), (2, .ref m0), (3, .int (nI i))]) : W p l e room_1 s m #[Value.ref b] below meth c H locs 600000 7302249 (lw_Z below #[Value.ref b] s) (F0 m 296 ls []) := by
  obtain ⟨hx, hb, hr, hml, hown, hts, hX, hbl, hlocks, hgv⟩ := id C0
  have hts : ∀ w ∈ lwc, w.before #[Value.ref b] s = true := fun w h => hts w (lwc_in h)
  have hown : s.vm.findClass RL = some m.cls := hown
  have hbA : ¬ A b := fun h => Nat.lt_irrefl _ (Nat.lt_of_lt_of_le hbl (hAs b h))
  refine lv_aload_n hx hb dL_law_296 rfl (lv_at hl 1 rfl) ?_
  refine lv_aload_n hx hb dL_law_297 rfl (lv_at hl 0 rfl) ?_
  refine lv_iload_n hx hb dL_law_298 rfl (lv_at hl 3 rfl) ?_
  refine lv_iconst (v := 1) hx hb dL_law_299 (by decide) ?_
  refine lv_iadd hx hb dL_law_300 ?_
  refine gw_topi (y := (nI (i + 1))) (nI_add i 1) ?_
  refine gw_sld hx hb hX hbl hbA hS (i + 1) rfl (by omega) (by omega) dL_law_301 ?_
  refine lv_aload_n hx hb dL_law_302 rfl (lv_at hl 0 rfl) ?_
  refine lv_iload_n hx hb dL_law_303 rfl (lv_at hl 3 rfl) ?_
  refine lv_iconst (v := 2) hx hb dL_law_304 (by decide) ?_
  refine lv_iadd hx hb dL_law_305 ?_
  refine gw_topi (y := (nI (i + 2))) (nI_add i 2) ?_
  refine gw_sld hx hb hX hbl hbA hS (i + 2) rfl (by omega) (by omega) dL_law_306 ?_
  refine lv_aload_n hx hb dL_law_307 rfl (lv_at hl 0 rfl) ?_
  refine lv_iload_n hx hb dL_law_308 rfl (lv_at hl 3 rfl) ?_
  refine lv_iconst (v := 3) hx hb dL_law_309 (by decide) ?_
  refine lv_iadd hx hb dL_law_310 ?_
  refine gw_topi (y := (nI (i + 3))) (nI_add i 3) ?_
  refine gw_sld hx hb hX hbl hbA hS (i + 3) rfl (by omega) (by omega) dL_law_311 ?_
  obtain ⟨r1, h1, r2, g1, e1, e2, hI1, hq⟩ := hst.2.2.2.2.1 h g (xs (i + 1)) (xs (i + 2)) (xs (i + 3)) hI
  refine gx2_calli (gx_runV (As := [.int (xs (i + 1)), .int (xs (i + 2)), .int (xs (i + 3))]) (rest := []) ⟨hx, hb, hml, hown, hts⟩ (c_X8_fill l G cI cJ cZ cB cT q h (xs (i + 1)) (xs (i + 2)) (xs (i + 3)) r1 h1 e1 H.size) (gG_V m_981 m_820 m_821 m_60 m_818) rfl e_X8_fill ⟨(Nat.le_of_ble_eq_true rfl), (Nat.le_of_ble_eq_true rfl)⟩ hK hP hD hE hS hA 0 wC_at0 rfl rfl hl.1 rfl (Nat.le_of_ble_eq_true rfl) dL_law_312 ⟨(Nat.le_of_ble_eq_true rfl), (Nat.le_of_ble_eq_true rfl)⟩) hP hD hPm hab hS hA (fun x_1 u_1 H locs hw_1 hP hD hPm hab hS => ?_)
  subst x_1
  refine lv_pop hx hb dL_law_315 rfl ?_
  refine lv_aload_n hx hb dL_law_316 rfl (lv_at hl 2 rfl) ?_
  refine lv_aload_n hx hb dL_law_317 rfl (lv_at hl 0 rfl) ?_
  refine lv_iload_n hx hb dL_law_318 rfl (lv_at hl 3 rfl) ?_
  refine lv_iconst (v := 1) hx hb dL_law_319 (by decide) ?_
  refine lv_iadd hx hb dL_law_320 ?_
  refine gw_topi (y := (nI (i + 1))) (nI_add i 1) ?_
  refine gw_sld hx hb hX hbl hbA hS (i + 1) rfl (by omega) (by omega) dL_law_321 ?_
  refine lv_aload_n hx hb dL_law_322 rfl (lv_at hl 0 rfl) ?_
  refine lv_iload_n hx hb dL_law_323 rfl (lv_at hl 3 rfl) ?_
  refine lv_iconst (v := 2) hx hb dL_law_324 (by decide) ?_
  refine lv_iadd hx hb dL_law_325 ?_
  refine gw_topi (y := (nI (i + 2))) (nI_add i 2) ?_
  refine gw_sld hx hb hX hbl hbA hS (i + 2) rfl (by omega) (by omega) dL_law_326 ?_
  refine lv_aload_n hx hb dL_law_327 rfl (lv_at hl 0 rfl) ?_
  refine lv_iload_n hx hb dL_law_328 rfl (lv_at hl 3 rfl) ?_
  refine lv_iconst (v := 3) hx hb dL_law_329 (by decide) ?_
  refine lv_iadd hx hb dL_law_330 ?_
  refine gw_topi (y := (nI (i + 3))) (nI_add i 3) ?_
  refine gw_sld hx hb hX hbl hbA hS (i + 3) rfl (by omega) (by omega) dL_law_331 ?_
  refine gx2_calli (gx_runV (As := [.int (xs (i + 1)), .int (xs (i + 2)), .int (xs (i + 3))]) (rest := []) ⟨hx, hb, hml, hown, hts⟩ (c_X9_fill l G cI cJ cZ cB cT m0 r g (xs (i + 1)) (xs (i + 2)) (xs (i + 3)) r2 g1 e2 H.size) (gG_V m_982 m_322 m_323 m_64 m_320) rfl e_X9_fill ⟨(Nat.le_of_ble_eq_true rfl), (Nat.le_of_ble_eq_true rfl)⟩ hK hPm hDm hE hS hA 0 wM_at0 rfl rfl hl.1 rfl (Nat.le_of_ble_eq_true rfl) dL_law_332 ⟨(Nat.le_of_ble_eq_true rfl), (Nat.le_of_ble_eq_true rfl)⟩) hPm hDm hP hab.swap hS hA (fun x_2 u_2 H locs hw_2 hPm hDm hP hba hS => ?_)
  have hab := hba.swap
  subst x_2
  refine lv_pop hx hb dL_law_335 rfl ?_
  refine lv_goto (tgt := 1014) hx hb dL_law_336 (by decide) ?_
  exact hback h1 g1 hI1 H _ ls hP hD hPm hDm hab hS (lv_sub hl [0, 1, 2, 3] rfl)
set_option maxHeartbeats 4000000 in
set_option maxRecDepth 100000 in
theorem law_case5 {p : Program} {l : Launch} {e : Env} {s : State} {m : MethodId} {below : List Frame} {meth : Method} {c : Code} {G : va_G} {cI cJ cZ cB cT : ClassId} {b L : Nat} {xs : Nat → Int32} {A : Nat → Prop} {Inv : HS → HS → Prop} (hL : L ≤ 3072) (C0 : lw_At p s m meth c b L xs) (hAs : ∀ q, A q → s.heap.size ≤ q) (hA : ∀ q, s.heap.size ≤ q → A q) (hK : va_K G vwCl (gT cI cJ cZ cB cT) s) (hE : gEX G A s) {q r : Nat → Nat} {m0 : Nat} (hst : LawStep (fun k => k = 23) Inv) {i : Nat} (hi : i + 6 ≤ L) (hback : ∀ (h g : HS), Inv h g → ∀ (H : Heap) (locs : List Loc) (ls : Array Slot), va_P G vwCl (wC q cI cJ cZ cB cT h) H → va_D A (wC q cI cJ cZ cB cT h) → va_P G vwCl (wM m0 r cI cJ cZ cB cT g) H → va_D A (wM m0 r cI cJ cZ cB cT g) → gApart (wC q cI cJ cZ cB cT h) (wM m0 r cI cJ cZ cB cT g) → va_S A s.heap H locs → lv_has ls 4 [(0, .ref b), (1, .ref (q 0)), (2, .ref m0), (3, .int (nI i))] → W p l e room_1 s m #[Value.ref b] below meth c H locs 600000 7302249 (lw_Z below #[Value.ref b] s) (F0 m 1014 ls [])) {h g : HS} (hI : Inv h g) {H : Heap} {locs : List Loc} {ls : Array Slot} (hP : va_P G vwCl (wC q cI cJ cZ cB cT h) H) (hD : va_D A (wC q cI cJ cZ cB cT h)) (hPm : va_P G vwCl (wM m0 r cI cJ cZ cB cT g) H) (hDm : va_D A (wM m0 r cI cJ cZ cB cT g)) (hab : gApart (wC q cI cJ cZ cB cT h) (wM m0 r cI cJ cZ cB cT g)) (hS : va_S A s.heap H locs) (hl : lv_has ls 4 [(0, .ref b), (1, .ref (q 0)), (2, .ref m0), (3, .int (nI i))]) : W p l e room_1 s m #[Value.ref b] below meth c H locs 600000 7302249 (lw_Z below #[Value.ref b] s) (F0 m 339 ls []) := by
  obtain ⟨hx, hb, hr, hml, hown, hts, hX, hbl, hlocks, hgv⟩ := id C0
  have hts : ∀ w ∈ lwc, w.before #[Value.ref b] s = true := fun w h => hts w (lwc_in h)
  have hown : s.vm.findClass RL = some m.cls := hown
  have hbA : ¬ A b := fun h => Nat.lt_irrefl _ (Nat.lt_of_lt_of_le hbl (hAs b h))
  refine lv_aload_n hx hb dL_law_339 rfl (lv_at hl 1 rfl) ?_
  refine lv_aload_n hx hb dL_law_340 rfl (lv_at hl 0 rfl) ?_
  refine lv_iload_n hx hb dL_law_341 rfl (lv_at hl 3 rfl) ?_
  refine lv_iconst (v := 1) hx hb dL_law_342 (by decide) ?_
  refine lv_iadd hx hb dL_law_343 ?_
  refine gw_topi (y := (nI (i + 1))) (nI_add i 1) ?_
  refine gw_sld hx hb hX hbl hbA hS (i + 1) rfl (by omega) (by omega) dL_law_344 ?_
  refine lv_aload_n hx hb dL_law_345 rfl (lv_at hl 0 rfl) ?_
  refine lv_iload_n hx hb dL_law_346 rfl (lv_at hl 3 rfl) ?_
  refine lv_iconst (v := 2) hx hb dL_law_347 (by decide) ?_
  refine lv_iadd hx hb dL_law_348 ?_
  refine gw_topi (y := (nI (i + 2))) (nI_add i 2) ?_
  refine gw_sld hx hb hX hbl hbA hS (i + 2) rfl (by omega) (by omega) dL_law_349 ?_
  obtain ⟨r1, h1, r2, g1, e1, e2, hI1, hq⟩ := hst.2.2.2.2.2.1 h g (xs (i + 1)) (xs (i + 2)) hI
  refine gx2_calli (gx_runV (As := [.int (xs (i + 1)), .int (xs (i + 2))]) (rest := []) ⟨hx, hb, hml, hown, hts⟩ (c_X8_send l G cI cJ cZ cB cT q h (xs (i + 1)) (xs (i + 2)) r1 h1 e1 H.size) (gG_V m_983 m_824 m_825 m_60 m_822) rfl e_X8_send ⟨(Nat.le_of_ble_eq_true rfl), (Nat.le_of_ble_eq_true rfl)⟩ hK hP hD hE hS hA 0 wC_at0 rfl rfl hl.1 rfl (Nat.le_of_ble_eq_true rfl) dL_law_350 ⟨(Nat.le_of_ble_eq_true rfl), (Nat.le_of_ble_eq_true rfl)⟩) hP hD hPm hab hS hA (fun x_1 u_1 H locs hw_1 hP hD hPm hab hS => ?_)
  subst x_1
  refine lv_pop hx hb dL_law_353 rfl ?_
  refine lv_aload_n hx hb dL_law_354 rfl (lv_at hl 2 rfl) ?_
  refine lv_aload_n hx hb dL_law_355 rfl (lv_at hl 0 rfl) ?_
  refine lv_iload_n hx hb dL_law_356 rfl (lv_at hl 3 rfl) ?_
  refine lv_iconst (v := 1) hx hb dL_law_357 (by decide) ?_
  refine lv_iadd hx hb dL_law_358 ?_
  refine gw_topi (y := (nI (i + 1))) (nI_add i 1) ?_
  refine gw_sld hx hb hX hbl hbA hS (i + 1) rfl (by omega) (by omega) dL_law_359 ?_
  refine lv_aload_n hx hb dL_law_360 rfl (lv_at hl 0 rfl) ?_
  refine lv_iload_n hx hb dL_law_361 rfl (lv_at hl 3 rfl) ?_
  refine lv_iconst (v := 2) hx hb dL_law_362 (by decide) ?_
  refine lv_iadd hx hb dL_law_363 ?_
  refine gw_topi (y := (nI (i + 2))) (nI_add i 2) ?_
  refine gw_sld hx hb hX hbl hbA hS (i + 2) rfl (by omega) (by omega) dL_law_364 ?_
  refine gx2_calli (gx_runV (As := [.int (xs (i + 1)), .int (xs (i + 2))]) (rest := []) ⟨hx, hb, hml, hown, hts⟩ (c_X9_send l G cI cJ cZ cB cT m0 r g (xs (i + 1)) (xs (i + 2)) r2 g1 e2 H.size) (gG_V m_984 m_326 m_327 m_64 m_324) rfl e_X9_send ⟨(Nat.le_of_ble_eq_true rfl), (Nat.le_of_ble_eq_true rfl)⟩ hK hPm hDm hE hS hA 0 wM_at0 rfl rfl hl.1 rfl (Nat.le_of_ble_eq_true rfl) dL_law_365 ⟨(Nat.le_of_ble_eq_true rfl), (Nat.le_of_ble_eq_true rfl)⟩) hPm hDm hP hab.swap hS hA (fun x_2 u_2 H locs hw_2 hPm hDm hP hba hS => ?_)
  have hab := hba.swap
  subst x_2
  refine lv_pop hx hb dL_law_368 rfl ?_
  refine lv_goto (tgt := 1014) hx hb dL_law_369 (by decide) ?_
  exact hback h1 g1 hI1 H _ ls hP hD hPm hDm hab hS (lv_sub hl [0, 1, 2, 3] rfl)
set_option maxHeartbeats 4000000 in
set_option maxRecDepth 100000 in
theorem law_case6 {p : Program} {l : Launch} {e : Env} {s : State} {m : MethodId} {below : List Frame} {meth : Method} {c : Code} {G : va_G} {cI cJ cZ cB cT : ClassId} {b L : Nat} {xs : Nat → Int32} {A : Nat → Prop} {Inv : HS → HS → Prop} (hL : L ≤ 3072) (C0 : lw_At p s m meth c b L xs) (hAs : ∀ q, A q → s.heap.size ≤ q) (hA : ∀ q, s.heap.size ≤ q → A q) (hK : va_K G vwCl (gT cI cJ cZ cB cT) s) (hE : gEX G A s) {q r : Nat → Nat} {m0 : Nat} (hst : LawStep (fun k => k = 23) Inv) {i : Nat} (hi : i + 6 ≤ L) (hback : ∀ (h g : HS), Inv h g → ∀ (H : Heap) (locs : List Loc) (ls : Array Slot), va_P G vwCl (wC q cI cJ cZ cB cT h) H → va_D A (wC q cI cJ cZ cB cT h) → va_P G vwCl (wM m0 r cI cJ cZ cB cT g) H → va_D A (wM m0 r cI cJ cZ cB cT g) → gApart (wC q cI cJ cZ cB cT h) (wM m0 r cI cJ cZ cB cT g) → va_S A s.heap H locs → lv_has ls 4 [(0, .ref b), (1, .ref (q 0)), (2, .ref m0), (3, .int (nI i))] → W p l e room_1 s m #[Value.ref b] below meth c H locs 600000 7302249 (lw_Z below #[Value.ref b] s) (F0 m 1014 ls [])) {h g : HS} (hI : Inv h g) {H : Heap} {locs : List Loc} {ls : Array Slot} (hP : va_P G vwCl (wC q cI cJ cZ cB cT h) H) (hD : va_D A (wC q cI cJ cZ cB cT h)) (hPm : va_P G vwCl (wM m0 r cI cJ cZ cB cT g) H) (hDm : va_D A (wM m0 r cI cJ cZ cB cT g)) (hab : gApart (wC q cI cJ cZ cB cT h) (wM m0 r cI cJ cZ cB cT g)) (hS : va_S A s.heap H locs) (hl : lv_has ls 4 [(0, .ref b), (1, .ref (q 0)), (2, .ref m0), (3, .int (nI i))]) : W p l e room_1 s m #[Value.ref b] below meth c H locs 600000 7302249 (lw_Z below #[Value.ref b] s) (F0 m 372 ls []) := by
  obtain ⟨hx, hb, hr, hml, hown, hts, hX, hbl, hlocks, hgv⟩ := id C0
  have hts : ∀ w ∈ lwc, w.before #[Value.ref b] s = true := fun w h => hts w (lwc_in h)
  have hown : s.vm.findClass RL = some m.cls := hown
  have hbA : ¬ A b := fun h => Nat.lt_irrefl _ (Nat.lt_of_lt_of_le hbl (hAs b h))
  refine lv_aload_n hx hb dL_law_372 rfl (lv_at hl 1 rfl) ?_
  refine lv_aload_n hx hb dL_law_373 rfl (lv_at hl 0 rfl) ?_
  refine lv_iload_n hx hb dL_law_374 rfl (lv_at hl 3 rfl) ?_
  refine lv_iconst (v := 1) hx hb dL_law_375 (by decide) ?_
  refine lv_iadd hx hb dL_law_376 ?_
  refine gw_topi (y := (nI (i + 1))) (nI_add i 1) ?_
  refine gw_sld hx hb hX hbl hbA hS (i + 1) rfl (by omega) (by omega) dL_law_377 ?_
  obtain ⟨r1, h1, r2, g1, e1, e2, hI1, hq⟩ := hst.2.2.2.2.2.2.1 h g (xs (i + 1)) hI
  refine gx2_calli (gx_runV (As := [.int (xs (i + 1))]) (rest := []) ⟨hx, hb, hml, hown, hts⟩ (c_X8_fatten l G cI cJ cZ cB cT q h (xs (i + 1)) r1 h1 e1 H.size) (gG_V m_985 m_828 m_829 m_60 m_826) rfl e_X8_fatten ⟨(Nat.le_of_ble_eq_true rfl), (Nat.le_of_ble_eq_true rfl)⟩ hK hP hD hE hS hA 0 wC_at0 rfl rfl hl.1 rfl (Nat.le_of_ble_eq_true rfl) dL_law_378 ⟨(Nat.le_of_ble_eq_true rfl), (Nat.le_of_ble_eq_true rfl)⟩) hP hD hPm hab hS hA (fun x_1 u_1 H locs hw_1 hP hD hPm hab hS => ?_)
  subst x_1
  refine lv_pop hx hb dL_law_381 rfl ?_
  refine lv_aload_n hx hb dL_law_382 rfl (lv_at hl 2 rfl) ?_
  refine lv_aload_n hx hb dL_law_383 rfl (lv_at hl 0 rfl) ?_
  refine lv_iload_n hx hb dL_law_384 rfl (lv_at hl 3 rfl) ?_
  refine lv_iconst (v := 1) hx hb dL_law_385 (by decide) ?_
  refine lv_iadd hx hb dL_law_386 ?_
  refine gw_topi (y := (nI (i + 1))) (nI_add i 1) ?_
  refine gw_sld hx hb hX hbl hbA hS (i + 1) rfl (by omega) (by omega) dL_law_387 ?_
  refine gx2_calli (gx_runV (As := [.int (xs (i + 1))]) (rest := []) ⟨hx, hb, hml, hown, hts⟩ (c_X9_fatten l G cI cJ cZ cB cT m0 r g (xs (i + 1)) r2 g1 e2 H.size) (gG_V m_986 m_330 m_331 m_64 m_328) rfl e_X9_fatten ⟨(Nat.le_of_ble_eq_true rfl), (Nat.le_of_ble_eq_true rfl)⟩ hK hPm hDm hE hS hA 0 wM_at0 rfl rfl hl.1 rfl (Nat.le_of_ble_eq_true rfl) dL_law_388 ⟨(Nat.le_of_ble_eq_true rfl), (Nat.le_of_ble_eq_true rfl)⟩) hPm hDm hP hab.swap hS hA (fun x_2 u_2 H locs hw_2 hPm hDm hP hba hS => ?_)
  have hab := hba.swap
  subst x_2
  refine lv_pop hx hb dL_law_391 rfl ?_
  refine lv_goto (tgt := 1014) hx hb dL_law_392 (by decide) ?_
  exact hback h1 g1 hI1 H _ ls hP hD hPm hDm hab hS (lv_sub hl [0, 1, 2, 3] rfl)
theorem e_X8_pluck : yX8_pluck.cls = RX8 ∧ yX8_pluck.cls ≠ "java/lang/invoke/MethodHandle" ∧ yX8_pluck.cls ≠ "java/lang/invoke/VarHandle" ∧ (parseMethodDescriptor yX8_pluck.desc).map (fun d => d.parameters.length) = some 1 := by decide +kernel
theorem e_X9_pluck : yX9_pluck.cls = RX9 ∧ yX9_pluck.cls ≠ "java/lang/invoke/MethodHandle" ∧ yX9_pluck.cls ≠ "java/lang/invoke/VarHandle" ∧ (parseMethodDescriptor yX9_pluck.desc).map (fun d => d.parameters.length) = some 1 := by decide +kernel
set_option maxHeartbeats 4000000 in
set_option maxRecDepth 100000 in
theorem law_case7 {p : Program} {l : Launch} {e : Env} {s : State} {m : MethodId} {below : List Frame} {meth : Method} {c : Code} {G : va_G} {cI cJ cZ cB cT : ClassId} {b L : Nat} {xs : Nat → Int32} {A : Nat → Prop} {Inv : HS → HS → Prop} (hL : L ≤ 3072) (C0 : lw_At p s m meth c b L xs) (hAs : ∀ q, A q → s.heap.size ≤ q) (hA : ∀ q, s.heap.size ≤ q → A q) (hK : va_K G vwCl (gT cI cJ cZ cB cT) s) (hE : gEX G A s) {q r : Nat → Nat} {m0 : Nat} (hst : LawStep (fun k => k = 23) Inv) {i : Nat} (hi : i + 6 ≤ L) (hback : ∀ (h g : HS), Inv h g → ∀ (H : Heap) (locs : List Loc) (ls : Array Slot), va_P G vwCl (wC q cI cJ cZ cB cT h) H → va_D A (wC q cI cJ cZ cB cT h) → va_P G vwCl (wM m0 r cI cJ cZ cB cT g) H → va_D A (wM m0 r cI cJ cZ cB cT g) → gApart (wC q cI cJ cZ cB cT h) (wM m0 r cI cJ cZ cB cT g) → va_S A s.heap H locs → lv_has ls 4 [(0, .ref b), (1, .ref (q 0)), (2, .ref m0), (3, .int (nI i))] → W p l e room_1 s m #[Value.ref b] below meth c H locs 600000 7302249 (lw_Z below #[Value.ref b] s) (F0 m 1014 ls [])) {h g : HS} (hI : Inv h g) {H : Heap} {locs : List Loc} {ls : Array Slot} (hP : va_P G vwCl (wC q cI cJ cZ cB cT h) H) (hD : va_D A (wC q cI cJ cZ cB cT h)) (hPm : va_P G vwCl (wM m0 r cI cJ cZ cB cT g) H) (hDm : va_D A (wM m0 r cI cJ cZ cB cT g)) (hab : gApart (wC q cI cJ cZ cB cT h) (wM m0 r cI cJ cZ cB cT g)) (hS : va_S A s.heap H locs) (hl : lv_has ls 4 [(0, .ref b), (1, .ref (q 0)), (2, .ref m0), (3, .int (nI i))]) : W p l e room_1 s m #[Value.ref b] below meth c H locs 600000 7302249 (lw_Z below #[Value.ref b] s) (F0 m 395 ls []) := by
  obtain ⟨hx, hb, hr, hml, hown, hts, hX, hbl, hlocks, hgv⟩ := id C0
  have hts : ∀ w ∈ lwc, w.before #[Value.ref b] s = true := fun w h => hts w (lwc_in h)
  have hown : s.vm.findClass RL = some m.cls := hown
  have hbA : ¬ A b := fun h => Nat.lt_irrefl _ (Nat.lt_of_lt_of_le hbl (hAs b h))
  refine lv_aload_n hx hb dL_law_395 rfl (lv_at hl 1 rfl) ?_
  refine lv_aload_n hx hb dL_law_396 rfl (lv_at hl 0 rfl) ?_
  refine lv_iload_n hx hb dL_law_397 rfl (lv_at hl 3 rfl) ?_
  refine lv_iconst (v := 1) hx hb dL_law_398 (by decide) ?_
  refine lv_iadd hx hb dL_law_399 ?_
  refine gw_topi (y := (nI (i + 1))) (nI_add i 1) ?_
  refine gw_sld hx hb hX hbl hbA hS (i + 1) rfl (by omega) (by omega) dL_law_400 ?_
  obtain ⟨r1, h1, r2, g1, e1, e2, hI1, hq⟩ := hst.2.2.2.2.2.2.2.1 h g (xs (i + 1)) hI
  refine gx2_calli (gx_runV (As := [.int (xs (i + 1))]) (rest := []) ⟨hx, hb, hml, hown, hts⟩ (c_X8_pluck l G cI cJ cZ cB cT q h (xs (i + 1)) r1 h1 e1 H.size) (gG_V m_987 m_988 m_989 m_60 m_990) rfl e_X8_pluck ⟨(Nat.le_of_ble_eq_true rfl), (Nat.le_of_ble_eq_true rfl)⟩ hK hP hD hE hS hA 0 wC_at0 rfl rfl hl.1 rfl (Nat.le_of_ble_eq_true rfl) dL_law_401 ⟨(Nat.le_of_ble_eq_true rfl), (Nat.le_of_ble_eq_true rfl)⟩) hP hD hPm hab hS hA (fun x_1 u_1 H locs hw_1 hP hD hPm hab hS => ?_)
  subst x_1
  refine lv_pop hx hb dL_law_404 rfl ?_
  refine lv_aload_n hx hb dL_law_405 rfl (lv_at hl 2 rfl) ?_
  refine lv_aload_n hx hb dL_law_406 rfl (lv_at hl 0 rfl) ?_
  refine lv_iload_n hx hb dL_law_407 rfl (lv_at hl 3 rfl) ?_
  refine lv_iconst (v := 1) hx hb dL_law_408 (by decide) ?_
  refine lv_iadd hx hb dL_law_409 ?_
  refine gw_topi (y := (nI (i + 1))) (nI_add i 1) ?_
  refine gw_sld hx hb hX hbl hbA hS (i + 1) rfl (by omega) (by omega) dL_law_410 ?_
  refine gx2_calli (gx_runV (As := [.int (xs (i + 1))]) (rest := []) ⟨hx, hb, hml, hown, hts⟩ (c_X9_pluck l G cI cJ cZ cB cT m0 r g (xs (i + 1)) r2 g1 e2 H.size) (gG_V m_991 m_992 m_993 m_64 m_994) rfl e_X9_pluck ⟨(Nat.le_of_ble_eq_true rfl), (Nat.le_of_ble_eq_true rfl)⟩ hK hPm hDm hE hS hA 0 wM_at0 rfl rfl hl.1 rfl (Nat.le_of_ble_eq_true rfl) dL_law_411 ⟨(Nat.le_of_ble_eq_true rfl), (Nat.le_of_ble_eq_true rfl)⟩) hPm hDm hP hab.swap hS hA (fun x_2 u_2 H locs hw_2 hPm hDm hP hba hS => ?_)
  have hab := hba.swap
  subst x_2
  refine lv_pop hx hb dL_law_414 rfl ?_
  refine lv_goto (tgt := 1014) hx hb dL_law_415 (by decide) ?_
  exact hback h1 g1 hI1 H _ ls hP hD hPm hDm hab hS (lv_sub hl [0, 1, 2, 3] rfl)
theorem e_X8_name : yX8_name.cls = RX8 ∧ yX8_name.cls ≠ "java/lang/invoke/MethodHandle" ∧ yX8_name.cls ≠ "java/lang/invoke/VarHandle" ∧ (parseMethodDescriptor yX8_name.desc).map (fun d => d.parameters.length) = some 1 := by decide +kernel
theorem e_X9_name : yX9_name.cls = RX9 ∧ yX9_name.cls ≠ "java/lang/invoke/MethodHandle" ∧ yX9_name.cls ≠ "java/lang/invoke/VarHandle" ∧ (parseMethodDescriptor yX9_name.desc).map (fun d => d.parameters.length) = some 1 := by decide +kernel
set_option maxHeartbeats 4000000 in
set_option maxRecDepth 100000 in
theorem law_case8 {p : Program} {l : Launch} {e : Env} {s : State} {m : MethodId} {below : List Frame} {meth : Method} {c : Code} {G : va_G} {cI cJ cZ cB cT : ClassId} {b L : Nat} {xs : Nat → Int32} {A : Nat → Prop} {Inv : HS → HS → Prop} (hL : L ≤ 3072) (C0 : lw_At p s m meth c b L xs) (hAs : ∀ q, A q → s.heap.size ≤ q) (hA : ∀ q, s.heap.size ≤ q → A q) (hK : va_K G vwCl (gT cI cJ cZ cB cT) s) (hE : gEX G A s) {q r : Nat → Nat} {m0 : Nat} (hst : LawStep (fun k => k = 23) Inv) {i : Nat} (hi : i + 6 ≤ L) (hback : ∀ (h g : HS), Inv h g → ∀ (H : Heap) (locs : List Loc) (ls : Array Slot), va_P G vwCl (wC q cI cJ cZ cB cT h) H → va_D A (wC q cI cJ cZ cB cT h) → va_P G vwCl (wM m0 r cI cJ cZ cB cT g) H → va_D A (wM m0 r cI cJ cZ cB cT g) → gApart (wC q cI cJ cZ cB cT h) (wM m0 r cI cJ cZ cB cT g) → va_S A s.heap H locs → lv_has ls 4 [(0, .ref b), (1, .ref (q 0)), (2, .ref m0), (3, .int (nI i))] → W p l e room_1 s m #[Value.ref b] below meth c H locs 600000 7302249 (lw_Z below #[Value.ref b] s) (F0 m 1014 ls [])) {h g : HS} (hI : Inv h g) {H : Heap} {locs : List Loc} {ls : Array Slot} (hP : va_P G vwCl (wC q cI cJ cZ cB cT h) H) (hD : va_D A (wC q cI cJ cZ cB cT h)) (hPm : va_P G vwCl (wM m0 r cI cJ cZ cB cT g) H) (hDm : va_D A (wM m0 r cI cJ cZ cB cT g)) (hab : gApart (wC q cI cJ cZ cB cT h) (wM m0 r cI cJ cZ cB cT g)) (hS : va_S A s.heap H locs) (hl : lv_has ls 4 [(0, .ref b), (1, .ref (q 0)), (2, .ref m0), (3, .int (nI i))]) : W p l e room_1 s m #[Value.ref b] below meth c H locs 600000 7302249 (lw_Z below #[Value.ref b] s) (F0 m 418 ls []) := by
  obtain ⟨hx, hb, hr, hml, hown, hts, hX, hbl, hlocks, hgv⟩ := id C0
  have hts : ∀ w ∈ lwc, w.before #[Value.ref b] s = true := fun w h => hts w (lwc_in h)
  have hown : s.vm.findClass RL = some m.cls := hown
  have hbA : ¬ A b := fun h => Nat.lt_irrefl _ (Nat.lt_of_lt_of_le hbl (hAs b h))
  refine lv_aload_n hx hb dL_law_418 rfl (lv_at hl 1 rfl) ?_
  refine lv_aload_n hx hb dL_law_419 rfl (lv_at hl 0 rfl) ?_
  refine lv_iload_n hx hb dL_law_420 rfl (lv_at hl 3 rfl) ?_
  refine lv_iconst (v := 1) hx hb dL_law_421 (by decide) ?_
  refine lv_iadd hx hb dL_law_422 ?_
  refine gw_topi (y := (nI (i + 1))) (nI_add i 1) ?_
  refine gw_sld hx hb hX hbl hbA hS (i + 1) rfl (by omega) (by omega) dL_law_423 ?_
  obtain ⟨r1, h1, r2, g1, e1, e2, hI1, hq⟩ := hst.2.2.2.2.2.2.2.2.1 h g (xs (i + 1)) hI
  refine gx2_calli (gx_runV (As := [.int (xs (i + 1))]) (rest := []) ⟨hx, hb, hml, hown, hts⟩ (c_X8_name l G cI cJ cZ cB cT q h (xs (i + 1)) r1 h1 e1 H.size) (gG_V m_995 m_996 m_997 m_60 m_998) rfl e_X8_name ⟨(Nat.le_of_ble_eq_true rfl), (Nat.le_of_ble_eq_true rfl)⟩ hK hP hD hE hS hA 0 wC_at0 rfl rfl hl.1 rfl (Nat.le_of_ble_eq_true rfl) dL_law_424 ⟨(Nat.le_of_ble_eq_true rfl), (Nat.le_of_ble_eq_true rfl)⟩) hP hD hPm hab hS hA (fun x_1 u_1 H locs hw_1 hP hD hPm hab hS => ?_)
  subst x_1
  refine lv_pop hx hb dL_law_427 rfl ?_
  refine lv_aload_n hx hb dL_law_428 rfl (lv_at hl 2 rfl) ?_
  refine lv_aload_n hx hb dL_law_429 rfl (lv_at hl 0 rfl) ?_
  refine lv_iload_n hx hb dL_law_430 rfl (lv_at hl 3 rfl) ?_
  refine lv_iconst (v := 1) hx hb dL_law_431 (by decide) ?_
  refine lv_iadd hx hb dL_law_432 ?_
  refine gw_topi (y := (nI (i + 1))) (nI_add i 1) ?_
  refine gw_sld hx hb hX hbl hbA hS (i + 1) rfl (by omega) (by omega) dL_law_433 ?_
  refine gx2_calli (gx_runV (As := [.int (xs (i + 1))]) (rest := []) ⟨hx, hb, hml, hown, hts⟩ (c_X9_name l G cI cJ cZ cB cT m0 r g (xs (i + 1)) r2 g1 e2 H.size) (gG_V m_999 m_1000 m_1001 m_64 m_1002) rfl e_X9_name ⟨(Nat.le_of_ble_eq_true rfl), (Nat.le_of_ble_eq_true rfl)⟩ hK hPm hDm hE hS hA 0 wM_at0 rfl rfl hl.1 rfl (Nat.le_of_ble_eq_true rfl) dL_law_434 ⟨(Nat.le_of_ble_eq_true rfl), (Nat.le_of_ble_eq_true rfl)⟩) hPm hDm hP hab.swap hS hA (fun x_2 u_2 H locs hw_2 hPm hDm hP hba hS => ?_)
  have hab := hba.swap
  subst x_2
  refine lv_pop hx hb dL_law_437 rfl ?_
  refine lv_goto (tgt := 1014) hx hb dL_law_438 (by decide) ?_
  exact hback h1 g1 hI1 H _ ls hP hD hPm hDm hab hS (lv_sub hl [0, 1, 2, 3] rfl)
set_option maxHeartbeats 4000000 in
set_option maxRecDepth 100000 in
theorem law_case9 {p : Program} {l : Launch} {e : Env} {s : State} {m : MethodId} {below : List Frame} {meth : Method} {c : Code} {G : va_G} {cI cJ cZ cB cT : ClassId} {b L : Nat} {xs : Nat → Int32} {A : Nat → Prop} {Inv : HS → HS → Prop} (hL : L ≤ 3072) (C0 : lw_At p s m meth c b L xs) (hAs : ∀ q, A q → s.heap.size ≤ q) (hA : ∀ q, s.heap.size ≤ q → A q) (hK : va_K G vwCl (gT cI cJ cZ cB cT) s) (hE : gEX G A s) {q r : Nat → Nat} {m0 : Nat} (hst : LawStep (fun k => k = 23) Inv) {i : Nat} (hi : i + 6 ≤ L) (hback : ∀ (h g : HS), Inv h g → ∀ (H : Heap) (locs : List Loc) (ls : Array Slot), va_P G vwCl (wC q cI cJ cZ cB cT h) H → va_D A (wC q cI cJ cZ cB cT h) → va_P G vwCl (wM m0 r cI cJ cZ cB cT g) H → va_D A (wM m0 r cI cJ cZ cB cT g) → gApart (wC q cI cJ cZ cB cT h) (wM m0 r cI cJ cZ cB cT g) → va_S A s.heap H locs → lv_has ls 4 [(0, .ref b), (1, .ref (q 0)), (2, .ref m0), (3, .int (nI i))] → W p l e room_1 s m #[Value.ref b] below meth c H locs 600000 7302249 (lw_Z below #[Value.ref b] s) (F0 m 1014 ls [])) {h g : HS} (hI : Inv h g) {H : Heap} {locs : List Loc} {ls : Array Slot} (hP : va_P G vwCl (wC q cI cJ cZ cB cT h) H) (hD : va_D A (wC q cI cJ cZ cB cT h)) (hPm : va_P G vwCl (wM m0 r cI cJ cZ cB cT g) H) (hDm : va_D A (wM m0 r cI cJ cZ cB cT g)) (hab : gApart (wC q cI cJ cZ cB cT h) (wM m0 r cI cJ cZ cB cT g)) (hS : va_S A s.heap H locs) (hl : lv_has ls 4 [(0, .ref b), (1, .ref (q 0)), (2, .ref m0), (3, .int (nI i))]) : W p l e room_1 s m #[Value.ref b] below meth c H locs 600000 7302249 (lw_Z below #[Value.ref b] s) (F0 m 441 ls []) := by
  obtain ⟨hx, hb, hr, hml, hown, hts, hX, hbl, hlocks, hgv⟩ := id C0
  have hts : ∀ w ∈ lwc, w.before #[Value.ref b] s = true := fun w h => hts w (lwc_in h)
  have hown : s.vm.findClass RL = some m.cls := hown
  have hbA : ¬ A b := fun h => Nat.lt_irrefl _ (Nat.lt_of_lt_of_le hbl (hAs b h))
  refine lv_aload_n hx hb dL_law_441 rfl (lv_at hl 1 rfl) ?_
  refine lv_aload_n hx hb dL_law_442 rfl (lv_at hl 0 rfl) ?_
  refine lv_iload_n hx hb dL_law_443 rfl (lv_at hl 3 rfl) ?_
  refine lv_iconst (v := 1) hx hb dL_law_444 (by decide) ?_
  refine lv_iadd hx hb dL_law_445 ?_
  refine gw_topi (y := (nI (i + 1))) (nI_add i 1) ?_
  refine gw_sld hx hb hX hbl hbA hS (i + 1) rfl (by omega) (by omega) dL_law_446 ?_
  obtain ⟨r1, h1, r2, g1, e1, e2, hI1, hq⟩ := hst.2.2.2.2.2.2.2.2.2.1 h g (xs (i + 1)) hI
  refine gx2_calli (gx_runV (As := [.int (xs (i + 1))]) (rest := []) ⟨hx, hb, hml, hown, hts⟩ (c_X8_pass l G cI cJ cZ cB cT q h (xs (i + 1)) r1 h1 e1 H.size) (gG_V m_1003 m_832 m_833 m_60 m_830) rfl e_X8_pass ⟨(Nat.le_of_ble_eq_true rfl), (Nat.le_of_ble_eq_true rfl)⟩ hK hP hD hE hS hA 0 wC_at0 rfl rfl hl.1 rfl (Nat.le_of_ble_eq_true rfl) dL_law_447 ⟨(Nat.le_of_ble_eq_true rfl), (Nat.le_of_ble_eq_true rfl)⟩) hP hD hPm hab hS hA (fun x_1 u_1 H locs hw_1 hP hD hPm hab hS => ?_)
  subst x_1
  refine lv_pop hx hb dL_law_450 rfl ?_
  refine lv_aload_n hx hb dL_law_451 rfl (lv_at hl 2 rfl) ?_
  refine lv_aload_n hx hb dL_law_452 rfl (lv_at hl 0 rfl) ?_
  refine lv_iload_n hx hb dL_law_453 rfl (lv_at hl 3 rfl) ?_
  refine lv_iconst (v := 1) hx hb dL_law_454 (by decide) ?_
  refine lv_iadd hx hb dL_law_455 ?_
  refine gw_topi (y := (nI (i + 1))) (nI_add i 1) ?_
  refine gw_sld hx hb hX hbl hbA hS (i + 1) rfl (by omega) (by omega) dL_law_456 ?_
  refine gx2_calli (gx_runV (As := [.int (xs (i + 1))]) (rest := []) ⟨hx, hb, hml, hown, hts⟩ (c_X9_pass l G cI cJ cZ cB cT m0 r g (xs (i + 1)) r2 g1 e2 H.size) (gG_V m_1004 m_334 m_335 m_64 m_332) rfl e_X9_pass ⟨(Nat.le_of_ble_eq_true rfl), (Nat.le_of_ble_eq_true rfl)⟩ hK hPm hDm hE hS hA 0 wM_at0 rfl rfl hl.1 rfl (Nat.le_of_ble_eq_true rfl) dL_law_457 ⟨(Nat.le_of_ble_eq_true rfl), (Nat.le_of_ble_eq_true rfl)⟩) hPm hDm hP hab.swap hS hA (fun x_2 u_2 H locs hw_2 hPm hDm hP hba hS => ?_)
  have hab := hba.swap
  subst x_2
  refine lv_pop hx hb dL_law_460 rfl ?_
  refine lv_goto (tgt := 1014) hx hb dL_law_461 (by decide) ?_
  exact hback h1 g1 hI1 H _ ls hP hD hPm hDm hab hS (lv_sub hl [0, 1, 2, 3] rfl)
theorem e_X8_feed : yX8_feed.cls = RX8 ∧ yX8_feed.cls ≠ "java/lang/invoke/MethodHandle" ∧ yX8_feed.cls ≠ "java/lang/invoke/VarHandle" ∧ (parseMethodDescriptor yX8_feed.desc).map (fun d => d.parameters.length) = some 5 := by decide +kernel
theorem e_X9_feed : yX9_feed.cls = RX9 ∧ yX9_feed.cls ≠ "java/lang/invoke/MethodHandle" ∧ yX9_feed.cls ≠ "java/lang/invoke/VarHandle" ∧ (parseMethodDescriptor yX9_feed.desc).map (fun d => d.parameters.length) = some 5 := by decide +kernel
set_option maxHeartbeats 4000000 in
set_option maxRecDepth 100000 in
theorem law_case10 {p : Program} {l : Launch} {e : Env} {s : State} {m : MethodId} {below : List Frame} {meth : Method} {c : Code} {G : va_G} {cI cJ cZ cB cT : ClassId} {b L : Nat} {xs : Nat → Int32} {A : Nat → Prop} {Inv : HS → HS → Prop} (hL : L ≤ 3072) (C0 : lw_At p s m meth c b L xs) (hAs : ∀ q, A q → s.heap.size ≤ q) (hA : ∀ q, s.heap.size ≤ q → A q) (hK : va_K G vwCl (gT cI cJ cZ cB cT) s) (hE : gEX G A s) {q r : Nat → Nat} {m0 : Nat} (hst : LawStep (fun k => k = 23) Inv) {i : Nat} (hi : i + 6 ≤ L) (hback : ∀ (h g : HS), Inv h g → ∀ (H : Heap) (locs : List Loc) (ls : Array Slot), va_P G vwCl (wC q cI cJ cZ cB cT h) H → va_D A (wC q cI cJ cZ cB cT h) → va_P G vwCl (wM m0 r cI cJ cZ cB cT g) H → va_D A (wM m0 r cI cJ cZ cB cT g) → gApart (wC q cI cJ cZ cB cT h) (wM m0 r cI cJ cZ cB cT g) → va_S A s.heap H locs → lv_has ls 4 [(0, .ref b), (1, .ref (q 0)), (2, .ref m0), (3, .int (nI i))] → W p l e room_1 s m #[Value.ref b] below meth c H locs 600000 7302249 (lw_Z below #[Value.ref b] s) (F0 m 1014 ls [])) {h g : HS} (hI : Inv h g) {H : Heap} {locs : List Loc} {ls : Array Slot} (hP : va_P G vwCl (wC q cI cJ cZ cB cT h) H) (hD : va_D A (wC q cI cJ cZ cB cT h)) (hPm : va_P G vwCl (wM m0 r cI cJ cZ cB cT g) H) (hDm : va_D A (wM m0 r cI cJ cZ cB cT g)) (hab : gApart (wC q cI cJ cZ cB cT h) (wM m0 r cI cJ cZ cB cT g)) (hS : va_S A s.heap H locs) (hl : lv_has ls 4 [(0, .ref b), (1, .ref (q 0)), (2, .ref m0), (3, .int (nI i))]) : W p l e room_1 s m #[Value.ref b] below meth c H locs 600000 7302249 (lw_Z below #[Value.ref b] s) (F0 m 464 ls []) := by
  obtain ⟨hx, hb, hr, hml, hown, hts, hX, hbl, hlocks, hgv⟩ := id C0
  have hts : ∀ w ∈ lwc, w.before #[Value.ref b] s = true := fun w h => hts w (lwc_in h)
  have hown : s.vm.findClass RL = some m.cls := hown
  have hbA : ¬ A b := fun h => Nat.lt_irrefl _ (Nat.lt_of_lt_of_le hbl (hAs b h))
  refine lv_aload_n hx hb dL_law_464 rfl (lv_at hl 1 rfl) ?_
  refine lv_aload_n hx hb dL_law_465 rfl (lv_at hl 0 rfl) ?_
  refine lv_iload_n hx hb dL_law_466 rfl (lv_at hl 3 rfl) ?_
  refine lv_iconst (v := 1) hx hb dL_law_467 (by decide) ?_
  refine lv_iadd hx hb dL_law_468 ?_
  refine gw_topi (y := (nI (i + 1))) (nI_add i 1) ?_
  refine gw_sld hx hb hX hbl hbA hS (i + 1) rfl (by omega) (by omega) dL_law_469 ?_
  refine lv_aload_n hx hb dL_law_470 rfl (lv_at hl 0 rfl) ?_
  refine lv_iload_n hx hb dL_law_471 rfl (lv_at hl 3 rfl) ?_
  refine lv_iconst (v := 2) hx hb dL_law_472 (by decide) ?_
  refine lv_iadd hx hb dL_law_473 ?_
  refine gw_topi (y := (nI (i + 2))) (nI_add i 2) ?_
  refine gw_sld hx hb hX hbl hbA hS (i + 2) rfl (by omega) (by omega) dL_law_474 ?_
  refine lv_aload_n hx hb dL_law_475 rfl (lv_at hl 0 rfl) ?_
  refine lv_iload_n hx hb dL_law_476 rfl (lv_at hl 3 rfl) ?_
  refine lv_iconst (v := 3) hx hb dL_law_477 (by decide) ?_
  refine lv_iadd hx hb dL_law_478 ?_
  refine gw_topi (y := (nI (i + 3))) (nI_add i 3) ?_
  refine gw_sld hx hb hX hbl hbA hS (i + 3) rfl (by omega) (by omega) dL_law_479 ?_
  refine lv_aload_n hx hb dL_law_480 rfl (lv_at hl 0 rfl) ?_
  refine lv_iload_n hx hb dL_law_481 rfl (lv_at hl 3 rfl) ?_
  refine lv_iconst (v := 4) hx hb dL_law_482 (by decide) ?_
  refine lv_iadd hx hb dL_law_483 ?_
  refine gw_topi (y := (nI (i + 4))) (nI_add i 4) ?_
  refine gw_sld hx hb hX hbl hbA hS (i + 4) rfl (by omega) (by omega) dL_law_484 ?_
  refine lv_aload_n hx hb dL_law_485 rfl (lv_at hl 0 rfl) ?_
  refine lv_iload_n hx hb dL_law_486 rfl (lv_at hl 3 rfl) ?_
  refine lv_iconst (v := 5) hx hb dL_law_487 (by decide) ?_
  refine lv_iadd hx hb dL_law_488 ?_
  refine gw_topi (y := (nI (i + 5))) (nI_add i 5) ?_
  refine gw_sld hx hb hX hbl hbA hS (i + 5) rfl (by omega) (by omega) dL_law_489 ?_
  obtain ⟨r1, h1, r2, g1, e1, e2, hI1, hq⟩ := hst.2.2.2.2.2.2.2.2.2.2.1 h g (xs (i + 1)) (xs (i + 2)) (xs (i + 3)) (xs (i + 4)) (xs (i + 5)) hI
  refine gx2_calli (gx_runV (As := [.int (xs (i + 1)), .int (xs (i + 2)), .int (xs (i + 3)), .int (xs (i + 4)), .int (xs (i + 5))]) (rest := []) ⟨hx, hb, hml, hown, hts⟩ (c_X8_feed l G cI cJ cZ cB cT q h (xs (i + 1)) (xs (i + 2)) (xs (i + 3)) (xs (i + 4)) (xs (i + 5)) r1 h1 e1 H.size) (gG_V m_1005 m_1006 m_1007 m_60 m_1008) rfl e_X8_feed ⟨(Nat.le_of_ble_eq_true rfl), (Nat.le_of_ble_eq_true rfl)⟩ hK hP hD hE hS hA 0 wC_at0 rfl rfl hl.1 rfl (Nat.le_of_ble_eq_true rfl) dL_law_490 ⟨(Nat.le_of_ble_eq_true rfl), (Nat.le_of_ble_eq_true rfl)⟩) hP hD hPm hab hS hA (fun x_1 u_1 H locs hw_1 hP hD hPm hab hS => ?_)
  subst x_1
  refine lv_pop hx hb dL_law_493 rfl ?_
  refine lv_aload_n hx hb dL_law_494 rfl (lv_at hl 2 rfl) ?_
  refine lv_aload_n hx hb dL_law_495 rfl (lv_at hl 0 rfl) ?_
  refine lv_iload_n hx hb dL_law_496 rfl (lv_at hl 3 rfl) ?_
  refine lv_iconst (v := 1) hx hb dL_law_497 (by decide) ?_
  refine lv_iadd hx hb dL_law_498 ?_
  refine gw_topi (y := (nI (i + 1))) (nI_add i 1) ?_
  refine gw_sld hx hb hX hbl hbA hS (i + 1) rfl (by omega) (by omega) dL_law_499 ?_
  refine lv_aload_n hx hb dL_law_500 rfl (lv_at hl 0 rfl) ?_
  refine lv_iload_n hx hb dL_law_501 rfl (lv_at hl 3 rfl) ?_
  refine lv_iconst (v := 2) hx hb dL_law_502 (by decide) ?_
  refine lv_iadd hx hb dL_law_503 ?_
  refine gw_topi (y := (nI (i + 2))) (nI_add i 2) ?_
  refine gw_sld hx hb hX hbl hbA hS (i + 2) rfl (by omega) (by omega) dL_law_504 ?_
  refine lv_aload_n hx hb dL_law_505 rfl (lv_at hl 0 rfl) ?_
  refine lv_iload_n hx hb dL_law_506 rfl (lv_at hl 3 rfl) ?_
  refine lv_iconst (v := 3) hx hb dL_law_507 (by decide) ?_
  refine lv_iadd hx hb dL_law_508 ?_
  refine gw_topi (y := (nI (i + 3))) (nI_add i 3) ?_
  refine gw_sld hx hb hX hbl hbA hS (i + 3) rfl (by omega) (by omega) dL_law_509 ?_
  refine lv_aload_n hx hb dL_law_510 rfl (lv_at hl 0 rfl) ?_
  refine lv_iload_n hx hb dL_law_511 rfl (lv_at hl 3 rfl) ?_
  refine lv_iconst (v := 4) hx hb dL_law_512 (by decide) ?_
  refine lv_iadd hx hb dL_law_513 ?_
  refine gw_topi (y := (nI (i + 4))) (nI_add i 4) ?_
  refine gw_sld hx hb hX hbl hbA hS (i + 4) rfl (by omega) (by omega) dL_law_514 ?_
  refine lv_aload_n hx hb dL_law_515 rfl (lv_at hl 0 rfl) ?_
  refine lv_iload_n hx hb dL_law_516 rfl (lv_at hl 3 rfl) ?_
  refine lv_iconst (v := 5) hx hb dL_law_517 (by decide) ?_
  refine lv_iadd hx hb dL_law_518 ?_
  refine gw_topi (y := (nI (i + 5))) (nI_add i 5) ?_
  refine gw_sld hx hb hX hbl hbA hS (i + 5) rfl (by omega) (by omega) dL_law_519 ?_
  refine gx2_calli (gx_runV (As := [.int (xs (i + 1)), .int (xs (i + 2)), .int (xs (i + 3)), .int (xs (i + 4)), .int (xs (i + 5))]) (rest := []) ⟨hx, hb, hml, hown, hts⟩ (c_X9_feed l G cI cJ cZ cB cT m0 r g (xs (i + 1)) (xs (i + 2)) (xs (i + 3)) (xs (i + 4)) (xs (i + 5)) r2 g1 e2 H.size) (gG_V m_1009 m_1010 m_1011 m_64 m_1012) rfl e_X9_feed ⟨(Nat.le_of_ble_eq_true rfl), (Nat.le_of_ble_eq_true rfl)⟩ hK hPm hDm hE hS hA 0 wM_at0 rfl rfl hl.1 rfl (Nat.le_of_ble_eq_true rfl) dL_law_520 ⟨(Nat.le_of_ble_eq_true rfl), (Nat.le_of_ble_eq_true rfl)⟩) hPm hDm hP hab.swap hS hA (fun x_2 u_2 H locs hw_2 hPm hDm hP hba hS => ?_)
  have hab := hba.swap
  subst x_2
  refine lv_pop hx hb dL_law_523 rfl ?_
  refine lv_goto (tgt := 1014) hx hb dL_law_524 (by decide) ?_
  exact hback h1 g1 hI1 H _ ls hP hD hPm hDm hab hS (lv_sub hl [0, 1, 2, 3] rfl)
theorem e_X8_end : yX8_end.cls = RX8 ∧ yX8_end.cls ≠ "java/lang/invoke/MethodHandle" ∧ yX8_end.cls ≠ "java/lang/invoke/VarHandle" ∧ (parseMethodDescriptor yX8_end.desc).map (fun d => d.parameters.length) = some 1 := by decide +kernel
theorem e_X9_end : yX9_end.cls = RX9 ∧ yX9_end.cls ≠ "java/lang/invoke/MethodHandle" ∧ yX9_end.cls ≠ "java/lang/invoke/VarHandle" ∧ (parseMethodDescriptor yX9_end.desc).map (fun d => d.parameters.length) = some 1 := by decide +kernel
set_option maxHeartbeats 4000000 in
set_option maxRecDepth 100000 in
theorem law_case11 {p : Program} {l : Launch} {e : Env} {s : State} {m : MethodId} {below : List Frame} {meth : Method} {c : Code} {G : va_G} {cI cJ cZ cB cT : ClassId} {b L : Nat} {xs : Nat → Int32} {A : Nat → Prop} {Inv : HS → HS → Prop} (hL : L ≤ 3072) (C0 : lw_At p s m meth c b L xs) (hAs : ∀ q, A q → s.heap.size ≤ q) (hA : ∀ q, s.heap.size ≤ q → A q) (hK : va_K G vwCl (gT cI cJ cZ cB cT) s) (hE : gEX G A s) {q r : Nat → Nat} {m0 : Nat} (hst : LawStep (fun k => k = 23) Inv) {i : Nat} (hi : i + 6 ≤ L) (hback : ∀ (h g : HS), Inv h g → ∀ (H : Heap) (locs : List Loc) (ls : Array Slot), va_P G vwCl (wC q cI cJ cZ cB cT h) H → va_D A (wC q cI cJ cZ cB cT h) → va_P G vwCl (wM m0 r cI cJ cZ cB cT g) H → va_D A (wM m0 r cI cJ cZ cB cT g) → gApart (wC q cI cJ cZ cB cT h) (wM m0 r cI cJ cZ cB cT g) → va_S A s.heap H locs → lv_has ls 4 [(0, .ref b), (1, .ref (q 0)), (2, .ref m0), (3, .int (nI i))] → W p l e room_1 s m #[Value.ref b] below meth c H locs 600000 7302249 (lw_Z below #[Value.ref b] s) (F0 m 1014 ls [])) {h g : HS} (hI : Inv h g) {H : Heap} {locs : List Loc} {ls : Array Slot} (hP : va_P G vwCl (wC q cI cJ cZ cB cT h) H) (hD : va_D A (wC q cI cJ cZ cB cT h)) (hPm : va_P G vwCl (wM m0 r cI cJ cZ cB cT g) H) (hDm : va_D A (wM m0 r cI cJ cZ cB cT g)) (hab : gApart (wC q cI cJ cZ cB cT h) (wM m0 r cI cJ cZ cB cT g)) (hS : va_S A s.heap H locs) (hl : lv_has ls 4 [(0, .ref b), (1, .ref (q 0)), (2, .ref m0), (3, .int (nI i))]) : W p l e room_1 s m #[Value.ref b] below meth c H locs 600000 7302249 (lw_Z below #[Value.ref b] s) (F0 m 527 ls []) := by
  obtain ⟨hx, hb, hr, hml, hown, hts, hX, hbl, hlocks, hgv⟩ := id C0
  have hts : ∀ w ∈ lwc, w.before #[Value.ref b] s = true := fun w h => hts w (lwc_in h)
  have hown : s.vm.findClass RL = some m.cls := hown
  have hbA : ¬ A b := fun h => Nat.lt_irrefl _ (Nat.lt_of_lt_of_le hbl (hAs b h))
  refine lv_aload_n hx hb dL_law_527 rfl (lv_at hl 1 rfl) ?_
  refine lv_aload_n hx hb dL_law_528 rfl (lv_at hl 0 rfl) ?_
  refine lv_iload_n hx hb dL_law_529 rfl (lv_at hl 3 rfl) ?_
  refine lv_iconst (v := 1) hx hb dL_law_530 (by decide) ?_
  refine lv_iadd hx hb dL_law_531 ?_
  refine gw_topi (y := (nI (i + 1))) (nI_add i 1) ?_
  refine gw_sld hx hb hX hbl hbA hS (i + 1) rfl (by omega) (by omega) dL_law_532 ?_
  obtain ⟨r1, h1, r2, g1, e1, e2, hI1, hq⟩ := hst.2.2.2.2.2.2.2.2.2.2.2.1 h g (xs (i + 1)) hI
  refine gx2_calli (gx_runV (As := [.int (xs (i + 1))]) (rest := []) ⟨hx, hb, hml, hown, hts⟩ (c_X8_end l G cI cJ cZ cB cT q h (xs (i + 1)) r1 h1 e1 H.size) (gG_V m_1013 m_1014 m_1015 m_60 m_1016) rfl e_X8_end ⟨(Nat.le_of_ble_eq_true rfl), (Nat.le_of_ble_eq_true rfl)⟩ hK hP hD hE hS hA 0 wC_at0 rfl rfl hl.1 rfl (Nat.le_of_ble_eq_true rfl) dL_law_533 ⟨(Nat.le_of_ble_eq_true rfl), (Nat.le_of_ble_eq_true rfl)⟩) hP hD hPm hab hS hA (fun x_1 u_1 H locs hw_1 hP hD hPm hab hS => ?_)
  subst x_1
  refine lv_pop hx hb dL_law_536 rfl ?_
  refine lv_aload_n hx hb dL_law_537 rfl (lv_at hl 2 rfl) ?_
  refine lv_aload_n hx hb dL_law_538 rfl (lv_at hl 0 rfl) ?_
  refine lv_iload_n hx hb dL_law_539 rfl (lv_at hl 3 rfl) ?_
  refine lv_iconst (v := 1) hx hb dL_law_540 (by decide) ?_
  refine lv_iadd hx hb dL_law_541 ?_
  refine gw_topi (y := (nI (i + 1))) (nI_add i 1) ?_
  refine gw_sld hx hb hX hbl hbA hS (i + 1) rfl (by omega) (by omega) dL_law_542 ?_
  refine gx2_calli (gx_runV (As := [.int (xs (i + 1))]) (rest := []) ⟨hx, hb, hml, hown, hts⟩ (c_X9_end l G cI cJ cZ cB cT m0 r g (xs (i + 1)) r2 g1 e2 H.size) (gG_V m_1017 m_1018 m_1019 m_64 m_1020) rfl e_X9_end ⟨(Nat.le_of_ble_eq_true rfl), (Nat.le_of_ble_eq_true rfl)⟩ hK hPm hDm hE hS hA 0 wM_at0 rfl rfl hl.1 rfl (Nat.le_of_ble_eq_true rfl) dL_law_543 ⟨(Nat.le_of_ble_eq_true rfl), (Nat.le_of_ble_eq_true rfl)⟩) hPm hDm hP hab.swap hS hA (fun x_2 u_2 H locs hw_2 hPm hDm hP hba hS => ?_)
  have hab := hba.swap
  subst x_2
  refine lv_pop hx hb dL_law_546 rfl ?_
  refine lv_goto (tgt := 1014) hx hb dL_law_547 (by decide) ?_
  exact hback h1 g1 hI1 H _ ls hP hD hPm hDm hab hS (lv_sub hl [0, 1, 2, 3] rfl)
theorem e_X8_text : yX8_text.cls = RX8 ∧ yX8_text.cls ≠ "java/lang/invoke/MethodHandle" ∧ yX8_text.cls ≠ "java/lang/invoke/VarHandle" ∧ (parseMethodDescriptor yX8_text.desc).map (fun d => d.parameters.length) = some 0 := by decide +kernel
theorem e_X9_text : yX9_text.cls = RX9 ∧ yX9_text.cls ≠ "java/lang/invoke/MethodHandle" ∧ yX9_text.cls ≠ "java/lang/invoke/VarHandle" ∧ (parseMethodDescriptor yX9_text.desc).map (fun d => d.parameters.length) = some 0 := by decide +kernel
set_option maxHeartbeats 4000000 in
set_option maxRecDepth 100000 in
theorem law_case12 {p : Program} {l : Launch} {e : Env} {s : State} {m : MethodId} {below : List Frame} {meth : Method} {c : Code} {G : va_G} {cI cJ cZ cB cT : ClassId} {b L : Nat} {xs : Nat → Int32} {A : Nat → Prop} {Inv : HS → HS → Prop} (hL : L ≤ 3072) (C0 : lw_At p s m meth c b L xs) (hAs : ∀ q, A q → s.heap.size ≤ q) (hA : ∀ q, s.heap.size ≤ q → A q) (hK : va_K G vwCl (gT cI cJ cZ cB cT) s) (hE : gEX G A s) {q r : Nat → Nat} {m0 : Nat} (hst : LawStep (fun k => k = 23) Inv) {i : Nat} (hi : i + 6 ≤ L) (hback : ∀ (h g : HS), Inv h g → ∀ (H : Heap) (locs : List Loc) (ls : Array Slot), va_P G vwCl (wC q cI cJ cZ cB cT h) H → va_D A (wC q cI cJ cZ cB cT h) → va_P G vwCl (wM m0 r cI cJ cZ cB cT g) H → va_D A (wM m0 r cI cJ cZ cB cT g) → gApart (wC q cI cJ cZ cB cT h) (wM m0 r cI cJ cZ cB cT g) → va_S A s.heap H locs → lv_has ls 4 [(0, .ref b), (1, .ref (q 0)), (2, .ref m0), (3, .int (nI i))] → W p l e room_1 s m #[Value.ref b] below meth c H locs 600000 7302249 (lw_Z below #[Value.ref b] s) (F0 m 1014 ls [])) {h g : HS} (hI : Inv h g) {H : Heap} {locs : List Loc} {ls : Array Slot} (hP : va_P G vwCl (wC q cI cJ cZ cB cT h) H) (hD : va_D A (wC q cI cJ cZ cB cT h)) (hPm : va_P G vwCl (wM m0 r cI cJ cZ cB cT g) H) (hDm : va_D A (wM m0 r cI cJ cZ cB cT g)) (hab : gApart (wC q cI cJ cZ cB cT h) (wM m0 r cI cJ cZ cB cT g)) (hS : va_S A s.heap H locs) (hl : lv_has ls 4 [(0, .ref b), (1, .ref (q 0)), (2, .ref m0), (3, .int (nI i))]) : W p l e room_1 s m #[Value.ref b] below meth c H locs 600000 7302249 (lw_Z below #[Value.ref b] s) (F0 m 550 ls []) := by
  obtain ⟨hx, hb, hr, hml, hown, hts, hX, hbl, hlocks, hgv⟩ := id C0
  have hts : ∀ w ∈ lwc, w.before #[Value.ref b] s = true := fun w h => hts w (lwc_in h)
  have hown : s.vm.findClass RL = some m.cls := hown
  have hbA : ¬ A b := fun h => Nat.lt_irrefl _ (Nat.lt_of_lt_of_le hbl (hAs b h))
  refine lv_aload_n hx hb dL_law_550 rfl (lv_at hl 1 rfl) ?_
  obtain ⟨r1, h1, r2, g1, e1, e2, hI1, hq⟩ := hst.2.2.2.2.2.2.2.2.2.2.2.2.1 h g  hI
  refine gx2_calli (gx_runV (As := []) (rest := []) ⟨hx, hb, hml, hown, hts⟩ (c_X8_text l G cI cJ cZ cB cT q h  r1 h1 e1 H.size) (gG_V m_1021 m_1022 m_1023 m_60 m_1024) rfl e_X8_text ⟨(Nat.le_of_ble_eq_true rfl), (Nat.le_of_ble_eq_true rfl)⟩ hK hP hD hE hS hA 0 wC_at0 rfl rfl hl.1 rfl (Nat.le_of_ble_eq_true rfl) dL_law_551 ⟨(Nat.le_of_ble_eq_true rfl), (Nat.le_of_ble_eq_true rfl)⟩) hP hD hPm hab hS hA (fun x_1 u_1 H locs hw_1 hP hD hPm hab hS => ?_)
  subst x_1
  refine lv_pop hx hb dL_law_554 rfl ?_
  refine lv_aload_n hx hb dL_law_555 rfl (lv_at hl 2 rfl) ?_
  refine gx2_calli (gx_runV (As := []) (rest := []) ⟨hx, hb, hml, hown, hts⟩ (c_X9_text l G cI cJ cZ cB cT m0 r g  r2 g1 e2 H.size) (gG_V m_1025 m_1026 m_1027 m_64 m_1028) rfl e_X9_text ⟨(Nat.le_of_ble_eq_true rfl), (Nat.le_of_ble_eq_true rfl)⟩ hK hPm hDm hE hS hA 0 wM_at0 rfl rfl hl.1 rfl (Nat.le_of_ble_eq_true rfl) dL_law_556 ⟨(Nat.le_of_ble_eq_true rfl), (Nat.le_of_ble_eq_true rfl)⟩) hPm hDm hP hab.swap hS hA (fun x_2 u_2 H locs hw_2 hPm hDm hP hba hS => ?_)
  have hab := hba.swap
  subst x_2
  refine lv_pop hx hb dL_law_559 rfl ?_
  refine lv_goto (tgt := 1014) hx hb dL_law_560 (by decide) ?_
  exact hback h1 g1 hI1 H _ ls hP hD hPm hDm hab hS (lv_sub hl [0, 1, 2, 3] rfl)
theorem e_X8_fault : yX8_fault.cls = RX8 ∧ yX8_fault.cls ≠ "java/lang/invoke/MethodHandle" ∧ yX8_fault.cls ≠ "java/lang/invoke/VarHandle" ∧ (parseMethodDescriptor yX8_fault.desc).map (fun d => d.parameters.length) = some 1 := by decide +kernel
theorem e_X9_fault : yX9_fault.cls = RX9 ∧ yX9_fault.cls ≠ "java/lang/invoke/MethodHandle" ∧ yX9_fault.cls ≠ "java/lang/invoke/VarHandle" ∧ (parseMethodDescriptor yX9_fault.desc).map (fun d => d.parameters.length) = some 1 := by decide +kernel
set_option maxHeartbeats 4000000 in
set_option maxRecDepth 100000 in
theorem law_case13 {p : Program} {l : Launch} {e : Env} {s : State} {m : MethodId} {below : List Frame} {meth : Method} {c : Code} {G : va_G} {cI cJ cZ cB cT : ClassId} {b L : Nat} {xs : Nat → Int32} {A : Nat → Prop} {Inv : HS → HS → Prop} (hL : L ≤ 3072) (C0 : lw_At p s m meth c b L xs) (hAs : ∀ q, A q → s.heap.size ≤ q) (hA : ∀ q, s.heap.size ≤ q → A q) (hK : va_K G vwCl (gT cI cJ cZ cB cT) s) (hE : gEX G A s) {q r : Nat → Nat} {m0 : Nat} (hst : LawStep (fun k => k = 23) Inv) {i : Nat} (hi : i + 6 ≤ L) (hback : ∀ (h g : HS), Inv h g → ∀ (H : Heap) (locs : List Loc) (ls : Array Slot), va_P G vwCl (wC q cI cJ cZ cB cT h) H → va_D A (wC q cI cJ cZ cB cT h) → va_P G vwCl (wM m0 r cI cJ cZ cB cT g) H → va_D A (wM m0 r cI cJ cZ cB cT g) → gApart (wC q cI cJ cZ cB cT h) (wM m0 r cI cJ cZ cB cT g) → va_S A s.heap H locs → lv_has ls 4 [(0, .ref b), (1, .ref (q 0)), (2, .ref m0), (3, .int (nI i))] → W p l e room_1 s m #[Value.ref b] below meth c H locs 600000 7302249 (lw_Z below #[Value.ref b] s) (F0 m 1014 ls [])) {h g : HS} (hI : Inv h g) {H : Heap} {locs : List Loc} {ls : Array Slot} (hP : va_P G vwCl (wC q cI cJ cZ cB cT h) H) (hD : va_D A (wC q cI cJ cZ cB cT h)) (hPm : va_P G vwCl (wM m0 r cI cJ cZ cB cT g) H) (hDm : va_D A (wM m0 r cI cJ cZ cB cT g)) (hab : gApart (wC q cI cJ cZ cB cT h) (wM m0 r cI cJ cZ cB cT g)) (hS : va_S A s.heap H locs) (hl : lv_has ls 4 [(0, .ref b), (1, .ref (q 0)), (2, .ref m0), (3, .int (nI i))]) : W p l e room_1 s m #[Value.ref b] below meth c H locs 600000 7302249 (lw_Z below #[Value.ref b] s) (F0 m 563 ls []) := by
  obtain ⟨hx, hb, hr, hml, hown, hts, hX, hbl, hlocks, hgv⟩ := id C0
  have hts : ∀ w ∈ lwc, w.before #[Value.ref b] s = true := fun w h => hts w (lwc_in h)
  have hown : s.vm.findClass RL = some m.cls := hown
  have hbA : ¬ A b := fun h => Nat.lt_irrefl _ (Nat.lt_of_lt_of_le hbl (hAs b h))
  refine lv_aload_n hx hb dL_law_563 rfl (lv_at hl 1 rfl) ?_
  refine lv_aload_n hx hb dL_law_564 rfl (lv_at hl 0 rfl) ?_
  refine lv_iload_n hx hb dL_law_565 rfl (lv_at hl 3 rfl) ?_
  refine lv_iconst (v := 1) hx hb dL_law_566 (by decide) ?_
  refine lv_iadd hx hb dL_law_567 ?_
  refine gw_topi (y := (nI (i + 1))) (nI_add i 1) ?_
  refine gw_sld hx hb hX hbl hbA hS (i + 1) rfl (by omega) (by omega) dL_law_568 ?_
  obtain ⟨r1, h1, r2, g1, e1, e2, hI1, hq⟩ := hst.2.2.2.2.2.2.2.2.2.2.2.2.2.1 h g (xs (i + 1)) hI
  refine gx2_calli (gx_runV (As := [.int (xs (i + 1))]) (rest := []) ⟨hx, hb, hml, hown, hts⟩ (c_X8_fault l G cI cJ cZ cB cT q h (xs (i + 1)) r1 h1 e1 H.size) (gG_V m_1029 m_1030 m_1031 m_60 m_1032) rfl e_X8_fault ⟨(Nat.le_of_ble_eq_true rfl), (Nat.le_of_ble_eq_true rfl)⟩ hK hP hD hE hS hA 0 wC_at0 rfl rfl hl.1 rfl (Nat.le_of_ble_eq_true rfl) dL_law_569 ⟨(Nat.le_of_ble_eq_true rfl), (Nat.le_of_ble_eq_true rfl)⟩) hP hD hPm hab hS hA (fun x_1 u_1 H locs hw_1 hP hD hPm hab hS => ?_)
  subst x_1
  refine lv_pop hx hb dL_law_572 rfl ?_
  refine lv_aload_n hx hb dL_law_573 rfl (lv_at hl 2 rfl) ?_
  refine lv_aload_n hx hb dL_law_574 rfl (lv_at hl 0 rfl) ?_
  refine lv_iload_n hx hb dL_law_575 rfl (lv_at hl 3 rfl) ?_
  refine lv_iconst (v := 1) hx hb dL_law_576 (by decide) ?_
  refine lv_iadd hx hb dL_law_577 ?_
  refine gw_topi (y := (nI (i + 1))) (nI_add i 1) ?_
  refine gw_sld hx hb hX hbl hbA hS (i + 1) rfl (by omega) (by omega) dL_law_578 ?_
  refine gx2_calli (gx_runV (As := [.int (xs (i + 1))]) (rest := []) ⟨hx, hb, hml, hown, hts⟩ (c_X9_fault l G cI cJ cZ cB cT m0 r g (xs (i + 1)) r2 g1 e2 H.size) (gG_V m_1033 m_1034 m_1035 m_64 m_1036) rfl e_X9_fault ⟨(Nat.le_of_ble_eq_true rfl), (Nat.le_of_ble_eq_true rfl)⟩ hK hPm hDm hE hS hA 0 wM_at0 rfl rfl hl.1 rfl (Nat.le_of_ble_eq_true rfl) dL_law_579 ⟨(Nat.le_of_ble_eq_true rfl), (Nat.le_of_ble_eq_true rfl)⟩) hPm hDm hP hab.swap hS hA (fun x_2 u_2 H locs hw_2 hPm hDm hP hba hS => ?_)
  have hab := hba.swap
  subst x_2
  refine lv_pop hx hb dL_law_582 rfl ?_
  refine lv_goto (tgt := 1014) hx hb dL_law_583 (by decide) ?_
  exact hback h1 g1 hI1 H _ ls hP hD hPm hDm hab hS (lv_sub hl [0, 1, 2, 3] rfl)
theorem e_X8_by : yX8_by.cls = RX8 ∧ yX8_by.cls ≠ "java/lang/invoke/MethodHandle" ∧ yX8_by.cls ≠ "java/lang/invoke/VarHandle" ∧ (parseMethodDescriptor yX8_by.desc).map (fun d => d.parameters.length) = some 1 := by decide +kernel
theorem e_X9_by : yX9_by.cls = RX9 ∧ yX9_by.cls ≠ "java/lang/invoke/MethodHandle" ∧ yX9_by.cls ≠ "java/lang/invoke/VarHandle" ∧ (parseMethodDescriptor yX9_by.desc).map (fun d => d.parameters.length) = some 1 := by decide +kernel
set_option maxHeartbeats 4000000 in
set_option maxRecDepth 100000 in
theorem law_case14 {p : Program} {l : Launch} {e : Env} {s : State} {m : MethodId} {below : List Frame} {meth : Method} {c : Code} {G : va_G} {cI cJ cZ cB cT : ClassId} {b L : Nat} {xs : Nat → Int32} {A : Nat → Prop} {Inv : HS → HS → Prop} (hL : L ≤ 3072) (C0 : lw_At p s m meth c b L xs) (hAs : ∀ q, A q → s.heap.size ≤ q) (hA : ∀ q, s.heap.size ≤ q → A q) (hK : va_K G vwCl (gT cI cJ cZ cB cT) s) (hE : gEX G A s) {q r : Nat → Nat} {m0 : Nat} (hst : LawStep (fun k => k = 23) Inv) {i : Nat} (hi : i + 6 ≤ L) (hback : ∀ (h g : HS), Inv h g → ∀ (H : Heap) (locs : List Loc) (ls : Array Slot), va_P G vwCl (wC q cI cJ cZ cB cT h) H → va_D A (wC q cI cJ cZ cB cT h) → va_P G vwCl (wM m0 r cI cJ cZ cB cT g) H → va_D A (wM m0 r cI cJ cZ cB cT g) → gApart (wC q cI cJ cZ cB cT h) (wM m0 r cI cJ cZ cB cT g) → va_S A s.heap H locs → lv_has ls 4 [(0, .ref b), (1, .ref (q 0)), (2, .ref m0), (3, .int (nI i))] → W p l e room_1 s m #[Value.ref b] below meth c H locs 600000 7302249 (lw_Z below #[Value.ref b] s) (F0 m 1014 ls [])) {h g : HS} (hI : Inv h g) {H : Heap} {locs : List Loc} {ls : Array Slot} (hP : va_P G vwCl (wC q cI cJ cZ cB cT h) H) (hD : va_D A (wC q cI cJ cZ cB cT h)) (hPm : va_P G vwCl (wM m0 r cI cJ cZ cB cT g) H) (hDm : va_D A (wM m0 r cI cJ cZ cB cT g)) (hab : gApart (wC q cI cJ cZ cB cT h) (wM m0 r cI cJ cZ cB cT g)) (hS : va_S A s.heap H locs) (hl : lv_has ls 4 [(0, .ref b), (1, .ref (q 0)), (2, .ref m0), (3, .int (nI i))]) : W p l e room_1 s m #[Value.ref b] below meth c H locs 600000 7302249 (lw_Z below #[Value.ref b] s) (F0 m 586 ls []) := by
  obtain ⟨hx, hb, hr, hml, hown, hts, hX, hbl, hlocks, hgv⟩ := id C0
  have hts : ∀ w ∈ lwc, w.before #[Value.ref b] s = true := fun w h => hts w (lwc_in h)
  have hown : s.vm.findClass RL = some m.cls := hown
  have hbA : ¬ A b := fun h => Nat.lt_irrefl _ (Nat.lt_of_lt_of_le hbl (hAs b h))
  refine lv_aload_n hx hb dL_law_586 rfl (lv_at hl 1 rfl) ?_
  refine lv_aload_n hx hb dL_law_587 rfl (lv_at hl 0 rfl) ?_
  refine lv_iload_n hx hb dL_law_588 rfl (lv_at hl 3 rfl) ?_
  refine lv_iconst (v := 1) hx hb dL_law_589 (by decide) ?_
  refine lv_iadd hx hb dL_law_590 ?_
  refine gw_topi (y := (nI (i + 1))) (nI_add i 1) ?_
  refine gw_sld hx hb hX hbl hbA hS (i + 1) rfl (by omega) (by omega) dL_law_591 ?_
  obtain ⟨r1, h1, r2, g1, e1, e2, hI1, hq⟩ := hst.2.2.2.2.2.2.2.2.2.2.2.2.2.2.1 h g (xs (i + 1)) hI
  refine gx2_calli (gx_runV (As := [.int (xs (i + 1))]) (rest := []) ⟨hx, hb, hml, hown, hts⟩ (c_X8_by l G cI cJ cZ cB cT q h (xs (i + 1)) r1 h1 e1 H.size) (gG_V m_1037 m_1038 m_1039 m_60 m_1040) rfl e_X8_by ⟨(Nat.le_of_ble_eq_true rfl), (Nat.le_of_ble_eq_true rfl)⟩ hK hP hD hE hS hA 0 wC_at0 rfl rfl hl.1 rfl (Nat.le_of_ble_eq_true rfl) dL_law_592 ⟨(Nat.le_of_ble_eq_true rfl), (Nat.le_of_ble_eq_true rfl)⟩) hP hD hPm hab hS hA (fun x_1 u_1 H locs hw_1 hP hD hPm hab hS => ?_)
  subst x_1
  refine lv_pop hx hb dL_law_595 rfl ?_
  refine lv_aload_n hx hb dL_law_596 rfl (lv_at hl 2 rfl) ?_
  refine lv_aload_n hx hb dL_law_597 rfl (lv_at hl 0 rfl) ?_
  refine lv_iload_n hx hb dL_law_598 rfl (lv_at hl 3 rfl) ?_
  refine lv_iconst (v := 1) hx hb dL_law_599 (by decide) ?_
  refine lv_iadd hx hb dL_law_600 ?_
  refine gw_topi (y := (nI (i + 1))) (nI_add i 1) ?_
  refine gw_sld hx hb hX hbl hbA hS (i + 1) rfl (by omega) (by omega) dL_law_601 ?_
  refine gx2_calli (gx_runV (As := [.int (xs (i + 1))]) (rest := []) ⟨hx, hb, hml, hown, hts⟩ (c_X9_by l G cI cJ cZ cB cT m0 r g (xs (i + 1)) r2 g1 e2 H.size) (gG_V m_1041 m_1042 m_1043 m_64 m_1044) rfl e_X9_by ⟨(Nat.le_of_ble_eq_true rfl), (Nat.le_of_ble_eq_true rfl)⟩ hK hPm hDm hE hS hA 0 wM_at0 rfl rfl hl.1 rfl (Nat.le_of_ble_eq_true rfl) dL_law_602 ⟨(Nat.le_of_ble_eq_true rfl), (Nat.le_of_ble_eq_true rfl)⟩) hPm hDm hP hab.swap hS hA (fun x_2 u_2 H locs hw_2 hPm hDm hP hba hS => ?_)
  have hab := hba.swap
  subst x_2
  refine lv_pop hx hb dL_law_605 rfl ?_
  refine lv_goto (tgt := 1014) hx hb dL_law_606 (by decide) ?_
  exact hback h1 g1 hI1 H _ ls hP hD hPm hDm hab hS (lv_sub hl [0, 1, 2, 3] rfl)
theorem e_X8_played : yX8_played.cls = RX8 ∧ yX8_played.cls ≠ "java/lang/invoke/MethodHandle" ∧ yX8_played.cls ≠ "java/lang/invoke/VarHandle" ∧ (parseMethodDescriptor yX8_played.desc).map (fun d => d.parameters.length) = some 1 := by decide +kernel
theorem e_X9_played : yX9_played.cls = RX9 ∧ yX9_played.cls ≠ "java/lang/invoke/MethodHandle" ∧ yX9_played.cls ≠ "java/lang/invoke/VarHandle" ∧ (parseMethodDescriptor yX9_played.desc).map (fun d => d.parameters.length) = some 1 := by decide +kernel
set_option maxHeartbeats 4000000 in
set_option maxRecDepth 100000 in
theorem law_case15 {p : Program} {l : Launch} {e : Env} {s : State} {m : MethodId} {below : List Frame} {meth : Method} {c : Code} {G : va_G} {cI cJ cZ cB cT : ClassId} {b L : Nat} {xs : Nat → Int32} {A : Nat → Prop} {Inv : HS → HS → Prop} (hL : L ≤ 3072) (C0 : lw_At p s m meth c b L xs) (hAs : ∀ q, A q → s.heap.size ≤ q) (hA : ∀ q, s.heap.size ≤ q → A q) (hK : va_K G vwCl (gT cI cJ cZ cB cT) s) (hE : gEX G A s) {q r : Nat → Nat} {m0 : Nat} (hst : LawStep (fun k => k = 23) Inv) {i : Nat} (hi : i + 6 ≤ L) (hback : ∀ (h g : HS), Inv h g → ∀ (H : Heap) (locs : List Loc) (ls : Array Slot), va_P G vwCl (wC q cI cJ cZ cB cT h) H → va_D A (wC q cI cJ cZ cB cT h) → va_P G vwCl (wM m0 r cI cJ cZ cB cT g) H → va_D A (wM m0 r cI cJ cZ cB cT g) → gApart (wC q cI cJ cZ cB cT h) (wM m0 r cI cJ cZ cB cT g) → va_S A s.heap H locs → lv_has ls 4 [(0, .ref b), (1, .ref (q 0)), (2, .ref m0), (3, .int (nI i))] → W p l e room_1 s m #[Value.ref b] below meth c H locs 600000 7302249 (lw_Z below #[Value.ref b] s) (F0 m 1014 ls [])) {h g : HS} (hI : Inv h g) {H : Heap} {locs : List Loc} {ls : Array Slot} (hP : va_P G vwCl (wC q cI cJ cZ cB cT h) H) (hD : va_D A (wC q cI cJ cZ cB cT h)) (hPm : va_P G vwCl (wM m0 r cI cJ cZ cB cT g) H) (hDm : va_D A (wM m0 r cI cJ cZ cB cT g)) (hab : gApart (wC q cI cJ cZ cB cT h) (wM m0 r cI cJ cZ cB cT g)) (hS : va_S A s.heap H locs) (hl : lv_has ls 4 [(0, .ref b), (1, .ref (q 0)), (2, .ref m0), (3, .int (nI i))]) : W p l e room_1 s m #[Value.ref b] below meth c H locs 600000 7302249 (lw_Z below #[Value.ref b] s) (F0 m 609 ls []) := by
  obtain ⟨hx, hb, hr, hml, hown, hts, hX, hbl, hlocks, hgv⟩ := id C0
  have hts : ∀ w ∈ lwc, w.before #[Value.ref b] s = true := fun w h => hts w (lwc_in h)
  have hown : s.vm.findClass RL = some m.cls := hown
  have hbA : ¬ A b := fun h => Nat.lt_irrefl _ (Nat.lt_of_lt_of_le hbl (hAs b h))
  refine lv_aload_n hx hb dL_law_609 rfl (lv_at hl 1 rfl) ?_
  refine lv_aload_n hx hb dL_law_610 rfl (lv_at hl 0 rfl) ?_
  refine lv_iload_n hx hb dL_law_611 rfl (lv_at hl 3 rfl) ?_
  refine lv_iconst (v := 1) hx hb dL_law_612 (by decide) ?_
  refine lv_iadd hx hb dL_law_613 ?_
  refine gw_topi (y := (nI (i + 1))) (nI_add i 1) ?_
  refine gw_sld hx hb hX hbl hbA hS (i + 1) rfl (by omega) (by omega) dL_law_614 ?_
  obtain ⟨r1, h1, r2, g1, e1, e2, hI1, hq⟩ := hst.2.2.2.2.2.2.2.2.2.2.2.2.2.2.2.1 h g (xs (i + 1)) hI
  refine gx2_calli (gx_runV (As := [.int (xs (i + 1))]) (rest := []) ⟨hx, hb, hml, hown, hts⟩ (c_X8_played l G cI cJ cZ cB cT q h (xs (i + 1)) r1 h1 e1 H.size) (gG_V m_1045 m_1046 m_1047 m_60 m_1048) rfl e_X8_played ⟨(Nat.le_of_ble_eq_true rfl), (Nat.le_of_ble_eq_true rfl)⟩ hK hP hD hE hS hA 0 wC_at0 rfl rfl hl.1 rfl (Nat.le_of_ble_eq_true rfl) dL_law_615 ⟨(Nat.le_of_ble_eq_true rfl), (Nat.le_of_ble_eq_true rfl)⟩) hP hD hPm hab hS hA (fun x_1 u_1 H locs hw_1 hP hD hPm hab hS => ?_)
  subst x_1
  refine lv_pop hx hb dL_law_618 rfl ?_
  refine lv_aload_n hx hb dL_law_619 rfl (lv_at hl 2 rfl) ?_
  refine lv_aload_n hx hb dL_law_620 rfl (lv_at hl 0 rfl) ?_
  refine lv_iload_n hx hb dL_law_621 rfl (lv_at hl 3 rfl) ?_
  refine lv_iconst (v := 1) hx hb dL_law_622 (by decide) ?_
  refine lv_iadd hx hb dL_law_623 ?_
  refine gw_topi (y := (nI (i + 1))) (nI_add i 1) ?_
  refine gw_sld hx hb hX hbl hbA hS (i + 1) rfl (by omega) (by omega) dL_law_624 ?_
  refine gx2_calli (gx_runV (As := [.int (xs (i + 1))]) (rest := []) ⟨hx, hb, hml, hown, hts⟩ (c_X9_played l G cI cJ cZ cB cT m0 r g (xs (i + 1)) r2 g1 e2 H.size) (gG_V m_1049 m_1050 m_1051 m_64 m_1052) rfl e_X9_played ⟨(Nat.le_of_ble_eq_true rfl), (Nat.le_of_ble_eq_true rfl)⟩ hK hPm hDm hE hS hA 0 wM_at0 rfl rfl hl.1 rfl (Nat.le_of_ble_eq_true rfl) dL_law_625 ⟨(Nat.le_of_ble_eq_true rfl), (Nat.le_of_ble_eq_true rfl)⟩) hPm hDm hP hab.swap hS hA (fun x_2 u_2 H locs hw_2 hPm hDm hP hba hS => ?_)
  have hab := hba.swap
  subst x_2
  refine lv_pop hx hb dL_law_628 rfl ?_
  refine lv_goto (tgt := 1014) hx hb dL_law_629 (by decide) ?_
  exact hback h1 g1 hI1 H _ ls hP hD hPm hDm hab hS (lv_sub hl [0, 1, 2, 3] rfl)
theorem e_X8_undo : yX8_undo.cls = RX8 ∧ yX8_undo.cls ≠ "java/lang/invoke/MethodHandle" ∧ yX8_undo.cls ≠ "java/lang/invoke/VarHandle" ∧ (parseMethodDescriptor yX8_undo.desc).map (fun d => d.parameters.length) = some 0 := by decide +kernel
theorem e_X9_undo : yX9_undo.cls = RX9 ∧ yX9_undo.cls ≠ "java/lang/invoke/MethodHandle" ∧ yX9_undo.cls ≠ "java/lang/invoke/VarHandle" ∧ (parseMethodDescriptor yX9_undo.desc).map (fun d => d.parameters.length) = some 0 := by decide +kernel
set_option maxHeartbeats 4000000 in
set_option maxRecDepth 100000 in
theorem law_case16 {p : Program} {l : Launch} {e : Env} {s : State} {m : MethodId} {below : List Frame} {meth : Method} {c : Code} {G : va_G} {cI cJ cZ cB cT : ClassId} {b L : Nat} {xs : Nat → Int32} {A : Nat → Prop} {Inv : HS → HS → Prop} (hL : L ≤ 3072) (C0 : lw_At p s m meth c b L xs) (hAs : ∀ q, A q → s.heap.size ≤ q) (hA : ∀ q, s.heap.size ≤ q → A q) (hK : va_K G vwCl (gT cI cJ cZ cB cT) s) (hE : gEX G A s) {q r : Nat → Nat} {m0 : Nat} (hst : LawStep (fun k => k = 23) Inv) {i : Nat} (hi : i + 6 ≤ L) (hback : ∀ (h g : HS), Inv h g → ∀ (H : Heap) (locs : List Loc) (ls : Array Slot), va_P G vwCl (wC q cI cJ cZ cB cT h) H → va_D A (wC q cI cJ cZ cB cT h) → va_P G vwCl (wM m0 r cI cJ cZ cB cT g) H → va_D A (wM m0 r cI cJ cZ cB cT g) → gApart (wC q cI cJ cZ cB cT h) (wM m0 r cI cJ cZ cB cT g) → va_S A s.heap H locs → lv_has ls 4 [(0, .ref b), (1, .ref (q 0)), (2, .ref m0), (3, .int (nI i))] → W p l e room_1 s m #[Value.ref b] below meth c H locs 600000 7302249 (lw_Z below #[Value.ref b] s) (F0 m 1014 ls [])) {h g : HS} (hI : Inv h g) {H : Heap} {locs : List Loc} {ls : Array Slot} (hP : va_P G vwCl (wC q cI cJ cZ cB cT h) H) (hD : va_D A (wC q cI cJ cZ cB cT h)) (hPm : va_P G vwCl (wM m0 r cI cJ cZ cB cT g) H) (hDm : va_D A (wM m0 r cI cJ cZ cB cT g)) (hab : gApart (wC q cI cJ cZ cB cT h) (wM m0 r cI cJ cZ cB cT g)) (hS : va_S A s.heap H locs) (hl : lv_has ls 4 [(0, .ref b), (1, .ref (q 0)), (2, .ref m0), (3, .int (nI i))]) : W p l e room_1 s m #[Value.ref b] below meth c H locs 600000 7302249 (lw_Z below #[Value.ref b] s) (F0 m 632 ls []) := by
  obtain ⟨hx, hb, hr, hml, hown, hts, hX, hbl, hlocks, hgv⟩ := id C0
  have hts : ∀ w ∈ lwc, w.before #[Value.ref b] s = true := fun w h => hts w (lwc_in h)
  have hown : s.vm.findClass RL = some m.cls := hown
  have hbA : ¬ A b := fun h => Nat.lt_irrefl _ (Nat.lt_of_lt_of_le hbl (hAs b h))
  refine lv_aload_n hx hb dL_law_632 rfl (lv_at hl 1 rfl) ?_
  obtain ⟨r1, h1, r2, g1, e1, e2, hI1, hq⟩ := hst.2.2.2.2.2.2.2.2.2.2.2.2.2.2.2.2.1 h g  hI
  refine gx2_calli (gx_runV (As := []) (rest := []) ⟨hx, hb, hml, hown, hts⟩ (c_X8_undo l G cI cJ cZ cB cT q h  r1 h1 e1 H.size) (gG_V m_1053 m_1054 m_1055 m_60 m_1056) rfl e_X8_undo ⟨(Nat.le_of_ble_eq_true rfl), (Nat.le_of_ble_eq_true rfl)⟩ hK hP hD hE hS hA 0 wC_at0 rfl rfl hl.1 rfl (Nat.le_of_ble_eq_true rfl) dL_law_633 ⟨(Nat.le_of_ble_eq_true rfl), (Nat.le_of_ble_eq_true rfl)⟩) hP hD hPm hab hS hA (fun x_1 u_1 H locs hw_1 hP hD hPm hab hS => ?_)
  subst x_1
  refine lv_pop hx hb dL_law_636 rfl ?_
  refine lv_aload_n hx hb dL_law_637 rfl (lv_at hl 2 rfl) ?_
  refine gx2_calli (gx_runV (As := []) (rest := []) ⟨hx, hb, hml, hown, hts⟩ (c_X9_undo l G cI cJ cZ cB cT m0 r g  r2 g1 e2 H.size) (gG_V m_1057 m_1058 m_1059 m_64 m_1060) rfl e_X9_undo ⟨(Nat.le_of_ble_eq_true rfl), (Nat.le_of_ble_eq_true rfl)⟩ hK hPm hDm hE hS hA 0 wM_at0 rfl rfl hl.1 rfl (Nat.le_of_ble_eq_true rfl) dL_law_638 ⟨(Nat.le_of_ble_eq_true rfl), (Nat.le_of_ble_eq_true rfl)⟩) hPm hDm hP hab.swap hS hA (fun x_2 u_2 H locs hw_2 hPm hDm hP hba hS => ?_)
  have hab := hba.swap
  subst x_2
  refine lv_pop hx hb dL_law_641 rfl ?_
  refine lv_goto (tgt := 1014) hx hb dL_law_642 (by decide) ?_
  exact hback h1 g1 hI1 H _ ls hP hD hPm hDm hab hS (lv_sub hl [0, 1, 2, 3] rfl)
theorem e_X8_of : yX8_of.cls = RX8 ∧ yX8_of.cls ≠ "java/lang/invoke/MethodHandle" ∧ yX8_of.cls ≠ "java/lang/invoke/VarHandle" ∧ (parseMethodDescriptor yX8_of.desc).map (fun d => d.parameters.length) = some 2 := by decide +kernel
theorem e_X9_of : yX9_of.cls = RX9 ∧ yX9_of.cls ≠ "java/lang/invoke/MethodHandle" ∧ yX9_of.cls ≠ "java/lang/invoke/VarHandle" ∧ (parseMethodDescriptor yX9_of.desc).map (fun d => d.parameters.length) = some 2 := by decide +kernel
set_option maxHeartbeats 4000000 in
set_option maxRecDepth 100000 in
theorem law_case17 {p : Program} {l : Launch} {e : Env} {s : State} {m : MethodId} {below : List Frame} {meth : Method} {c : Code} {G : va_G} {cI cJ cZ cB cT : ClassId} {b L : Nat} {xs : Nat → Int32} {A : Nat → Prop} {Inv : HS → HS → Prop} (hL : L ≤ 3072) (C0 : lw_At p s m meth c b L xs) (hAs : ∀ q, A q → s.heap.size ≤ q) (hA : ∀ q, s.heap.size ≤ q → A q) (hK : va_K G vwCl (gT cI cJ cZ cB cT) s) (hE : gEX G A s) {q r : Nat → Nat} {m0 : Nat} (hst : LawStep (fun k => k = 23) Inv) {i : Nat} (hi : i + 6 ≤ L) (hback : ∀ (h g : HS), Inv h g → ∀ (H : Heap) (locs : List Loc) (ls : Array Slot), va_P G vwCl (wC q cI cJ cZ cB cT h) H → va_D A (wC q cI cJ cZ cB cT h) → va_P G vwCl (wM m0 r cI cJ cZ cB cT g) H → va_D A (wM m0 r cI cJ cZ cB cT g) → gApart (wC q cI cJ cZ cB cT h) (wM m0 r cI cJ cZ cB cT g) → va_S A s.heap H locs → lv_has ls 4 [(0, .ref b), (1, .ref (q 0)), (2, .ref m0), (3, .int (nI i))] → W p l e room_1 s m #[Value.ref b] below meth c H locs 600000 7302249 (lw_Z below #[Value.ref b] s) (F0 m 1014 ls [])) {h g : HS} (hI : Inv h g) {H : Heap} {locs : List Loc} {ls : Array Slot} (hP : va_P G vwCl (wC q cI cJ cZ cB cT h) H) (hD : va_D A (wC q cI cJ cZ cB cT h)) (hPm : va_P G vwCl (wM m0 r cI cJ cZ cB cT g) H) (hDm : va_D A (wM m0 r cI cJ cZ cB cT g)) (hab : gApart (wC q cI cJ cZ cB cT h) (wM m0 r cI cJ cZ cB cT g)) (hS : va_S A s.heap H locs) (hl : lv_has ls 4 [(0, .ref b), (1, .ref (q 0)), (2, .ref m0), (3, .int (nI i))]) : W p l e room_1 s m #[Value.ref b] below meth c H locs 600000 7302249 (lw_Z below #[Value.ref b] s) (F0 m 645 ls []) := by
  obtain ⟨hx, hb, hr, hml, hown, hts, hX, hbl, hlocks, hgv⟩ := id C0
  have hts : ∀ w ∈ lwc, w.before #[Value.ref b] s = true := fun w h => hts w (lwc_in h)
  have hown : s.vm.findClass RL = some m.cls := hown
  have hbA : ¬ A b := fun h => Nat.lt_irrefl _ (Nat.lt_of_lt_of_le hbl (hAs b h))
  refine lv_aload_n hx hb dL_law_645 rfl (lv_at hl 1 rfl) ?_
  refine lv_aload_n hx hb dL_law_646 rfl (lv_at hl 0 rfl) ?_
  refine lv_iload_n hx hb dL_law_647 rfl (lv_at hl 3 rfl) ?_
  refine lv_iconst (v := 1) hx hb dL_law_648 (by decide) ?_
  refine lv_iadd hx hb dL_law_649 ?_
  refine gw_topi (y := (nI (i + 1))) (nI_add i 1) ?_
  refine gw_sld hx hb hX hbl hbA hS (i + 1) rfl (by omega) (by omega) dL_law_650 ?_
  refine lv_aload_n hx hb dL_law_651 rfl (lv_at hl 0 rfl) ?_
  refine lv_iload_n hx hb dL_law_652 rfl (lv_at hl 3 rfl) ?_
  refine lv_iconst (v := 2) hx hb dL_law_653 (by decide) ?_
  refine lv_iadd hx hb dL_law_654 ?_
  refine gw_topi (y := (nI (i + 2))) (nI_add i 2) ?_
  refine gw_sld hx hb hX hbl hbA hS (i + 2) rfl (by omega) (by omega) dL_law_655 ?_
  obtain ⟨r1, h1, r2, g1, e1, e2, hI1, hq⟩ := hst.2.2.2.2.2.2.2.2.2.2.2.2.2.2.2.2.2.1 h g (xs (i + 1)) (xs (i + 2)) hI
  refine gx2_calli (gx_runV (As := [.int (xs (i + 1)), .int (xs (i + 2))]) (rest := []) ⟨hx, hb, hml, hown, hts⟩ (c_X8_of l G cI cJ cZ cB cT q h (xs (i + 1)) (xs (i + 2)) r1 h1 e1 H.size) (gG_V m_1061 m_1062 m_1063 m_60 m_1064) rfl e_X8_of ⟨(Nat.le_of_ble_eq_true rfl), (Nat.le_of_ble_eq_true rfl)⟩ hK hP hD hE hS hA 0 wC_at0 rfl rfl hl.1 rfl (Nat.le_of_ble_eq_true rfl) dL_law_656 ⟨(Nat.le_of_ble_eq_true rfl), (Nat.le_of_ble_eq_true rfl)⟩) hP hD hPm hab hS hA (fun x_1 u_1 H locs hw_1 hP hD hPm hab hS => ?_)
  subst x_1
  refine lv_pop hx hb dL_law_659 rfl ?_
  refine lv_aload_n hx hb dL_law_660 rfl (lv_at hl 2 rfl) ?_
  refine lv_aload_n hx hb dL_law_661 rfl (lv_at hl 0 rfl) ?_
  refine lv_iload_n hx hb dL_law_662 rfl (lv_at hl 3 rfl) ?_
  refine lv_iconst (v := 1) hx hb dL_law_663 (by decide) ?_
  refine lv_iadd hx hb dL_law_664 ?_
  refine gw_topi (y := (nI (i + 1))) (nI_add i 1) ?_
  refine gw_sld hx hb hX hbl hbA hS (i + 1) rfl (by omega) (by omega) dL_law_665 ?_
  refine lv_aload_n hx hb dL_law_666 rfl (lv_at hl 0 rfl) ?_
  refine lv_iload_n hx hb dL_law_667 rfl (lv_at hl 3 rfl) ?_
  refine lv_iconst (v := 2) hx hb dL_law_668 (by decide) ?_
  refine lv_iadd hx hb dL_law_669 ?_
  refine gw_topi (y := (nI (i + 2))) (nI_add i 2) ?_
  refine gw_sld hx hb hX hbl hbA hS (i + 2) rfl (by omega) (by omega) dL_law_670 ?_
  refine gx2_calli (gx_runV (As := [.int (xs (i + 1)), .int (xs (i + 2))]) (rest := []) ⟨hx, hb, hml, hown, hts⟩ (c_X9_of l G cI cJ cZ cB cT m0 r g (xs (i + 1)) (xs (i + 2)) r2 g1 e2 H.size) (gG_V m_1065 m_1066 m_1067 m_64 m_1068) rfl e_X9_of ⟨(Nat.le_of_ble_eq_true rfl), (Nat.le_of_ble_eq_true rfl)⟩ hK hPm hDm hE hS hA 0 wM_at0 rfl rfl hl.1 rfl (Nat.le_of_ble_eq_true rfl) dL_law_671 ⟨(Nat.le_of_ble_eq_true rfl), (Nat.le_of_ble_eq_true rfl)⟩) hPm hDm hP hab.swap hS hA (fun x_2 u_2 H locs hw_2 hPm hDm hP hba hS => ?_)
  have hab := hba.swap
  subst x_2
  refine lv_pop hx hb dL_law_674 rfl ?_
  refine lv_goto (tgt := 1014) hx hb dL_law_675 (by decide) ?_
  exact hback h1 g1 hI1 H _ ls hP hD hPm hDm hab hS (lv_sub hl [0, 1, 2, 3] rfl)
theorem e_X8_ink : yX8_ink.cls = RX8 ∧ yX8_ink.cls ≠ "java/lang/invoke/MethodHandle" ∧ yX8_ink.cls ≠ "java/lang/invoke/VarHandle" ∧ (parseMethodDescriptor yX8_ink.desc).map (fun d => d.parameters.length) = some 3 := by decide +kernel
theorem e_X9_ink : yX9_ink.cls = RX9 ∧ yX9_ink.cls ≠ "java/lang/invoke/MethodHandle" ∧ yX9_ink.cls ≠ "java/lang/invoke/VarHandle" ∧ (parseMethodDescriptor yX9_ink.desc).map (fun d => d.parameters.length) = some 3 := by decide +kernel
set_option maxHeartbeats 4000000 in
set_option maxRecDepth 100000 in
theorem law_case18 {p : Program} {l : Launch} {e : Env} {s : State} {m : MethodId} {below : List Frame} {meth : Method} {c : Code} {G : va_G} {cI cJ cZ cB cT : ClassId} {b L : Nat} {xs : Nat → Int32} {A : Nat → Prop} {Inv : HS → HS → Prop} (hL : L ≤ 3072) (C0 : lw_At p s m meth c b L xs) (hAs : ∀ q, A q → s.heap.size ≤ q) (hA : ∀ q, s.heap.size ≤ q → A q) (hK : va_K G vwCl (gT cI cJ cZ cB cT) s) (hE : gEX G A s) {q r : Nat → Nat} {m0 : Nat} (hst : LawStep (fun k => k = 23) Inv) {i : Nat} (hi : i + 6 ≤ L) (hback : ∀ (h g : HS), Inv h g → ∀ (H : Heap) (locs : List Loc) (ls : Array Slot), va_P G vwCl (wC q cI cJ cZ cB cT h) H → va_D A (wC q cI cJ cZ cB cT h) → va_P G vwCl (wM m0 r cI cJ cZ cB cT g) H → va_D A (wM m0 r cI cJ cZ cB cT g) → gApart (wC q cI cJ cZ cB cT h) (wM m0 r cI cJ cZ cB cT g) → va_S A s.heap H locs → lv_has ls 4 [(0, .ref b), (1, .ref (q 0)), (2, .ref m0), (3, .int (nI i))] → W p l e room_1 s m #[Value.ref b] below meth c H locs 600000 7302249 (lw_Z below #[Value.ref b] s) (F0 m 1014 ls [])) {h g : HS} (hI : Inv h g) {H : Heap} {locs : List Loc} {ls : Array Slot} (hP : va_P G vwCl (wC q cI cJ cZ cB cT h) H) (hD : va_D A (wC q cI cJ cZ cB cT h)) (hPm : va_P G vwCl (wM m0 r cI cJ cZ cB cT g) H) (hDm : va_D A (wM m0 r cI cJ cZ cB cT g)) (hab : gApart (wC q cI cJ cZ cB cT h) (wM m0 r cI cJ cZ cB cT g)) (hS : va_S A s.heap H locs) (hl : lv_has ls 4 [(0, .ref b), (1, .ref (q 0)), (2, .ref m0), (3, .int (nI i))]) : W p l e room_1 s m #[Value.ref b] below meth c H locs 600000 7302249 (lw_Z below #[Value.ref b] s) (F0 m 678 ls []) := by
  obtain ⟨hx, hb, hr, hml, hown, hts, hX, hbl, hlocks, hgv⟩ := id C0
  have hts : ∀ w ∈ lwc, w.before #[Value.ref b] s = true := fun w h => hts w (lwc_in h)
  have hown : s.vm.findClass RL = some m.cls := hown
  have hbA : ¬ A b := fun h => Nat.lt_irrefl _ (Nat.lt_of_lt_of_le hbl (hAs b h))
  refine lv_aload_n hx hb dL_law_678 rfl (lv_at hl 1 rfl) ?_
  refine lv_aload_n hx hb dL_law_679 rfl (lv_at hl 0 rfl) ?_
  refine lv_iload_n hx hb dL_law_680 rfl (lv_at hl 3 rfl) ?_
  refine lv_iconst (v := 1) hx hb dL_law_681 (by decide) ?_
  refine lv_iadd hx hb dL_law_682 ?_
  refine gw_topi (y := (nI (i + 1))) (nI_add i 1) ?_
  refine gw_sld hx hb hX hbl hbA hS (i + 1) rfl (by omega) (by omega) dL_law_683 ?_
  refine lv_aload_n hx hb dL_law_684 rfl (lv_at hl 0 rfl) ?_
  refine lv_iload_n hx hb dL_law_685 rfl (lv_at hl 3 rfl) ?_
  refine lv_iconst (v := 2) hx hb dL_law_686 (by decide) ?_
  refine lv_iadd hx hb dL_law_687 ?_
  refine gw_topi (y := (nI (i + 2))) (nI_add i 2) ?_
  refine gw_sld hx hb hX hbl hbA hS (i + 2) rfl (by omega) (by omega) dL_law_688 ?_
  refine lv_aload_n hx hb dL_law_689 rfl (lv_at hl 0 rfl) ?_
  refine lv_iload_n hx hb dL_law_690 rfl (lv_at hl 3 rfl) ?_
  refine lv_iconst (v := 3) hx hb dL_law_691 (by decide) ?_
  refine lv_iadd hx hb dL_law_692 ?_
  refine gw_topi (y := (nI (i + 3))) (nI_add i 3) ?_
  refine gw_sld hx hb hX hbl hbA hS (i + 3) rfl (by omega) (by omega) dL_law_693 ?_
  obtain ⟨r1, h1, r2, g1, e1, e2, hI1, hq⟩ := hst.2.2.2.2.2.2.2.2.2.2.2.2.2.2.2.2.2.2.1 h g (xs (i + 1)) (xs (i + 2)) (xs (i + 3)) hI
  refine gx2_calli (gx_runV (As := [.int (xs (i + 1)), .int (xs (i + 2)), .int (xs (i + 3))]) (rest := []) ⟨hx, hb, hml, hown, hts⟩ (c_X8_ink l G cI cJ cZ cB cT q h (xs (i + 1)) (xs (i + 2)) (xs (i + 3)) r1 h1 e1 H.size) (gG_V m_1069 m_1070 m_1071 m_60 m_1072) rfl e_X8_ink ⟨(Nat.le_of_ble_eq_true rfl), (Nat.le_of_ble_eq_true rfl)⟩ hK hP hD hE hS hA 0 wC_at0 rfl rfl hl.1 rfl (Nat.le_of_ble_eq_true rfl) dL_law_694 ⟨(Nat.le_of_ble_eq_true rfl), (Nat.le_of_ble_eq_true rfl)⟩) hP hD hPm hab hS hA (fun x_1 u_1 H locs hw_1 hP hD hPm hab hS => ?_)
  subst x_1
  refine lv_pop hx hb dL_law_697 rfl ?_
  refine lv_aload_n hx hb dL_law_698 rfl (lv_at hl 2 rfl) ?_
  refine lv_aload_n hx hb dL_law_699 rfl (lv_at hl 0 rfl) ?_
  refine lv_iload_n hx hb dL_law_700 rfl (lv_at hl 3 rfl) ?_
  refine lv_iconst (v := 1) hx hb dL_law_701 (by decide) ?_
  refine lv_iadd hx hb dL_law_702 ?_
  refine gw_topi (y := (nI (i + 1))) (nI_add i 1) ?_
  refine gw_sld hx hb hX hbl hbA hS (i + 1) rfl (by omega) (by omega) dL_law_703 ?_
  refine lv_aload_n hx hb dL_law_704 rfl (lv_at hl 0 rfl) ?_
  refine lv_iload_n hx hb dL_law_705 rfl (lv_at hl 3 rfl) ?_
  refine lv_iconst (v := 2) hx hb dL_law_706 (by decide) ?_
  refine lv_iadd hx hb dL_law_707 ?_
  refine gw_topi (y := (nI (i + 2))) (nI_add i 2) ?_
  refine gw_sld hx hb hX hbl hbA hS (i + 2) rfl (by omega) (by omega) dL_law_708 ?_
  refine lv_aload_n hx hb dL_law_709 rfl (lv_at hl 0 rfl) ?_
  refine lv_iload_n hx hb dL_law_710 rfl (lv_at hl 3 rfl) ?_
  refine lv_iconst (v := 3) hx hb dL_law_711 (by decide) ?_
  refine lv_iadd hx hb dL_law_712 ?_
  refine gw_topi (y := (nI (i + 3))) (nI_add i 3) ?_
  refine gw_sld hx hb hX hbl hbA hS (i + 3) rfl (by omega) (by omega) dL_law_713 ?_
  refine gx2_calli (gx_runV (As := [.int (xs (i + 1)), .int (xs (i + 2)), .int (xs (i + 3))]) (rest := []) ⟨hx, hb, hml, hown, hts⟩ (c_X9_ink l G cI cJ cZ cB cT m0 r g (xs (i + 1)) (xs (i + 2)) (xs (i + 3)) r2 g1 e2 H.size) (gG_V m_1073 m_1074 m_1075 m_64 m_1076) rfl e_X9_ink ⟨(Nat.le_of_ble_eq_true rfl), (Nat.le_of_ble_eq_true rfl)⟩ hK hPm hDm hE hS hA 0 wM_at0 rfl rfl hl.1 rfl (Nat.le_of_ble_eq_true rfl) dL_law_714 ⟨(Nat.le_of_ble_eq_true rfl), (Nat.le_of_ble_eq_true rfl)⟩) hPm hDm hP hab.swap hS hA (fun x_2 u_2 H locs hw_2 hPm hDm hP hba hS => ?_)
  have hab := hba.swap
  subst x_2
  refine lv_pop hx hb dL_law_717 rfl ?_
  refine lv_goto (tgt := 1014) hx hb dL_law_718 (by decide) ?_
  exact hback h1 g1 hI1 H _ ls hP hD hPm hDm hab hS (lv_sub hl [0, 1, 2, 3] rfl)
theorem e_X8_known : yX8_known.cls = RX8 ∧ yX8_known.cls ≠ "java/lang/invoke/MethodHandle" ∧ yX8_known.cls ≠ "java/lang/invoke/VarHandle" ∧ (parseMethodDescriptor yX8_known.desc).map (fun d => d.parameters.length) = some 2 := by decide +kernel
theorem e_X9_known : yX9_known.cls = RX9 ∧ yX9_known.cls ≠ "java/lang/invoke/MethodHandle" ∧ yX9_known.cls ≠ "java/lang/invoke/VarHandle" ∧ (parseMethodDescriptor yX9_known.desc).map (fun d => d.parameters.length) = some 2 := by decide +kernel
set_option maxHeartbeats 4000000 in
set_option maxRecDepth 100000 in
theorem law_case19 {p : Program} {l : Launch} {e : Env} {s : State} {m : MethodId} {below : List Frame} {meth : Method} {c : Code} {G : va_G} {cI cJ cZ cB cT : ClassId} {b L : Nat} {xs : Nat → Int32} {A : Nat → Prop} {Inv : HS → HS → Prop} (hL : L ≤ 3072) (C0 : lw_At p s m meth c b L xs) (hAs : ∀ q, A q → s.heap.size ≤ q) (hA : ∀ q, s.heap.size ≤ q → A q) (hK : va_K G vwCl (gT cI cJ cZ cB cT) s) (hE : gEX G A s) {q r : Nat → Nat} {m0 : Nat} (hst : LawStep (fun k => k = 23) Inv) {i : Nat} (hi : i + 6 ≤ L) (hback : ∀ (h g : HS), Inv h g → ∀ (H : Heap) (locs : List Loc) (ls : Array Slot), va_P G vwCl (wC q cI cJ cZ cB cT h) H → va_D A (wC q cI cJ cZ cB cT h) → va_P G vwCl (wM m0 r cI cJ cZ cB cT g) H → va_D A (wM m0 r cI cJ cZ cB cT g) → gApart (wC q cI cJ cZ cB cT h) (wM m0 r cI cJ cZ cB cT g) → va_S A s.heap H locs → lv_has ls 4 [(0, .ref b), (1, .ref (q 0)), (2, .ref m0), (3, .int (nI i))] → W p l e room_1 s m #[Value.ref b] below meth c H locs 600000 7302249 (lw_Z below #[Value.ref b] s) (F0 m 1014 ls [])) {h g : HS} (hI : Inv h g) {H : Heap} {locs : List Loc} {ls : Array Slot} (hP : va_P G vwCl (wC q cI cJ cZ cB cT h) H) (hD : va_D A (wC q cI cJ cZ cB cT h)) (hPm : va_P G vwCl (wM m0 r cI cJ cZ cB cT g) H) (hDm : va_D A (wM m0 r cI cJ cZ cB cT g)) (hab : gApart (wC q cI cJ cZ cB cT h) (wM m0 r cI cJ cZ cB cT g)) (hS : va_S A s.heap H locs) (hl : lv_has ls 4 [(0, .ref b), (1, .ref (q 0)), (2, .ref m0), (3, .int (nI i))]) : W p l e room_1 s m #[Value.ref b] below meth c H locs 600000 7302249 (lw_Z below #[Value.ref b] s) (F0 m 721 ls []) := by
  obtain ⟨hx, hb, hr, hml, hown, hts, hX, hbl, hlocks, hgv⟩ := id C0
  have hts : ∀ w ∈ lwc, w.before #[Value.ref b] s = true := fun w h => hts w (lwc_in h)
  have hown : s.vm.findClass RL = some m.cls := hown
  have hbA : ¬ A b := fun h => Nat.lt_irrefl _ (Nat.lt_of_lt_of_le hbl (hAs b h))
  refine lv_aload_n hx hb dL_law_721 rfl (lv_at hl 1 rfl) ?_
  refine lv_aload_n hx hb dL_law_722 rfl (lv_at hl 0 rfl) ?_
  refine lv_iload_n hx hb dL_law_723 rfl (lv_at hl 3 rfl) ?_
  refine lv_iconst (v := 1) hx hb dL_law_724 (by decide) ?_
  refine lv_iadd hx hb dL_law_725 ?_
  refine gw_topi (y := (nI (i + 1))) (nI_add i 1) ?_
  refine gw_sld hx hb hX hbl hbA hS (i + 1) rfl (by omega) (by omega) dL_law_726 ?_
  refine lv_aload_n hx hb dL_law_727 rfl (lv_at hl 0 rfl) ?_
  refine lv_iload_n hx hb dL_law_728 rfl (lv_at hl 3 rfl) ?_
  refine lv_iconst (v := 2) hx hb dL_law_729 (by decide) ?_
  refine lv_iadd hx hb dL_law_730 ?_
  refine gw_topi (y := (nI (i + 2))) (nI_add i 2) ?_
  refine gw_sld hx hb hX hbl hbA hS (i + 2) rfl (by omega) (by omega) dL_law_731 ?_
  obtain ⟨r1, h1, r2, g1, e1, e2, hI1, hq⟩ := hst.2.2.2.2.2.2.2.2.2.2.2.2.2.2.2.2.2.2.2.1 h g (xs (i + 1)) (xs (i + 2)) hI
  refine gx2_calli (gx_runV (As := [.int (xs (i + 1)), .int (xs (i + 2))]) (rest := []) ⟨hx, hb, hml, hown, hts⟩ (c_X8_known l G cI cJ cZ cB cT q h (xs (i + 1)) (xs (i + 2)) r1 h1 e1 H.size) (gG_V m_1077 m_1078 m_1079 m_60 m_1080) rfl e_X8_known ⟨(Nat.le_of_ble_eq_true rfl), (Nat.le_of_ble_eq_true rfl)⟩ hK hP hD hE hS hA 0 wC_at0 rfl rfl hl.1 rfl (Nat.le_of_ble_eq_true rfl) dL_law_732 ⟨(Nat.le_of_ble_eq_true rfl), (Nat.le_of_ble_eq_true rfl)⟩) hP hD hPm hab hS hA (fun x_1 u_1 H locs hw_1 hP hD hPm hab hS => ?_)
  subst x_1
  refine lv_pop hx hb dL_law_735 rfl ?_
  refine lv_aload_n hx hb dL_law_736 rfl (lv_at hl 2 rfl) ?_
  refine lv_aload_n hx hb dL_law_737 rfl (lv_at hl 0 rfl) ?_
  refine lv_iload_n hx hb dL_law_738 rfl (lv_at hl 3 rfl) ?_
  refine lv_iconst (v := 1) hx hb dL_law_739 (by decide) ?_
  refine lv_iadd hx hb dL_law_740 ?_
  refine gw_topi (y := (nI (i + 1))) (nI_add i 1) ?_
  refine gw_sld hx hb hX hbl hbA hS (i + 1) rfl (by omega) (by omega) dL_law_741 ?_
  refine lv_aload_n hx hb dL_law_742 rfl (lv_at hl 0 rfl) ?_
  refine lv_iload_n hx hb dL_law_743 rfl (lv_at hl 3 rfl) ?_
  refine lv_iconst (v := 2) hx hb dL_law_744 (by decide) ?_
  refine lv_iadd hx hb dL_law_745 ?_
  refine gw_topi (y := (nI (i + 2))) (nI_add i 2) ?_
  refine gw_sld hx hb hX hbl hbA hS (i + 2) rfl (by omega) (by omega) dL_law_746 ?_
  refine gx2_calli (gx_runV (As := [.int (xs (i + 1)), .int (xs (i + 2))]) (rest := []) ⟨hx, hb, hml, hown, hts⟩ (c_X9_known l G cI cJ cZ cB cT m0 r g (xs (i + 1)) (xs (i + 2)) r2 g1 e2 H.size) (gG_V m_1081 m_1082 m_1083 m_64 m_1084) rfl e_X9_known ⟨(Nat.le_of_ble_eq_true rfl), (Nat.le_of_ble_eq_true rfl)⟩ hK hPm hDm hE hS hA 0 wM_at0 rfl rfl hl.1 rfl (Nat.le_of_ble_eq_true rfl) dL_law_747 ⟨(Nat.le_of_ble_eq_true rfl), (Nat.le_of_ble_eq_true rfl)⟩) hPm hDm hP hab.swap hS hA (fun x_2 u_2 H locs hw_2 hPm hDm hP hba hS => ?_)
  have hab := hba.swap
  subst x_2
  refine lv_pop hx hb dL_law_750 rfl ?_
  refine lv_goto (tgt := 1014) hx hb dL_law_751 (by decide) ?_
  exact hback h1 g1 hI1 H _ ls hP hD hPm hDm hab hS (lv_sub hl [0, 1, 2, 3] rfl)
set_option maxHeartbeats 4000000 in
set_option maxRecDepth 100000 in
theorem law_case20 {p : Program} {l : Launch} {e : Env} {s : State} {m : MethodId} {below : List Frame} {meth : Method} {c : Code} {G : va_G} {cI cJ cZ cB cT : ClassId} {b L : Nat} {xs : Nat → Int32} {A : Nat → Prop} {Inv : HS → HS → Prop} (hL : L ≤ 3072) (C0 : lw_At p s m meth c b L xs) (hAs : ∀ q, A q → s.heap.size ≤ q) (hA : ∀ q, s.heap.size ≤ q → A q) (hK : va_K G vwCl (gT cI cJ cZ cB cT) s) (hE : gEX G A s) {q r : Nat → Nat} {m0 : Nat} (hst : LawStep (fun k => k = 23) Inv) {i : Nat} (hi : i + 6 ≤ L) (hback : ∀ (h g : HS), Inv h g → ∀ (H : Heap) (locs : List Loc) (ls : Array Slot), va_P G vwCl (wC q cI cJ cZ cB cT h) H → va_D A (wC q cI cJ cZ cB cT h) → va_P G vwCl (wM m0 r cI cJ cZ cB cT g) H → va_D A (wM m0 r cI cJ cZ cB cT g) → gApart (wC q cI cJ cZ cB cT h) (wM m0 r cI cJ cZ cB cT g) → va_S A s.heap H locs → lv_has ls 4 [(0, .ref b), (1, .ref (q 0)), (2, .ref m0), (3, .int (nI i))] → W p l e room_1 s m #[Value.ref b] below meth c H locs 600000 7302249 (lw_Z below #[Value.ref b] s) (F0 m 1014 ls [])) {h g : HS} (hI : Inv h g) {H : Heap} {locs : List Loc} {ls : Array Slot} (hP : va_P G vwCl (wC q cI cJ cZ cB cT h) H) (hD : va_D A (wC q cI cJ cZ cB cT h)) (hPm : va_P G vwCl (wM m0 r cI cJ cZ cB cT g) H) (hDm : va_D A (wM m0 r cI cJ cZ cB cT g)) (hab : gApart (wC q cI cJ cZ cB cT h) (wM m0 r cI cJ cZ cB cT g)) (hS : va_S A s.heap H locs) (hl : lv_has ls 4 [(0, .ref b), (1, .ref (q 0)), (2, .ref m0), (3, .int (nI i))]) : W p l e room_1 s m #[Value.ref b] below meth c H locs 600000 7302249 (lw_Z below #[Value.ref b] s) (F0 m 754 ls []) := by
  obtain ⟨hx, hb, hr, hml, hown, hts, hX, hbl, hlocks, hgv⟩ := id C0
  have hts : ∀ w ∈ lwc, w.before #[Value.ref b] s = true := fun w h => hts w (lwc_in h)
  have hown : s.vm.findClass RL = some m.cls := hown
  have hbA : ¬ A b := fun h => Nat.lt_irrefl _ (Nat.lt_of_lt_of_le hbl (hAs b h))
  refine lv_aload_n hx hb dL_law_754 rfl (lv_at hl 1 rfl) ?_
  refine lv_aload_n hx hb dL_law_755 rfl (lv_at hl 0 rfl) ?_
  refine lv_iload_n hx hb dL_law_756 rfl (lv_at hl 3 rfl) ?_
  refine lv_iconst (v := 1) hx hb dL_law_757 (by decide) ?_
  refine lv_iadd hx hb dL_law_758 ?_
  refine gw_topi (y := (nI (i + 1))) (nI_add i 1) ?_
  refine gw_sld hx hb hX hbl hbA hS (i + 1) rfl (by omega) (by omega) dL_law_759 ?_
  refine lv_aload_n hx hb dL_law_760 rfl (lv_at hl 0 rfl) ?_
  refine lv_iload_n hx hb dL_law_761 rfl (lv_at hl 3 rfl) ?_
  refine lv_iconst (v := 2) hx hb dL_law_762 (by decide) ?_
  refine lv_iadd hx hb dL_law_763 ?_
  refine gw_topi (y := (nI (i + 2))) (nI_add i 2) ?_
  refine gw_sld hx hb hX hbl hbA hS (i + 2) rfl (by omega) (by omega) dL_law_764 ?_
  refine lv_if_eq (tgt := 772) hx hb dL_law_765 (by decide) (fun c_1 => ?_) (fun c_1 => ?_)
  · refine lv_iconst (v := 0) hx hb dL_law_772 (by decide) ?_
    obtain ⟨r1, h1, r2, g1, e1, e2, hI1, hq⟩ := hst.2.2.2.2.2.2.2.2.2.2.2.2.2.2.2.2.2.2.2.2.1 h g (xs (i + 1)) 0 hI
    refine gx2_calli (gx_runV (As := [.int (xs (i + 1)), .int 0]) (rest := []) ⟨hx, hb, hml, hown, hts⟩ (c_X8_led l G cI cJ cZ cB cT q h (xs (i + 1)) 0 r1 h1 e1 H.size) (gG_V m_1085 m_852 m_853 m_60 m_850) rfl e_X8_led ⟨(Nat.le_of_ble_eq_true rfl), (Nat.le_of_ble_eq_true rfl)⟩ hK hP hD hE hS hA 0 wC_at0 rfl rfl hl.1 rfl (Nat.le_of_ble_eq_true rfl) dL_law_773 ⟨(Nat.le_of_ble_eq_true rfl), (Nat.le_of_ble_eq_true rfl)⟩) hP hD hPm hab hS hA (fun x_2 u_2 H locs hw_2 hP hD hPm hab hS => ?_)
    subst x_2
    refine lv_pop hx hb dL_law_776 rfl ?_
    refine lv_aload_n hx hb dL_law_777 rfl (lv_at hl 2 rfl) ?_
    refine lv_aload_n hx hb dL_law_778 rfl (lv_at hl 0 rfl) ?_
    refine lv_iload_n hx hb dL_law_779 rfl (lv_at hl 3 rfl) ?_
    refine lv_iconst (v := 1) hx hb dL_law_780 (by decide) ?_
    refine lv_iadd hx hb dL_law_781 ?_
    refine gw_topi (y := (nI (i + 1))) (nI_add i 1) ?_
    refine gw_sld hx hb hX hbl hbA hS (i + 1) rfl (by omega) (by omega) dL_law_782 ?_
    refine lv_aload_n hx hb dL_law_783 rfl (lv_at hl 0 rfl) ?_
    refine lv_iload_n hx hb dL_law_784 rfl (lv_at hl 3 rfl) ?_
    refine lv_iconst (v := 2) hx hb dL_law_785 (by decide) ?_
    refine lv_iadd hx hb dL_law_786 ?_
    refine gw_topi (y := (nI (i + 2))) (nI_add i 2) ?_
    refine gw_sld hx hb hX hbl hbA hS (i + 2) rfl (by omega) (by omega) dL_law_787 ?_
    refine lv_if_eq (tgt := 795) hx hb dL_law_788 (by decide) (fun _ => ?_) (fun c => absurd c_1 c)
    refine lv_iconst (v := 0) hx hb dL_law_795 (by decide) ?_
    refine gx2_calli (gx_runV (As := [.int (xs (i + 1)), .int 0]) (rest := []) ⟨hx, hb, hml, hown, hts⟩ (c_X9_led l G cI cJ cZ cB cT m0 r g (xs (i + 1)) 0 r2 g1 e2 H.size) (gG_V m_1086 m_356 m_357 m_64 m_354) rfl e_X9_led ⟨(Nat.le_of_ble_eq_true rfl), (Nat.le_of_ble_eq_true rfl)⟩ hK hPm hDm hE hS hA 0 wM_at0 rfl rfl hl.1 rfl (Nat.le_of_ble_eq_true rfl) dL_law_796 ⟨(Nat.le_of_ble_eq_true rfl), (Nat.le_of_ble_eq_true rfl)⟩) hPm hDm hP hab.swap hS hA (fun x_3 u_3 H locs hw_3 hPm hDm hP hba hS => ?_)
    have hab := hba.swap
    subst x_3
    refine lv_pop hx hb dL_law_799 rfl ?_
    refine lv_goto (tgt := 1014) hx hb dL_law_800 (by decide) ?_
    exact hback h1 g1 hI1 H _ ls hP hD hPm hDm hab hS (lv_sub hl [0, 1, 2, 3] rfl)
  · refine lv_iconst (v := 1) hx hb dL_law_768 (by decide) ?_
    refine lv_goto (tgt := 773) hx hb dL_law_769 (by decide) ?_
    obtain ⟨r1, h1, r2, g1, e1, e2, hI1, hq⟩ := hst.2.2.2.2.2.2.2.2.2.2.2.2.2.2.2.2.2.2.2.2.1 h g (xs (i + 1)) 1 hI
    refine gx2_calli (gx_runV (As := [.int (xs (i + 1)), .int 1]) (rest := []) ⟨hx, hb, hml, hown, hts⟩ (c_X8_led l G cI cJ cZ cB cT q h (xs (i + 1)) 1 r1 h1 e1 H.size) (gG_V m_1085 m_852 m_853 m_60 m_850) rfl e_X8_led ⟨(Nat.le_of_ble_eq_true rfl), (Nat.le_of_ble_eq_true rfl)⟩ hK hP hD hE hS hA 0 wC_at0 rfl rfl hl.1 rfl (Nat.le_of_ble_eq_true rfl) dL_law_773 ⟨(Nat.le_of_ble_eq_true rfl), (Nat.le_of_ble_eq_true rfl)⟩) hP hD hPm hab hS hA (fun x_4 u_4 H locs hw_4 hP hD hPm hab hS => ?_)
    subst x_4
    refine lv_pop hx hb dL_law_776 rfl ?_
    refine lv_aload_n hx hb dL_law_777 rfl (lv_at hl 2 rfl) ?_
    refine lv_aload_n hx hb dL_law_778 rfl (lv_at hl 0 rfl) ?_
    refine lv_iload_n hx hb dL_law_779 rfl (lv_at hl 3 rfl) ?_
    refine lv_iconst (v := 1) hx hb dL_law_780 (by decide) ?_
    refine lv_iadd hx hb dL_law_781 ?_
    refine gw_topi (y := (nI (i + 1))) (nI_add i 1) ?_
    refine gw_sld hx hb hX hbl hbA hS (i + 1) rfl (by omega) (by omega) dL_law_782 ?_
    refine lv_aload_n hx hb dL_law_783 rfl (lv_at hl 0 rfl) ?_
    refine lv_iload_n hx hb dL_law_784 rfl (lv_at hl 3 rfl) ?_
    refine lv_iconst (v := 2) hx hb dL_law_785 (by decide) ?_
    refine lv_iadd hx hb dL_law_786 ?_
    refine gw_topi (y := (nI (i + 2))) (nI_add i 2) ?_
    refine gw_sld hx hb hX hbl hbA hS (i + 2) rfl (by omega) (by omega) dL_law_787 ?_
    refine lv_if_eq (tgt := 795) hx hb dL_law_788 (by decide) (fun c => absurd c c_1) (fun _ => ?_)
    refine lv_iconst (v := 1) hx hb dL_law_791 (by decide) ?_
    refine lv_goto (tgt := 796) hx hb dL_law_792 (by decide) ?_
    refine gx2_calli (gx_runV (As := [.int (xs (i + 1)), .int 1]) (rest := []) ⟨hx, hb, hml, hown, hts⟩ (c_X9_led l G cI cJ cZ cB cT m0 r g (xs (i + 1)) 1 r2 g1 e2 H.size) (gG_V m_1086 m_356 m_357 m_64 m_354) rfl e_X9_led ⟨(Nat.le_of_ble_eq_true rfl), (Nat.le_of_ble_eq_true rfl)⟩ hK hPm hDm hE hS hA 0 wM_at0 rfl rfl hl.1 rfl (Nat.le_of_ble_eq_true rfl) dL_law_796 ⟨(Nat.le_of_ble_eq_true rfl), (Nat.le_of_ble_eq_true rfl)⟩) hPm hDm hP hab.swap hS hA (fun x_5 u_5 H locs hw_5 hPm hDm hP hba hS => ?_)
    have hab := hba.swap
    subst x_5
    refine lv_pop hx hb dL_law_799 rfl ?_
    refine lv_goto (tgt := 1014) hx hb dL_law_800 (by decide) ?_
    exact hback h1 g1 hI1 H _ ls hP hD hPm hDm hab hS (lv_sub hl [0, 1, 2, 3] rfl)
theorem e_X8_answer : yX8_answer.cls = RX8 ∧ yX8_answer.cls ≠ "java/lang/invoke/MethodHandle" ∧ yX8_answer.cls ≠ "java/lang/invoke/VarHandle" ∧ (parseMethodDescriptor yX8_answer.desc).map (fun d => d.parameters.length) = some 1 := by decide +kernel
theorem e_X9_answer : yX9_answer.cls = RX9 ∧ yX9_answer.cls ≠ "java/lang/invoke/MethodHandle" ∧ yX9_answer.cls ≠ "java/lang/invoke/VarHandle" ∧ (parseMethodDescriptor yX9_answer.desc).map (fun d => d.parameters.length) = some 1 := by decide +kernel
set_option maxHeartbeats 4000000 in
set_option maxRecDepth 100000 in
theorem law_case21 {p : Program} {l : Launch} {e : Env} {s : State} {m : MethodId} {below : List Frame} {meth : Method} {c : Code} {G : va_G} {cI cJ cZ cB cT : ClassId} {b L : Nat} {xs : Nat → Int32} {A : Nat → Prop} {Inv : HS → HS → Prop} (hL : L ≤ 3072) (C0 : lw_At p s m meth c b L xs) (hAs : ∀ q, A q → s.heap.size ≤ q) (hA : ∀ q, s.heap.size ≤ q → A q) (hK : va_K G vwCl (gT cI cJ cZ cB cT) s) (hE : gEX G A s) {q r : Nat → Nat} {m0 : Nat} (hst : LawStep (fun k => k = 23) Inv) {i : Nat} (hi : i + 6 ≤ L) (hback : ∀ (h g : HS), Inv h g → ∀ (H : Heap) (locs : List Loc) (ls : Array Slot), va_P G vwCl (wC q cI cJ cZ cB cT h) H → va_D A (wC q cI cJ cZ cB cT h) → va_P G vwCl (wM m0 r cI cJ cZ cB cT g) H → va_D A (wM m0 r cI cJ cZ cB cT g) → gApart (wC q cI cJ cZ cB cT h) (wM m0 r cI cJ cZ cB cT g) → va_S A s.heap H locs → lv_has ls 4 [(0, .ref b), (1, .ref (q 0)), (2, .ref m0), (3, .int (nI i))] → W p l e room_1 s m #[Value.ref b] below meth c H locs 600000 7302249 (lw_Z below #[Value.ref b] s) (F0 m 1014 ls [])) {h g : HS} (hI : Inv h g) {H : Heap} {locs : List Loc} {ls : Array Slot} (hP : va_P G vwCl (wC q cI cJ cZ cB cT h) H) (hD : va_D A (wC q cI cJ cZ cB cT h)) (hPm : va_P G vwCl (wM m0 r cI cJ cZ cB cT g) H) (hDm : va_D A (wM m0 r cI cJ cZ cB cT g)) (hab : gApart (wC q cI cJ cZ cB cT h) (wM m0 r cI cJ cZ cB cT g)) (hS : va_S A s.heap H locs) (hl : lv_has ls 4 [(0, .ref b), (1, .ref (q 0)), (2, .ref m0), (3, .int (nI i))]) : W p l e room_1 s m #[Value.ref b] below meth c H locs 600000 7302249 (lw_Z below #[Value.ref b] s) (F0 m 803 ls []) := by
  obtain ⟨hx, hb, hr, hml, hown, hts, hX, hbl, hlocks, hgv⟩ := id C0
  have hts : ∀ w ∈ lwc, w.before #[Value.ref b] s = true := fun w h => hts w (lwc_in h)
  have hown : s.vm.findClass RL = some m.cls := hown
  have hbA : ¬ A b := fun h => Nat.lt_irrefl _ (Nat.lt_of_lt_of_le hbl (hAs b h))
  refine lv_aload_n hx hb dL_law_803 rfl (lv_at hl 1 rfl) ?_
  refine lv_aload_n hx hb dL_law_804 rfl (lv_at hl 0 rfl) ?_
  refine lv_iload_n hx hb dL_law_805 rfl (lv_at hl 3 rfl) ?_
  refine lv_iconst (v := 1) hx hb dL_law_806 (by decide) ?_
  refine lv_iadd hx hb dL_law_807 ?_
  refine gw_topi (y := (nI (i + 1))) (nI_add i 1) ?_
  refine gw_sld hx hb hX hbl hbA hS (i + 1) rfl (by omega) (by omega) dL_law_808 ?_
  obtain ⟨r1, h1, r2, g1, e1, e2, hI1, hq⟩ := hst.2.2.2.2.2.2.2.2.2.2.2.2.2.2.2.2.2.2.2.2.2.1 h g (xs (i + 1)) hI
  refine gx2_calli (gx_runV (As := [.int (xs (i + 1))]) (rest := []) ⟨hx, hb, hml, hown, hts⟩ (c_X8_answer l G cI cJ cZ cB cT q h (xs (i + 1)) r1 h1 e1 H.size) (gG_V m_1087 m_1088 m_1089 m_60 m_1090) rfl e_X8_answer ⟨(Nat.le_of_ble_eq_true rfl), (Nat.le_of_ble_eq_true rfl)⟩ hK hP hD hE hS hA 0 wC_at0 rfl rfl hl.1 rfl (Nat.le_of_ble_eq_true rfl) dL_law_809 ⟨(Nat.le_of_ble_eq_true rfl), (Nat.le_of_ble_eq_true rfl)⟩) hP hD hPm hab hS hA (fun x_1 u_1 H locs hw_1 hP hD hPm hab hS => ?_)
  subst x_1
  refine lv_pop hx hb dL_law_812 rfl ?_
  refine lv_aload_n hx hb dL_law_813 rfl (lv_at hl 2 rfl) ?_
  refine lv_aload_n hx hb dL_law_814 rfl (lv_at hl 0 rfl) ?_
  refine lv_iload_n hx hb dL_law_815 rfl (lv_at hl 3 rfl) ?_
  refine lv_iconst (v := 1) hx hb dL_law_816 (by decide) ?_
  refine lv_iadd hx hb dL_law_817 ?_
  refine gw_topi (y := (nI (i + 1))) (nI_add i 1) ?_
  refine gw_sld hx hb hX hbl hbA hS (i + 1) rfl (by omega) (by omega) dL_law_818 ?_
  refine gx2_calli (gx_runV (As := [.int (xs (i + 1))]) (rest := []) ⟨hx, hb, hml, hown, hts⟩ (c_X9_answer l G cI cJ cZ cB cT m0 r g (xs (i + 1)) r2 g1 e2 H.size) (gG_V m_1091 m_1092 m_1093 m_64 m_1094) rfl e_X9_answer ⟨(Nat.le_of_ble_eq_true rfl), (Nat.le_of_ble_eq_true rfl)⟩ hK hPm hDm hE hS hA 0 wM_at0 rfl rfl hl.1 rfl (Nat.le_of_ble_eq_true rfl) dL_law_819 ⟨(Nat.le_of_ble_eq_true rfl), (Nat.le_of_ble_eq_true rfl)⟩) hPm hDm hP hab.swap hS hA (fun x_2 u_2 H locs hw_2 hPm hDm hP hba hS => ?_)
  have hab := hba.swap
  subst x_2
  refine lv_pop hx hb dL_law_822 rfl ?_
  refine lv_goto (tgt := 1014) hx hb dL_law_823 (by decide) ?_
  exact hback h1 g1 hI1 H _ ls hP hD hPm hDm hab hS (lv_sub hl [0, 1, 2, 3] rfl)
theorem e_X8_plucks : yX8_plucks.cls = RX8 ∧ yX8_plucks.cls ≠ "java/lang/invoke/MethodHandle" ∧ yX8_plucks.cls ≠ "java/lang/invoke/VarHandle" ∧ (parseMethodDescriptor yX8_plucks.desc).map (fun d => d.parameters.length) = some 1 := by decide +kernel
theorem e_X9_plucks : yX9_plucks.cls = RX9 ∧ yX9_plucks.cls ≠ "java/lang/invoke/MethodHandle" ∧ yX9_plucks.cls ≠ "java/lang/invoke/VarHandle" ∧ (parseMethodDescriptor yX9_plucks.desc).map (fun d => d.parameters.length) = some 1 := by decide +kernel
set_option maxHeartbeats 4000000 in
set_option maxRecDepth 100000 in
theorem law_case22 {p : Program} {l : Launch} {e : Env} {s : State} {m : MethodId} {below : List Frame} {meth : Method} {c : Code} {G : va_G} {cI cJ cZ cB cT : ClassId} {b L : Nat} {xs : Nat → Int32} {A : Nat → Prop} {Inv : HS → HS → Prop} (hL : L ≤ 3072) (C0 : lw_At p s m meth c b L xs) (hAs : ∀ q, A q → s.heap.size ≤ q) (hA : ∀ q, s.heap.size ≤ q → A q) (hK : va_K G vwCl (gT cI cJ cZ cB cT) s) (hE : gEX G A s) {q r : Nat → Nat} {m0 : Nat} (hst : LawStep (fun k => k = 23) Inv) {i : Nat} (hi : i + 6 ≤ L) (hback : ∀ (h g : HS), Inv h g → ∀ (H : Heap) (locs : List Loc) (ls : Array Slot), va_P G vwCl (wC q cI cJ cZ cB cT h) H → va_D A (wC q cI cJ cZ cB cT h) → va_P G vwCl (wM m0 r cI cJ cZ cB cT g) H → va_D A (wM m0 r cI cJ cZ cB cT g) → gApart (wC q cI cJ cZ cB cT h) (wM m0 r cI cJ cZ cB cT g) → va_S A s.heap H locs → lv_has ls 4 [(0, .ref b), (1, .ref (q 0)), (2, .ref m0), (3, .int (nI i))] → W p l e room_1 s m #[Value.ref b] below meth c H locs 600000 7302249 (lw_Z below #[Value.ref b] s) (F0 m 1014 ls [])) {h g : HS} (hI : Inv h g) {H : Heap} {locs : List Loc} {ls : Array Slot} (hP : va_P G vwCl (wC q cI cJ cZ cB cT h) H) (hD : va_D A (wC q cI cJ cZ cB cT h)) (hPm : va_P G vwCl (wM m0 r cI cJ cZ cB cT g) H) (hDm : va_D A (wM m0 r cI cJ cZ cB cT g)) (hab : gApart (wC q cI cJ cZ cB cT h) (wM m0 r cI cJ cZ cB cT g)) (hS : va_S A s.heap H locs) (hl : lv_has ls 4 [(0, .ref b), (1, .ref (q 0)), (2, .ref m0), (3, .int (nI i))]) : W p l e room_1 s m #[Value.ref b] below meth c H locs 600000 7302249 (lw_Z below #[Value.ref b] s) (F0 m 826 ls []) := by
  obtain ⟨hx, hb, hr, hml, hown, hts, hX, hbl, hlocks, hgv⟩ := id C0
  have hts : ∀ w ∈ lwc, w.before #[Value.ref b] s = true := fun w h => hts w (lwc_in h)
  have hown : s.vm.findClass RL = some m.cls := hown
  have hbA : ¬ A b := fun h => Nat.lt_irrefl _ (Nat.lt_of_lt_of_le hbl (hAs b h))
  refine lv_aload_n hx hb dL_law_826 rfl (lv_at hl 1 rfl) ?_
  refine lv_aload_n hx hb dL_law_827 rfl (lv_at hl 0 rfl) ?_
  refine lv_iload_n hx hb dL_law_828 rfl (lv_at hl 3 rfl) ?_
  refine lv_iconst (v := 1) hx hb dL_law_829 (by decide) ?_
  refine lv_iadd hx hb dL_law_830 ?_
  refine gw_topi (y := (nI (i + 1))) (nI_add i 1) ?_
  refine gw_sld hx hb hX hbl hbA hS (i + 1) rfl (by omega) (by omega) dL_law_831 ?_
  obtain ⟨r1, h1, r2, g1, e1, e2, hI1, hq⟩ := hst.2.2.2.2.2.2.2.2.2.2.2.2.2.2.2.2.2.2.2.2.2.2.1 h g (xs (i + 1)) hI
  refine gx2_calli (gx_runV (As := [.int (xs (i + 1))]) (rest := []) ⟨hx, hb, hml, hown, hts⟩ (c_X8_plucks l G cI cJ cZ cB cT q h (xs (i + 1)) r1 h1 e1 H.size) (gG_V m_1095 m_1096 m_1097 m_60 m_1098) rfl e_X8_plucks ⟨(Nat.le_of_ble_eq_true rfl), (Nat.le_of_ble_eq_true rfl)⟩ hK hP hD hE hS hA 0 wC_at0 rfl rfl hl.1 rfl (Nat.le_of_ble_eq_true rfl) dL_law_832 ⟨(Nat.le_of_ble_eq_true rfl), (Nat.le_of_ble_eq_true rfl)⟩) hP hD hPm hab hS hA (fun x_1 u_1 H locs hw_1 hP hD hPm hab hS => ?_)
  subst x_1
  refine lv_pop hx hb dL_law_835 rfl ?_
  refine lv_aload_n hx hb dL_law_836 rfl (lv_at hl 2 rfl) ?_
  refine lv_aload_n hx hb dL_law_837 rfl (lv_at hl 0 rfl) ?_
  refine lv_iload_n hx hb dL_law_838 rfl (lv_at hl 3 rfl) ?_
  refine lv_iconst (v := 1) hx hb dL_law_839 (by decide) ?_
  refine lv_iadd hx hb dL_law_840 ?_
  refine gw_topi (y := (nI (i + 1))) (nI_add i 1) ?_
  refine gw_sld hx hb hX hbl hbA hS (i + 1) rfl (by omega) (by omega) dL_law_841 ?_
  refine gx2_calli (gx_runV (As := [.int (xs (i + 1))]) (rest := []) ⟨hx, hb, hml, hown, hts⟩ (c_X9_plucks l G cI cJ cZ cB cT m0 r g (xs (i + 1)) r2 g1 e2 H.size) (gG_V m_1099 m_1100 m_1101 m_64 m_1102) rfl e_X9_plucks ⟨(Nat.le_of_ble_eq_true rfl), (Nat.le_of_ble_eq_true rfl)⟩ hK hPm hDm hE hS hA 0 wM_at0 rfl rfl hl.1 rfl (Nat.le_of_ble_eq_true rfl) dL_law_842 ⟨(Nat.le_of_ble_eq_true rfl), (Nat.le_of_ble_eq_true rfl)⟩) hPm hDm hP hab.swap hS hA (fun x_2 u_2 H locs hw_2 hPm hDm hP hba hS => ?_)
  have hab := hba.swap
  subst x_2
  refine lv_pop hx hb dL_law_845 rfl ?_
  refine lv_goto (tgt := 1014) hx hb dL_law_846 (by decide) ?_
  exact hback h1 g1 hI1 H _ ls hP hD hPm hDm hab hS (lv_sub hl [0, 1, 2, 3] rfl)
theorem e_X8_odds : yX8_odds.cls = RX8 ∧ yX8_odds.cls ≠ "java/lang/invoke/MethodHandle" ∧ yX8_odds.cls ≠ "java/lang/invoke/VarHandle" ∧ (parseMethodDescriptor yX8_odds.desc).map (fun d => d.parameters.length) = some 3 := by decide +kernel
theorem e_X9_odds : yX9_odds.cls = RX9 ∧ yX9_odds.cls ≠ "java/lang/invoke/MethodHandle" ∧ yX9_odds.cls ≠ "java/lang/invoke/VarHandle" ∧ (parseMethodDescriptor yX9_odds.desc).map (fun d => d.parameters.length) = some 3 := by decide +kernel
set_option maxHeartbeats 4000000 in
set_option maxRecDepth 100000 in
theorem law_case23 {p : Program} {l : Launch} {e : Env} {s : State} {m : MethodId} {below : List Frame} {meth : Method} {c : Code} {G : va_G} {cI cJ cZ cB cT : ClassId} {b L : Nat} {xs : Nat → Int32} {A : Nat → Prop} {Inv : HS → HS → Prop} (hL : L ≤ 3072) (C0 : lw_At p s m meth c b L xs) (hAs : ∀ q, A q → s.heap.size ≤ q) (hA : ∀ q, s.heap.size ≤ q → A q) (hK : va_K G vwCl (gT cI cJ cZ cB cT) s) (hE : gEX G A s) {q r : Nat → Nat} {m0 : Nat} (hst : LawStep (fun k => k = 23) Inv) {i : Nat} (hi : i + 6 ≤ L) (hback : ∀ (h g : HS), Inv h g → ∀ (H : Heap) (locs : List Loc) (ls : Array Slot), va_P G vwCl (wC q cI cJ cZ cB cT h) H → va_D A (wC q cI cJ cZ cB cT h) → va_P G vwCl (wM m0 r cI cJ cZ cB cT g) H → va_D A (wM m0 r cI cJ cZ cB cT g) → gApart (wC q cI cJ cZ cB cT h) (wM m0 r cI cJ cZ cB cT g) → va_S A s.heap H locs → lv_has ls 4 [(0, .ref b), (1, .ref (q 0)), (2, .ref m0), (3, .int (nI i))] → W p l e room_1 s m #[Value.ref b] below meth c H locs 600000 7302249 (lw_Z below #[Value.ref b] s) (F0 m 1014 ls [])) {h g : HS} (hI : Inv h g) {H : Heap} {locs : List Loc} {ls : Array Slot} (hP : va_P G vwCl (wC q cI cJ cZ cB cT h) H) (hD : va_D A (wC q cI cJ cZ cB cT h)) (hPm : va_P G vwCl (wM m0 r cI cJ cZ cB cT g) H) (hDm : va_D A (wM m0 r cI cJ cZ cB cT g)) (hab : gApart (wC q cI cJ cZ cB cT h) (wM m0 r cI cJ cZ cB cT g)) (hS : va_S A s.heap H locs) (hl : lv_has ls 4 [(0, .ref b), (1, .ref (q 0)), (2, .ref m0), (3, .int (nI i))]) : W p l e room_1 s m #[Value.ref b] below meth c H locs 600000 7302249 (lw_Z below #[Value.ref b] s) (F0 m 849 ls []) := by
  obtain ⟨hx, hb, hr, hml, hown, hts, hX, hbl, hlocks, hgv⟩ := id C0
  have hts : ∀ w ∈ lwc, w.before #[Value.ref b] s = true := fun w h => hts w (lwc_in h)
  have hown : s.vm.findClass RL = some m.cls := hown
  have hbA : ¬ A b := fun h => Nat.lt_irrefl _ (Nat.lt_of_lt_of_le hbl (hAs b h))
  refine lv_aload_n hx hb dL_law_849 rfl (lv_at hl 1 rfl) ?_
  refine lv_aload_n hx hb dL_law_850 rfl (lv_at hl 0 rfl) ?_
  refine lv_iload_n hx hb dL_law_851 rfl (lv_at hl 3 rfl) ?_
  refine lv_iconst (v := 1) hx hb dL_law_852 (by decide) ?_
  refine lv_iadd hx hb dL_law_853 ?_
  refine gw_topi (y := (nI (i + 1))) (nI_add i 1) ?_
  refine gw_sld hx hb hX hbl hbA hS (i + 1) rfl (by omega) (by omega) dL_law_854 ?_
  refine lv_aload_n hx hb dL_law_855 rfl (lv_at hl 0 rfl) ?_
  refine lv_iload_n hx hb dL_law_856 rfl (lv_at hl 3 rfl) ?_
  refine lv_iconst (v := 2) hx hb dL_law_857 (by decide) ?_
  refine lv_iadd hx hb dL_law_858 ?_
  refine gw_topi (y := (nI (i + 2))) (nI_add i 2) ?_
  refine gw_sld hx hb hX hbl hbA hS (i + 2) rfl (by omega) (by omega) dL_law_859 ?_
  refine lv_aload_n hx hb dL_law_860 rfl (lv_at hl 0 rfl) ?_
  refine lv_iload_n hx hb dL_law_861 rfl (lv_at hl 3 rfl) ?_
  refine lv_iconst (v := 3) hx hb dL_law_862 (by decide) ?_
  refine lv_iadd hx hb dL_law_863 ?_
  refine gw_topi (y := (nI (i + 3))) (nI_add i 3) ?_
  refine gw_sld hx hb hX hbl hbA hS (i + 3) rfl (by omega) (by omega) dL_law_864 ?_
  refine lv_if_eq (tgt := 872) hx hb dL_law_865 (by decide) (fun c_1 => ?_) (fun c_1 => ?_)
  · refine lv_iconst (v := 0) hx hb dL_law_872 (by decide) ?_
    obtain ⟨r1, h1, r2, g1, e1, e2, hI1, hq⟩ := hst.2.2.2.2.2.2.2.2.2.2.2.2.2.2.2.2.2.2.2.2.2.2.2.1 h g (xs (i + 1)) (xs (i + 2)) 0 hI
    refine gx2_calll (gx_runV (As := [.int (xs (i + 1)), .int (xs (i + 2)), .int 0]) (rest := []) ⟨hx, hb, hml, hown, hts⟩ (c_X8_odds l G cI cJ cZ cB cT q h (xs (i + 1)) (xs (i + 2)) 0 r1 h1 e1 H.size) (gG_V m_1103 m_1104 m_1105 m_60 m_1106) rfl e_X8_odds ⟨(Nat.le_of_ble_eq_true rfl), (Nat.le_of_ble_eq_true rfl)⟩ hK hP hD hE hS hA 0 wC_at0 rfl rfl hl.1 rfl (Nat.le_of_ble_eq_true rfl) dL_law_873 ⟨(Nat.le_of_ble_eq_true rfl), (Nat.le_of_ble_eq_true rfl)⟩) hP hD hPm hab hS hA (fun x_2 u_2 H locs hw_2 hP hD hPm hab hS => ?_)
    subst x_2
    refine lv_aload_n hx hb dL_law_876 rfl (lv_at hl 2 rfl) ?_
    refine lv_aload_n hx hb dL_law_877 rfl (lv_at hl 0 rfl) ?_
    refine lv_iload_n hx hb dL_law_878 rfl (lv_at hl 3 rfl) ?_
    refine lv_iconst (v := 1) hx hb dL_law_879 (by decide) ?_
    refine lv_iadd hx hb dL_law_880 ?_
    refine gw_topi (y := (nI (i + 1))) (nI_add i 1) ?_
    refine gw_sld hx hb hX hbl hbA hS (i + 1) rfl (by omega) (by omega) dL_law_881 ?_
    refine lv_aload_n hx hb dL_law_882 rfl (lv_at hl 0 rfl) ?_
    refine lv_iload_n hx hb dL_law_883 rfl (lv_at hl 3 rfl) ?_
    refine lv_iconst (v := 2) hx hb dL_law_884 (by decide) ?_
    refine lv_iadd hx hb dL_law_885 ?_
    refine gw_topi (y := (nI (i + 2))) (nI_add i 2) ?_
    refine gw_sld hx hb hX hbl hbA hS (i + 2) rfl (by omega) (by omega) dL_law_886 ?_
    refine lv_aload_n hx hb dL_law_887 rfl (lv_at hl 0 rfl) ?_
    refine lv_iload_n hx hb dL_law_888 rfl (lv_at hl 3 rfl) ?_
    refine lv_iconst (v := 3) hx hb dL_law_889 (by decide) ?_
    refine lv_iadd hx hb dL_law_890 ?_
    refine gw_topi (y := (nI (i + 3))) (nI_add i 3) ?_
    refine gw_sld hx hb hX hbl hbA hS (i + 3) rfl (by omega) (by omega) dL_law_891 ?_
    refine lv_if_eq (tgt := 899) hx hb dL_law_892 (by decide) (fun _ => ?_) (fun c => absurd c_1 c)
    refine lv_iconst (v := 0) hx hb dL_law_899 (by decide) ?_
    refine gx2_calll (gx_runV (As := [.int (xs (i + 1)), .int (xs (i + 2)), .int 0]) (rest := [.long r1]) ⟨hx, hb, hml, hown, hts⟩ (c_X9_odds l G cI cJ cZ cB cT m0 r g (xs (i + 1)) (xs (i + 2)) 0 r2 g1 e2 H.size) (gG_V m_1107 m_1108 m_1109 m_64 m_1110) rfl e_X9_odds ⟨(Nat.le_of_ble_eq_true rfl), (Nat.le_of_ble_eq_true rfl)⟩ hK hPm hDm hE hS hA 0 wM_at0 rfl rfl hl.1 rfl (Nat.le_of_ble_eq_true rfl) dL_law_900 ⟨(Nat.le_of_ble_eq_true rfl), (Nat.le_of_ble_eq_true rfl)⟩) hPm hDm hP hab.swap hS hA (fun x_3 u_3 H locs hw_3 hPm hDm hP hba hS => ?_)
    have hab := hba.swap
    subst x_3
    refine W.lcmp hx hb dL_law_903 ?_
    refine lv_if_eq (tgt := 1014) hx hb dL_law_904 (by decide) (fun _ => ?_) (fun c => absurd (by rw [hq rfl]; exact lg_cmp_self _) c)
    exact hback h1 g1 hI1 H _ ls hP hD hPm hDm hab hS (lv_sub hl [0, 1, 2, 3] rfl)
  · refine lv_iconst (v := 1) hx hb dL_law_868 (by decide) ?_
    refine lv_goto (tgt := 873) hx hb dL_law_869 (by decide) ?_
    obtain ⟨r1, h1, r2, g1, e1, e2, hI1, hq⟩ := hst.2.2.2.2.2.2.2.2.2.2.2.2.2.2.2.2.2.2.2.2.2.2.2.1 h g (xs (i + 1)) (xs (i + 2)) 1 hI
    refine gx2_calll (gx_runV (As := [.int (xs (i + 1)), .int (xs (i + 2)), .int 1]) (rest := []) ⟨hx, hb, hml, hown, hts⟩ (c_X8_odds l G cI cJ cZ cB cT q h (xs (i + 1)) (xs (i + 2)) 1 r1 h1 e1 H.size) (gG_V m_1103 m_1104 m_1105 m_60 m_1106) rfl e_X8_odds ⟨(Nat.le_of_ble_eq_true rfl), (Nat.le_of_ble_eq_true rfl)⟩ hK hP hD hE hS hA 0 wC_at0 rfl rfl hl.1 rfl (Nat.le_of_ble_eq_true rfl) dL_law_873 ⟨(Nat.le_of_ble_eq_true rfl), (Nat.le_of_ble_eq_true rfl)⟩) hP hD hPm hab hS hA (fun x_4 u_4 H locs hw_4 hP hD hPm hab hS => ?_)
    subst x_4
    refine lv_aload_n hx hb dL_law_876 rfl (lv_at hl 2 rfl) ?_
    refine lv_aload_n hx hb dL_law_877 rfl (lv_at hl 0 rfl) ?_
    refine lv_iload_n hx hb dL_law_878 rfl (lv_at hl 3 rfl) ?_
    refine lv_iconst (v := 1) hx hb dL_law_879 (by decide) ?_
    refine lv_iadd hx hb dL_law_880 ?_
    refine gw_topi (y := (nI (i + 1))) (nI_add i 1) ?_
    refine gw_sld hx hb hX hbl hbA hS (i + 1) rfl (by omega) (by omega) dL_law_881 ?_
    refine lv_aload_n hx hb dL_law_882 rfl (lv_at hl 0 rfl) ?_
    refine lv_iload_n hx hb dL_law_883 rfl (lv_at hl 3 rfl) ?_
    refine lv_iconst (v := 2) hx hb dL_law_884 (by decide) ?_
    refine lv_iadd hx hb dL_law_885 ?_
    refine gw_topi (y := (nI (i + 2))) (nI_add i 2) ?_
    refine gw_sld hx hb hX hbl hbA hS (i + 2) rfl (by omega) (by omega) dL_law_886 ?_
    refine lv_aload_n hx hb dL_law_887 rfl (lv_at hl 0 rfl) ?_
    refine lv_iload_n hx hb dL_law_888 rfl (lv_at hl 3 rfl) ?_
    refine lv_iconst (v := 3) hx hb dL_law_889 (by decide) ?_
    refine lv_iadd hx hb dL_law_890 ?_
    refine gw_topi (y := (nI (i + 3))) (nI_add i 3) ?_
    refine gw_sld hx hb hX hbl hbA hS (i + 3) rfl (by omega) (by omega) dL_law_891 ?_
    refine lv_if_eq (tgt := 899) hx hb dL_law_892 (by decide) (fun c => absurd c c_1) (fun _ => ?_)
    refine lv_iconst (v := 1) hx hb dL_law_895 (by decide) ?_
    refine lv_goto (tgt := 900) hx hb dL_law_896 (by decide) ?_
    refine gx2_calll (gx_runV (As := [.int (xs (i + 1)), .int (xs (i + 2)), .int 1]) (rest := [.long r1]) ⟨hx, hb, hml, hown, hts⟩ (c_X9_odds l G cI cJ cZ cB cT m0 r g (xs (i + 1)) (xs (i + 2)) 1 r2 g1 e2 H.size) (gG_V m_1107 m_1108 m_1109 m_64 m_1110) rfl e_X9_odds ⟨(Nat.le_of_ble_eq_true rfl), (Nat.le_of_ble_eq_true rfl)⟩ hK hPm hDm hE hS hA 0 wM_at0 rfl rfl hl.1 rfl (Nat.le_of_ble_eq_true rfl) dL_law_900 ⟨(Nat.le_of_ble_eq_true rfl), (Nat.le_of_ble_eq_true rfl)⟩) hPm hDm hP hab.swap hS hA (fun x_5 u_5 H locs hw_5 hPm hDm hP hba hS => ?_)
    have hab := hba.swap
    subst x_5
    refine W.lcmp hx hb dL_law_903 ?_
    refine lv_if_eq (tgt := 1014) hx hb dL_law_904 (by decide) (fun _ => ?_) (fun c => absurd (by rw [hq rfl]; exact lg_cmp_self _) c)
    exact hback h1 g1 hI1 H _ ls hP hD hPm hDm hab hS (lv_sub hl [0, 1, 2, 3] rfl)
theorem e_X8_plan : yX8_plan.cls = RX8 ∧ yX8_plan.cls ≠ "java/lang/invoke/MethodHandle" ∧ yX8_plan.cls ≠ "java/lang/invoke/VarHandle" ∧ (parseMethodDescriptor yX8_plan.desc).map (fun d => d.parameters.length) = some 3 := by decide +kernel
theorem e_X9_plan : yX9_plan.cls = RX9 ∧ yX9_plan.cls ≠ "java/lang/invoke/MethodHandle" ∧ yX9_plan.cls ≠ "java/lang/invoke/VarHandle" ∧ (parseMethodDescriptor yX9_plan.desc).map (fun d => d.parameters.length) = some 3 := by decide +kernel
set_option maxHeartbeats 4000000 in
set_option maxRecDepth 100000 in
theorem law_case24 {p : Program} {l : Launch} {e : Env} {s : State} {m : MethodId} {below : List Frame} {meth : Method} {c : Code} {G : va_G} {cI cJ cZ cB cT : ClassId} {b L : Nat} {xs : Nat → Int32} {A : Nat → Prop} {Inv : HS → HS → Prop} (hL : L ≤ 3072) (C0 : lw_At p s m meth c b L xs) (hAs : ∀ q, A q → s.heap.size ≤ q) (hA : ∀ q, s.heap.size ≤ q → A q) (hK : va_K G vwCl (gT cI cJ cZ cB cT) s) (hE : gEX G A s) {q r : Nat → Nat} {m0 : Nat} (hst : LawStep (fun k => k = 23) Inv) {i : Nat} (hi : i + 6 ≤ L) (hback : ∀ (h g : HS), Inv h g → ∀ (H : Heap) (locs : List Loc) (ls : Array Slot), va_P G vwCl (wC q cI cJ cZ cB cT h) H → va_D A (wC q cI cJ cZ cB cT h) → va_P G vwCl (wM m0 r cI cJ cZ cB cT g) H → va_D A (wM m0 r cI cJ cZ cB cT g) → gApart (wC q cI cJ cZ cB cT h) (wM m0 r cI cJ cZ cB cT g) → va_S A s.heap H locs → lv_has ls 4 [(0, .ref b), (1, .ref (q 0)), (2, .ref m0), (3, .int (nI i))] → W p l e room_1 s m #[Value.ref b] below meth c H locs 600000 7302249 (lw_Z below #[Value.ref b] s) (F0 m 1014 ls [])) {h g : HS} (hI : Inv h g) {H : Heap} {locs : List Loc} {ls : Array Slot} (hP : va_P G vwCl (wC q cI cJ cZ cB cT h) H) (hD : va_D A (wC q cI cJ cZ cB cT h)) (hPm : va_P G vwCl (wM m0 r cI cJ cZ cB cT g) H) (hDm : va_D A (wM m0 r cI cJ cZ cB cT g)) (hab : gApart (wC q cI cJ cZ cB cT h) (wM m0 r cI cJ cZ cB cT g)) (hS : va_S A s.heap H locs) (hl : lv_has ls 4 [(0, .ref b), (1, .ref (q 0)), (2, .ref m0), (3, .int (nI i))]) : W p l e room_1 s m #[Value.ref b] below meth c H locs 600000 7302249 (lw_Z below #[Value.ref b] s) (F0 m 909 ls []) := by
  obtain ⟨hx, hb, hr, hml, hown, hts, hX, hbl, hlocks, hgv⟩ := id C0
  have hts : ∀ w ∈ lwc, w.before #[Value.ref b] s = true := fun w h => hts w (lwc_in h)
  have hown : s.vm.findClass RL = some m.cls := hown
  have hbA : ¬ A b := fun h => Nat.lt_irrefl _ (Nat.lt_of_lt_of_le hbl (hAs b h))
  refine lv_aload_n hx hb dL_law_909 rfl (lv_at hl 1 rfl) ?_
  refine lv_aload_n hx hb dL_law_910 rfl (lv_at hl 0 rfl) ?_
  refine lv_iload_n hx hb dL_law_911 rfl (lv_at hl 3 rfl) ?_
  refine lv_iconst (v := 1) hx hb dL_law_912 (by decide) ?_
  refine lv_iadd hx hb dL_law_913 ?_
  refine gw_topi (y := (nI (i + 1))) (nI_add i 1) ?_
  refine gw_sld hx hb hX hbl hbA hS (i + 1) rfl (by omega) (by omega) dL_law_914 ?_
  refine lv_aload_n hx hb dL_law_915 rfl (lv_at hl 0 rfl) ?_
  refine lv_iload_n hx hb dL_law_916 rfl (lv_at hl 3 rfl) ?_
  refine lv_iconst (v := 2) hx hb dL_law_917 (by decide) ?_
  refine lv_iadd hx hb dL_law_918 ?_
  refine gw_topi (y := (nI (i + 2))) (nI_add i 2) ?_
  refine gw_sld hx hb hX hbl hbA hS (i + 2) rfl (by omega) (by omega) dL_law_919 ?_
  refine lv_aload_n hx hb dL_law_920 rfl (lv_at hl 0 rfl) ?_
  refine lv_iload_n hx hb dL_law_921 rfl (lv_at hl 3 rfl) ?_
  refine lv_iconst (v := 3) hx hb dL_law_922 (by decide) ?_
  refine lv_iadd hx hb dL_law_923 ?_
  refine gw_topi (y := (nI (i + 3))) (nI_add i 3) ?_
  refine gw_sld hx hb hX hbl hbA hS (i + 3) rfl (by omega) (by omega) dL_law_924 ?_
  obtain ⟨r1, h1, r2, g1, e1, e2, hI1, hq⟩ := hst.2.2.2.2.2.2.2.2.2.2.2.2.2.2.2.2.2.2.2.2.2.2.2.2.1 h g (xs (i + 1)) (xs (i + 2)) (xs (i + 3)) hI
  refine gx2_calli (gx_runV (As := [.int (xs (i + 1)), .int (xs (i + 2)), .int (xs (i + 3))]) (rest := []) ⟨hx, hb, hml, hown, hts⟩ (c_X8_plan l G cI cJ cZ cB cT q h (xs (i + 1)) (xs (i + 2)) (xs (i + 3)) r1 h1 e1 H.size) (gG_V m_1111 m_1112 m_1113 m_60 m_1114) rfl e_X8_plan ⟨(Nat.le_of_ble_eq_true rfl), (Nat.le_of_ble_eq_true rfl)⟩ hK hP hD hE hS hA 0 wC_at0 rfl rfl hl.1 rfl (Nat.le_of_ble_eq_true rfl) dL_law_925 ⟨(Nat.le_of_ble_eq_true rfl), (Nat.le_of_ble_eq_true rfl)⟩) hP hD hPm hab hS hA (fun x_1 u_1 H locs hw_1 hP hD hPm hab hS => ?_)
  subst x_1
  refine lv_pop hx hb dL_law_928 rfl ?_
  refine lv_aload_n hx hb dL_law_929 rfl (lv_at hl 2 rfl) ?_
  refine lv_aload_n hx hb dL_law_930 rfl (lv_at hl 0 rfl) ?_
  refine lv_iload_n hx hb dL_law_931 rfl (lv_at hl 3 rfl) ?_
  refine lv_iconst (v := 1) hx hb dL_law_932 (by decide) ?_
  refine lv_iadd hx hb dL_law_933 ?_
  refine gw_topi (y := (nI (i + 1))) (nI_add i 1) ?_
  refine gw_sld hx hb hX hbl hbA hS (i + 1) rfl (by omega) (by omega) dL_law_934 ?_
  refine lv_aload_n hx hb dL_law_935 rfl (lv_at hl 0 rfl) ?_
  refine lv_iload_n hx hb dL_law_936 rfl (lv_at hl 3 rfl) ?_
  refine lv_iconst (v := 2) hx hb dL_law_937 (by decide) ?_
  refine lv_iadd hx hb dL_law_938 ?_
  refine gw_topi (y := (nI (i + 2))) (nI_add i 2) ?_
  refine gw_sld hx hb hX hbl hbA hS (i + 2) rfl (by omega) (by omega) dL_law_939 ?_
  refine lv_aload_n hx hb dL_law_940 rfl (lv_at hl 0 rfl) ?_
  refine lv_iload_n hx hb dL_law_941 rfl (lv_at hl 3 rfl) ?_
  refine lv_iconst (v := 3) hx hb dL_law_942 (by decide) ?_
  refine lv_iadd hx hb dL_law_943 ?_
  refine gw_topi (y := (nI (i + 3))) (nI_add i 3) ?_
  refine gw_sld hx hb hX hbl hbA hS (i + 3) rfl (by omega) (by omega) dL_law_944 ?_
  refine gx2_calli (gx_runV (As := [.int (xs (i + 1)), .int (xs (i + 2)), .int (xs (i + 3))]) (rest := []) ⟨hx, hb, hml, hown, hts⟩ (c_X9_plan l G cI cJ cZ cB cT m0 r g (xs (i + 1)) (xs (i + 2)) (xs (i + 3)) r2 g1 e2 H.size) (gG_V m_1115 m_1116 m_1117 m_64 m_1118) rfl e_X9_plan ⟨(Nat.le_of_ble_eq_true rfl), (Nat.le_of_ble_eq_true rfl)⟩ hK hPm hDm hE hS hA 0 wM_at0 rfl rfl hl.1 rfl (Nat.le_of_ble_eq_true rfl) dL_law_945 ⟨(Nat.le_of_ble_eq_true rfl), (Nat.le_of_ble_eq_true rfl)⟩) hPm hDm hP hab.swap hS hA (fun x_2 u_2 H locs hw_2 hPm hDm hP hba hS => ?_)
  have hab := hba.swap
  subst x_2
  refine lv_pop hx hb dL_law_948 rfl ?_
  refine lv_goto (tgt := 1014) hx hb dL_law_949 (by decide) ?_
  exact hback h1 g1 hI1 H _ ls hP hD hPm hDm hab hS (lv_sub hl [0, 1, 2, 3] rfl)
theorem e_X8_holds : yX8_holds.cls = RX8 ∧ yX8_holds.cls ≠ "java/lang/invoke/MethodHandle" ∧ yX8_holds.cls ≠ "java/lang/invoke/VarHandle" ∧ (parseMethodDescriptor yX8_holds.desc).map (fun d => d.parameters.length) = some 0 := by decide +kernel
theorem e_X9_holds : yX9_holds.cls = RX9 ∧ yX9_holds.cls ≠ "java/lang/invoke/MethodHandle" ∧ yX9_holds.cls ≠ "java/lang/invoke/VarHandle" ∧ (parseMethodDescriptor yX9_holds.desc).map (fun d => d.parameters.length) = some 0 := by decide +kernel
set_option maxHeartbeats 4000000 in
set_option maxRecDepth 100000 in
theorem law_case25 {p : Program} {l : Launch} {e : Env} {s : State} {m : MethodId} {below : List Frame} {meth : Method} {c : Code} {G : va_G} {cI cJ cZ cB cT : ClassId} {b L : Nat} {xs : Nat → Int32} {A : Nat → Prop} {Inv : HS → HS → Prop} (hL : L ≤ 3072) (C0 : lw_At p s m meth c b L xs) (hAs : ∀ q, A q → s.heap.size ≤ q) (hA : ∀ q, s.heap.size ≤ q → A q) (hK : va_K G vwCl (gT cI cJ cZ cB cT) s) (hE : gEX G A s) {q r : Nat → Nat} {m0 : Nat} (hst : LawStep (fun k => k = 23) Inv) {i : Nat} (hi : i + 6 ≤ L) (hback : ∀ (h g : HS), Inv h g → ∀ (H : Heap) (locs : List Loc) (ls : Array Slot), va_P G vwCl (wC q cI cJ cZ cB cT h) H → va_D A (wC q cI cJ cZ cB cT h) → va_P G vwCl (wM m0 r cI cJ cZ cB cT g) H → va_D A (wM m0 r cI cJ cZ cB cT g) → gApart (wC q cI cJ cZ cB cT h) (wM m0 r cI cJ cZ cB cT g) → va_S A s.heap H locs → lv_has ls 4 [(0, .ref b), (1, .ref (q 0)), (2, .ref m0), (3, .int (nI i))] → W p l e room_1 s m #[Value.ref b] below meth c H locs 600000 7302249 (lw_Z below #[Value.ref b] s) (F0 m 1014 ls [])) {h g : HS} (hI : Inv h g) {H : Heap} {locs : List Loc} {ls : Array Slot} (hP : va_P G vwCl (wC q cI cJ cZ cB cT h) H) (hD : va_D A (wC q cI cJ cZ cB cT h)) (hPm : va_P G vwCl (wM m0 r cI cJ cZ cB cT g) H) (hDm : va_D A (wM m0 r cI cJ cZ cB cT g)) (hab : gApart (wC q cI cJ cZ cB cT h) (wM m0 r cI cJ cZ cB cT g)) (hS : va_S A s.heap H locs) (hl : lv_has ls 4 [(0, .ref b), (1, .ref (q 0)), (2, .ref m0), (3, .int (nI i))]) : W p l e room_1 s m #[Value.ref b] below meth c H locs 600000 7302249 (lw_Z below #[Value.ref b] s) (F0 m 952 ls []) := by
  obtain ⟨hx, hb, hr, hml, hown, hts, hX, hbl, hlocks, hgv⟩ := id C0
  have hts : ∀ w ∈ lwc, w.before #[Value.ref b] s = true := fun w h => hts w (lwc_in h)
  have hown : s.vm.findClass RL = some m.cls := hown
  have hbA : ¬ A b := fun h => Nat.lt_irrefl _ (Nat.lt_of_lt_of_le hbl (hAs b h))
  refine lv_aload_n hx hb dL_law_952 rfl (lv_at hl 1 rfl) ?_
  obtain ⟨r1, h1, r2, g1, e1, e2, hI1, hq⟩ := hst.2.2.2.2.2.2.2.2.2.2.2.2.2.2.2.2.2.2.2.2.2.2.2.2.2.1 h g  hI
  refine gx2_calli (gx_runV (As := []) (rest := []) ⟨hx, hb, hml, hown, hts⟩ (c_X8_holds l G cI cJ cZ cB cT q h  r1 h1 e1 H.size) (gG_V m_1119 m_1120 m_1121 m_60 m_1122) rfl e_X8_holds ⟨(Nat.le_of_ble_eq_true rfl), (Nat.le_of_ble_eq_true rfl)⟩ hK hP hD hE hS hA 0 wC_at0 rfl rfl hl.1 rfl (Nat.le_of_ble_eq_true rfl) dL_law_953 ⟨(Nat.le_of_ble_eq_true rfl), (Nat.le_of_ble_eq_true rfl)⟩) hP hD hPm hab hS hA (fun x_1 u_1 H locs hw_1 hP hD hPm hab hS => ?_)
  subst x_1
  refine lv_pop hx hb dL_law_956 rfl ?_
  refine lv_aload_n hx hb dL_law_957 rfl (lv_at hl 2 rfl) ?_
  refine gx2_calli (gx_runV (As := []) (rest := []) ⟨hx, hb, hml, hown, hts⟩ (c_X9_holds l G cI cJ cZ cB cT m0 r g  r2 g1 e2 H.size) (gG_V m_1123 m_1124 m_1125 m_64 m_1126) rfl e_X9_holds ⟨(Nat.le_of_ble_eq_true rfl), (Nat.le_of_ble_eq_true rfl)⟩ hK hPm hDm hE hS hA 0 wM_at0 rfl rfl hl.1 rfl (Nat.le_of_ble_eq_true rfl) dL_law_958 ⟨(Nat.le_of_ble_eq_true rfl), (Nat.le_of_ble_eq_true rfl)⟩) hPm hDm hP hab.swap hS hA (fun x_2 u_2 H locs hw_2 hPm hDm hP hba hS => ?_)
  have hab := hba.swap
  subst x_2
  refine lv_pop hx hb dL_law_961 rfl ?_
  refine lv_goto (tgt := 1014) hx hb dL_law_962 (by decide) ?_
  exact hback h1 g1 hI1 H _ ls hP hD hPm hDm hab hS (lv_sub hl [0, 1, 2, 3] rfl)
theorem e_X8_image : yX8_image.cls = RX8 ∧ yX8_image.cls ≠ "java/lang/invoke/MethodHandle" ∧ yX8_image.cls ≠ "java/lang/invoke/VarHandle" ∧ (parseMethodDescriptor yX8_image.desc).map (fun d => d.parameters.length) = some 0 := by decide +kernel
theorem e_X9_image : yX9_image.cls = RX9 ∧ yX9_image.cls ≠ "java/lang/invoke/MethodHandle" ∧ yX9_image.cls ≠ "java/lang/invoke/VarHandle" ∧ (parseMethodDescriptor yX9_image.desc).map (fun d => d.parameters.length) = some 0 := by decide +kernel
set_option maxHeartbeats 4000000 in
set_option maxRecDepth 100000 in
theorem law_case26 {p : Program} {l : Launch} {e : Env} {s : State} {m : MethodId} {below : List Frame} {meth : Method} {c : Code} {G : va_G} {cI cJ cZ cB cT : ClassId} {b L : Nat} {xs : Nat → Int32} {A : Nat → Prop} {Inv : HS → HS → Prop} (hL : L ≤ 3072) (C0 : lw_At p s m meth c b L xs) (hAs : ∀ q, A q → s.heap.size ≤ q) (hA : ∀ q, s.heap.size ≤ q → A q) (hK : va_K G vwCl (gT cI cJ cZ cB cT) s) (hE : gEX G A s) {q r : Nat → Nat} {m0 : Nat} (hst : LawStep (fun k => k = 23) Inv) {i : Nat} (hi : i + 6 ≤ L) (hback : ∀ (h g : HS), Inv h g → ∀ (H : Heap) (locs : List Loc) (ls : Array Slot), va_P G vwCl (wC q cI cJ cZ cB cT h) H → va_D A (wC q cI cJ cZ cB cT h) → va_P G vwCl (wM m0 r cI cJ cZ cB cT g) H → va_D A (wM m0 r cI cJ cZ cB cT g) → gApart (wC q cI cJ cZ cB cT h) (wM m0 r cI cJ cZ cB cT g) → va_S A s.heap H locs → lv_has ls 4 [(0, .ref b), (1, .ref (q 0)), (2, .ref m0), (3, .int (nI i))] → W p l e room_1 s m #[Value.ref b] below meth c H locs 600000 7302249 (lw_Z below #[Value.ref b] s) (F0 m 1014 ls [])) {h g : HS} (hI : Inv h g) {H : Heap} {locs : List Loc} {ls : Array Slot} (hP : va_P G vwCl (wC q cI cJ cZ cB cT h) H) (hD : va_D A (wC q cI cJ cZ cB cT h)) (hPm : va_P G vwCl (wM m0 r cI cJ cZ cB cT g) H) (hDm : va_D A (wM m0 r cI cJ cZ cB cT g)) (hab : gApart (wC q cI cJ cZ cB cT h) (wM m0 r cI cJ cZ cB cT g)) (hS : va_S A s.heap H locs) (hl : lv_has ls 4 [(0, .ref b), (1, .ref (q 0)), (2, .ref m0), (3, .int (nI i))]) : W p l e room_1 s m #[Value.ref b] below meth c H locs 600000 7302249 (lw_Z below #[Value.ref b] s) (F0 m 965 ls []) := by
  obtain ⟨hx, hb, hr, hml, hown, hts, hX, hbl, hlocks, hgv⟩ := id C0
  have hts : ∀ w ∈ lwc, w.before #[Value.ref b] s = true := fun w h => hts w (lwc_in h)
  have hown : s.vm.findClass RL = some m.cls := hown
  have hbA : ¬ A b := fun h => Nat.lt_irrefl _ (Nat.lt_of_lt_of_le hbl (hAs b h))
  refine lv_aload_n hx hb dL_law_965 rfl (lv_at hl 1 rfl) ?_
  obtain ⟨r1, h1, r2, g1, e1, e2, hI1, hq⟩ := hst.2.2.2.2.2.2.2.2.2.2.2.2.2.2.2.2.2.2.2.2.2.2.2.2.2.2.1 h g  hI
  refine gx2_calli (gx_runV (As := []) (rest := []) ⟨hx, hb, hml, hown, hts⟩ (c_X8_image l G cI cJ cZ cB cT q h  r1 h1 e1 H.size) (gG_V m_1127 m_1128 m_1129 m_60 m_1130) rfl e_X8_image ⟨(Nat.le_of_ble_eq_true rfl), (Nat.le_of_ble_eq_true rfl)⟩ hK hP hD hE hS hA 0 wC_at0 rfl rfl hl.1 rfl (Nat.le_of_ble_eq_true rfl) dL_law_966 ⟨(Nat.le_of_ble_eq_true rfl), (Nat.le_of_ble_eq_true rfl)⟩) hP hD hPm hab hS hA (fun x_1 u_1 H locs hw_1 hP hD hPm hab hS => ?_)
  subst x_1
  refine lv_pop hx hb dL_law_969 rfl ?_
  refine lv_aload_n hx hb dL_law_970 rfl (lv_at hl 2 rfl) ?_
  refine gx2_calli (gx_runV (As := []) (rest := []) ⟨hx, hb, hml, hown, hts⟩ (c_X9_image l G cI cJ cZ cB cT m0 r g  r2 g1 e2 H.size) (gG_V m_1131 m_1132 m_1133 m_64 m_1134) rfl e_X9_image ⟨(Nat.le_of_ble_eq_true rfl), (Nat.le_of_ble_eq_true rfl)⟩ hK hPm hDm hE hS hA 0 wM_at0 rfl rfl hl.1 rfl (Nat.le_of_ble_eq_true rfl) dL_law_971 ⟨(Nat.le_of_ble_eq_true rfl), (Nat.le_of_ble_eq_true rfl)⟩) hPm hDm hP hab.swap hS hA (fun x_2 u_2 H locs hw_2 hPm hDm hP hba hS => ?_)
  have hab := hba.swap
  subst x_2
  refine lv_pop hx hb dL_law_974 rfl ?_
  refine lv_goto (tgt := 1014) hx hb dL_law_975 (by decide) ?_
  exact hback h1 g1 hI1 H _ ls hP hD hPm hDm hab hS (lv_sub hl [0, 1, 2, 3] rfl)
theorem e_X8_back : yX8_back.cls = RX8 ∧ yX8_back.cls ≠ "java/lang/invoke/MethodHandle" ∧ yX8_back.cls ≠ "java/lang/invoke/VarHandle" ∧ (parseMethodDescriptor yX8_back.desc).map (fun d => d.parameters.length) = some 0 := by decide +kernel
theorem e_X9_back : yX9_back.cls = RX9 ∧ yX9_back.cls ≠ "java/lang/invoke/MethodHandle" ∧ yX9_back.cls ≠ "java/lang/invoke/VarHandle" ∧ (parseMethodDescriptor yX9_back.desc).map (fun d => d.parameters.length) = some 0 := by decide +kernel
set_option maxHeartbeats 4000000 in
set_option maxRecDepth 100000 in
theorem law_case27 {p : Program} {l : Launch} {e : Env} {s : State} {m : MethodId} {below : List Frame} {meth : Method} {c : Code} {G : va_G} {cI cJ cZ cB cT : ClassId} {b L : Nat} {xs : Nat → Int32} {A : Nat → Prop} {Inv : HS → HS → Prop} (hL : L ≤ 3072) (C0 : lw_At p s m meth c b L xs) (hAs : ∀ q, A q → s.heap.size ≤ q) (hA : ∀ q, s.heap.size ≤ q → A q) (hK : va_K G vwCl (gT cI cJ cZ cB cT) s) (hE : gEX G A s) {q r : Nat → Nat} {m0 : Nat} (hst : LawStep (fun k => k = 23) Inv) {i : Nat} (hi : i + 6 ≤ L) (hback : ∀ (h g : HS), Inv h g → ∀ (H : Heap) (locs : List Loc) (ls : Array Slot), va_P G vwCl (wC q cI cJ cZ cB cT h) H → va_D A (wC q cI cJ cZ cB cT h) → va_P G vwCl (wM m0 r cI cJ cZ cB cT g) H → va_D A (wM m0 r cI cJ cZ cB cT g) → gApart (wC q cI cJ cZ cB cT h) (wM m0 r cI cJ cZ cB cT g) → va_S A s.heap H locs → lv_has ls 4 [(0, .ref b), (1, .ref (q 0)), (2, .ref m0), (3, .int (nI i))] → W p l e room_1 s m #[Value.ref b] below meth c H locs 600000 7302249 (lw_Z below #[Value.ref b] s) (F0 m 1014 ls [])) {h g : HS} (hI : Inv h g) {H : Heap} {locs : List Loc} {ls : Array Slot} (hP : va_P G vwCl (wC q cI cJ cZ cB cT h) H) (hD : va_D A (wC q cI cJ cZ cB cT h)) (hPm : va_P G vwCl (wM m0 r cI cJ cZ cB cT g) H) (hDm : va_D A (wM m0 r cI cJ cZ cB cT g)) (hab : gApart (wC q cI cJ cZ cB cT h) (wM m0 r cI cJ cZ cB cT g)) (hS : va_S A s.heap H locs) (hl : lv_has ls 4 [(0, .ref b), (1, .ref (q 0)), (2, .ref m0), (3, .int (nI i))]) : W p l e room_1 s m #[Value.ref b] below meth c H locs 600000 7302249 (lw_Z below #[Value.ref b] s) (F0 m 978 ls []) := by
  obtain ⟨hx, hb, hr, hml, hown, hts, hX, hbl, hlocks, hgv⟩ := id C0
  have hts : ∀ w ∈ lwc, w.before #[Value.ref b] s = true := fun w h => hts w (lwc_in h)
  have hown : s.vm.findClass RL = some m.cls := hown
  have hbA : ¬ A b := fun h => Nat.lt_irrefl _ (Nat.lt_of_lt_of_le hbl (hAs b h))
  refine lv_aload_n hx hb dL_law_978 rfl (lv_at hl 1 rfl) ?_
  obtain ⟨r1, h1, r2, g1, e1, e2, hI1, hq⟩ := hst.2.2.2.2.2.2.2.2.2.2.2.2.2.2.2.2.2.2.2.2.2.2.2.2.2.2.2.1 h g  hI
  refine gx2_calli (gx_runV (As := []) (rest := []) ⟨hx, hb, hml, hown, hts⟩ (c_X8_back l G cI cJ cZ cB cT q h  r1 h1 e1 H.size) (gG_V m_1135 m_1136 m_1137 m_60 m_1138) rfl e_X8_back ⟨(Nat.le_of_ble_eq_true rfl), (Nat.le_of_ble_eq_true rfl)⟩ hK hP hD hE hS hA 0 wC_at0 rfl rfl hl.1 rfl (Nat.le_of_ble_eq_true rfl) dL_law_979 ⟨(Nat.le_of_ble_eq_true rfl), (Nat.le_of_ble_eq_true rfl)⟩) hP hD hPm hab hS hA (fun x_1 u_1 H locs hw_1 hP hD hPm hab hS => ?_)
  subst x_1
  refine lv_pop hx hb dL_law_982 rfl ?_
  refine lv_aload_n hx hb dL_law_983 rfl (lv_at hl 2 rfl) ?_
  refine gx2_calli (gx_runV (As := []) (rest := []) ⟨hx, hb, hml, hown, hts⟩ (c_X9_back l G cI cJ cZ cB cT m0 r g  r2 g1 e2 H.size) (gG_V m_1139 m_1140 m_1141 m_64 m_1142) rfl e_X9_back ⟨(Nat.le_of_ble_eq_true rfl), (Nat.le_of_ble_eq_true rfl)⟩ hK hPm hDm hE hS hA 0 wM_at0 rfl rfl hl.1 rfl (Nat.le_of_ble_eq_true rfl) dL_law_984 ⟨(Nat.le_of_ble_eq_true rfl), (Nat.le_of_ble_eq_true rfl)⟩) hPm hDm hP hab.swap hS hA (fun x_2 u_2 H locs hw_2 hPm hDm hP hba hS => ?_)
  have hab := hba.swap
  subst x_2
  refine lv_pop hx hb dL_law_987 rfl ?_
  refine lv_goto (tgt := 1014) hx hb dL_law_988 (by decide) ?_
  exact hback h1 g1 hI1 H _ ls hP hD hPm hDm hab hS (lv_sub hl [0, 1, 2, 3] rfl)
theorem e_X8_about : yX8_about.cls = RX8 ∧ yX8_about.cls ≠ "java/lang/invoke/MethodHandle" ∧ yX8_about.cls ≠ "java/lang/invoke/VarHandle" ∧ (parseMethodDescriptor yX8_about.desc).map (fun d => d.parameters.length) = some 1 := by decide +kernel
theorem e_X9_about : yX9_about.cls = RX9 ∧ yX9_about.cls ≠ "java/lang/invoke/MethodHandle" ∧ yX9_about.cls ≠ "java/lang/invoke/VarHandle" ∧ (parseMethodDescriptor yX9_about.desc).map (fun d => d.parameters.length) = some 1 := by decide +kernel
set_option maxHeartbeats 4000000 in
set_option maxRecDepth 100000 in
theorem law_case28 {p : Program} {l : Launch} {e : Env} {s : State} {m : MethodId} {below : List Frame} {meth : Method} {c : Code} {G : va_G} {cI cJ cZ cB cT : ClassId} {b L : Nat} {xs : Nat → Int32} {A : Nat → Prop} {Inv : HS → HS → Prop} (hL : L ≤ 3072) (C0 : lw_At p s m meth c b L xs) (hAs : ∀ q, A q → s.heap.size ≤ q) (hA : ∀ q, s.heap.size ≤ q → A q) (hK : va_K G vwCl (gT cI cJ cZ cB cT) s) (hE : gEX G A s) {q r : Nat → Nat} {m0 : Nat} (hst : LawStep (fun k => k = 23) Inv) {i : Nat} (hi : i + 6 ≤ L) (hback : ∀ (h g : HS), Inv h g → ∀ (H : Heap) (locs : List Loc) (ls : Array Slot), va_P G vwCl (wC q cI cJ cZ cB cT h) H → va_D A (wC q cI cJ cZ cB cT h) → va_P G vwCl (wM m0 r cI cJ cZ cB cT g) H → va_D A (wM m0 r cI cJ cZ cB cT g) → gApart (wC q cI cJ cZ cB cT h) (wM m0 r cI cJ cZ cB cT g) → va_S A s.heap H locs → lv_has ls 4 [(0, .ref b), (1, .ref (q 0)), (2, .ref m0), (3, .int (nI i))] → W p l e room_1 s m #[Value.ref b] below meth c H locs 600000 7302249 (lw_Z below #[Value.ref b] s) (F0 m 1014 ls [])) {h g : HS} (hI : Inv h g) {H : Heap} {locs : List Loc} {ls : Array Slot} (hP : va_P G vwCl (wC q cI cJ cZ cB cT h) H) (hD : va_D A (wC q cI cJ cZ cB cT h)) (hPm : va_P G vwCl (wM m0 r cI cJ cZ cB cT g) H) (hDm : va_D A (wM m0 r cI cJ cZ cB cT g)) (hab : gApart (wC q cI cJ cZ cB cT h) (wM m0 r cI cJ cZ cB cT g)) (hS : va_S A s.heap H locs) (hl : lv_has ls 4 [(0, .ref b), (1, .ref (q 0)), (2, .ref m0), (3, .int (nI i))]) : W p l e room_1 s m #[Value.ref b] below meth c H locs 600000 7302249 (lw_Z below #[Value.ref b] s) (F0 m 991 ls []) := by
  obtain ⟨hx, hb, hr, hml, hown, hts, hX, hbl, hlocks, hgv⟩ := id C0
  have hts : ∀ w ∈ lwc, w.before #[Value.ref b] s = true := fun w h => hts w (lwc_in h)
  have hown : s.vm.findClass RL = some m.cls := hown
  have hbA : ¬ A b := fun h => Nat.lt_irrefl _ (Nat.lt_of_lt_of_le hbl (hAs b h))
  refine lv_aload_n hx hb dL_law_991 rfl (lv_at hl 1 rfl) ?_
  refine lv_aload_n hx hb dL_law_992 rfl (lv_at hl 0 rfl) ?_
  refine lv_iload_n hx hb dL_law_993 rfl (lv_at hl 3 rfl) ?_
  refine lv_iconst (v := 1) hx hb dL_law_994 (by decide) ?_
  refine lv_iadd hx hb dL_law_995 ?_
  refine gw_topi (y := (nI (i + 1))) (nI_add i 1) ?_
  refine gw_sld hx hb hX hbl hbA hS (i + 1) rfl (by omega) (by omega) dL_law_996 ?_
  obtain ⟨r1, h1, r2, g1, e1, e2, hI1, hq⟩ := hst.2.2.2.2.2.2.2.2.2.2.2.2.2.2.2.2.2.2.2.2.2.2.2.2.2.2.2.2 h g (xs (i + 1)) hI
  refine gx2_calli (gx_runV (As := [.int (xs (i + 1))]) (rest := []) ⟨hx, hb, hml, hown, hts⟩ (c_X8_about l G cI cJ cZ cB cT q h (xs (i + 1)) r1 h1 e1 H.size) (gG_V m_1143 m_1144 m_1145 m_60 m_1146) rfl e_X8_about ⟨(Nat.le_of_ble_eq_true rfl), (Nat.le_of_ble_eq_true rfl)⟩ hK hP hD hE hS hA 0 wC_at0 rfl rfl hl.1 rfl (Nat.le_of_ble_eq_true rfl) dL_law_997 ⟨(Nat.le_of_ble_eq_true rfl), (Nat.le_of_ble_eq_true rfl)⟩) hP hD hPm hab hS hA (fun x_1 u_1 H locs hw_1 hP hD hPm hab hS => ?_)
  subst x_1
  refine lv_pop hx hb dL_law_1000 rfl ?_
  refine lv_aload_n hx hb dL_law_1001 rfl (lv_at hl 2 rfl) ?_
  refine lv_aload_n hx hb dL_law_1002 rfl (lv_at hl 0 rfl) ?_
  refine lv_iload_n hx hb dL_law_1003 rfl (lv_at hl 3 rfl) ?_
  refine lv_iconst (v := 1) hx hb dL_law_1004 (by decide) ?_
  refine lv_iadd hx hb dL_law_1005 ?_
  refine gw_topi (y := (nI (i + 1))) (nI_add i 1) ?_
  refine gw_sld hx hb hX hbl hbA hS (i + 1) rfl (by omega) (by omega) dL_law_1006 ?_
  refine gx2_calli (gx_runV (As := [.int (xs (i + 1))]) (rest := []) ⟨hx, hb, hml, hown, hts⟩ (c_X9_about l G cI cJ cZ cB cT m0 r g (xs (i + 1)) r2 g1 e2 H.size) (gG_V m_1147 m_1148 m_1149 m_64 m_1150) rfl e_X9_about ⟨(Nat.le_of_ble_eq_true rfl), (Nat.le_of_ble_eq_true rfl)⟩ hK hPm hDm hE hS hA 0 wM_at0 rfl rfl hl.1 rfl (Nat.le_of_ble_eq_true rfl) dL_law_1007 ⟨(Nat.le_of_ble_eq_true rfl), (Nat.le_of_ble_eq_true rfl)⟩) hPm hDm hP hab.swap hS hA (fun x_2 u_2 H locs hw_2 hPm hDm hP hba hS => ?_)
  have hab := hba.swap
  subst x_2
  refine lv_pop hx hb dL_law_1010 rfl ?_
  refine lv_goto (tgt := 1014) hx hb dL_law_1011 (by decide) ?_
  exact hback h1 g1 hI1 H _ ls hP hD hPm hDm hab hS (lv_sub hl [0, 1, 2, 3] rfl)
theorem j32 : ∀ j : Nat, j < 32 → (j = 0 ∨ j = 1 ∨ j = 2 ∨ j = 3 ∨ j = 4 ∨ j = 5 ∨ j = 6 ∨ j = 7 ∨ j = 8 ∨ j = 9 ∨ j = 10 ∨ j = 11 ∨ j = 12 ∨ j = 13 ∨ j = 14 ∨ j = 15 ∨ j = 16 ∨ j = 17 ∨ j = 18 ∨ j = 19 ∨ j = 20 ∨ j = 21 ∨ j = 22 ∨ j = 23 ∨ j = 24 ∨ j = 25 ∨ j = 26 ∨ j = 27 ∨ j = 28 ∨ j = 29 ∨ j = 30 ∨ j = 31) := by decide +kernel
theorem nt_0 {w : Cond} (h : w ∈ k2_sels lw_privs) : w ∈ lw_tbl := List.mem_append_left _ h
theorem nt_1 {w : Cond} (h : w ∈ tables_1_1) : w ∈ lw_tbl := List.mem_append_right _ (List.mem_append_left _ h)
theorem nt_2 {w : Cond} (h : w ∈ tables_1_2) : w ∈ lw_tbl := List.mem_append_right _ (List.mem_append_right _ (List.mem_append_left _ h))
theorem nt_3 {w : Cond} (h : w ∈ tables_1_3) : w ∈ lw_tbl := List.mem_append_right _ (List.mem_append_right _ (List.mem_append_right _ (List.mem_append_left _ h)))
theorem nt_4 {w : Cond} (h : w ∈ tables_1_4) : w ∈ lw_tbl := List.mem_append_right _ (List.mem_append_right _ (List.mem_append_right _ (List.mem_append_right _ (List.mem_append_left _ h))))
theorem nt_5 {w : Cond} (h : w ∈ tables_1_5) : w ∈ lw_tbl := List.mem_append_right _ (List.mem_append_right _ (List.mem_append_right _ (List.mem_append_right _ (List.mem_append_right _ (List.mem_append_left _ h)))))
theorem nt_6 {w : Cond} (h : w ∈ tables_1_6) : w ∈ lw_tbl := List.mem_append_right _ (List.mem_append_right _ (List.mem_append_right _ (List.mem_append_right _ (List.mem_append_right _ (List.mem_append_right _ (h))))))
set_option maxRecDepth 100000 in
theorem hel0 : ∀ j : Nat, j < 121 → (flatC (Jvm.Cond.and given_1 narrow_1))[36 + j]? = some (Cond.eq (.elem (.field (.string "GooseLetters$Tokens" 65) "java/lang/String" "value" "[B") (.int (Int32.ofNat j))) (.int (gWb.getD j 0))) := by decide +kernel
set_option maxHeartbeats 8000000 in
set_option maxRecDepth 100000 in
theorem gEX_of {args : Array Value} {s : State} {A : Nat → Prop} (hts0 : ∀ w ∈ lw_tbl, w.before args s = true) (hgv : (Jvm.Cond.and given_1 narrow_1).before args s = true) (hA : ∀ a : Nat, a < s.heap.size → ¬ A a) : ∃ K : Nat → Nat, ∀ G : va_G, G.2 99 = K → gEX G A s := by
  have hs := flat_of_before _ hgv
  obtain ⟨t1, vt1, Tt1⟩ := va_Tof (args := args) (s := s) (A := A) (tm := (.static "GooseLetters$Search" "PATTERNS" "[I")) (ty := .int) (N := 13) (f := fun j => .int (gPat j)) (by decide) (hs _ (by decide +kernel)) (va_eqt (hs (Cond.eq (.length (.static "GooseLetters$Search" "PATTERNS" "[I")) (.int 13)) (by decide +kernel))) (fun j hj => match j, hj with | 0, _ => va_eqt (hs (Cond.eq (.elem (.static "GooseLetters$Search" "PATTERNS" "[I") (.int 0)) (.int 0)) (by decide +kernel)) | 1, _ => va_eqt (hs (Cond.eq (.elem (.static "GooseLetters$Search" "PATTERNS" "[I") (.int 1)) (.int 12)) (by decide +kernel)) | 2, _ => va_eqt (hs (Cond.eq (.elem (.static "GooseLetters$Search" "PATTERNS" "[I") (.int 2)) (.int 21)) (by decide +kernel)) | 3, _ => va_eqt (hs (Cond.eq (.elem (.static "GooseLetters$Search" "PATTERNS" "[I") (.int 3)) (.int 102)) (by decide +kernel)) | 4, _ => va_eqt (hs (Cond.eq (.elem (.static "GooseLetters$Search" "PATTERNS" "[I") (.int 4)) (.int 120)) (by decide +kernel)) | 5, _ => va_eqt (hs (Cond.eq (.elem (.static "GooseLetters$Search" "PATTERNS" "[I") (.int 5)) (.int 201)) (by decide +kernel)) | 6, _ => va_eqt (hs (Cond.eq (.elem (.static "GooseLetters$Search" "PATTERNS" "[I") (.int 6)) (.int 210)) (by decide +kernel)) | 7, _ => va_eqt (hs (Cond.eq (.elem (.static "GooseLetters$Search" "PATTERNS" "[I") (.int 7)) (.int 112)) (by decide +kernel)) | 8, _ => va_eqt (hs (Cond.eq (.elem (.static "GooseLetters$Search" "PATTERNS" "[I") (.int 8)) (.int 121)) (by decide +kernel)) | 9, _ => va_eqt (hs (Cond.eq (.elem (.static "GooseLetters$Search" "PATTERNS" "[I") (.int 9)) (.int 211)) (by decide +kernel)) | 10, _ => va_eqt (hs (Cond.eq (.elem (.static "GooseLetters$Search" "PATTERNS" "[I") (.int 10)) (.int 122)) (by decide +kernel)) | 11, _ => va_eqt (hs (Cond.eq (.elem (.static "GooseLetters$Search" "PATTERNS" "[I") (.int 11)) (.int 212)) (by decide +kernel)) | 12, _ => va_eqt (hs (Cond.eq (.elem (.static "GooseLetters$Search" "PATTERNS" "[I") (.int 12)) (.int 221)) (by decide +kernel)) | j + 13, h => absurd h (by omega)) hA
  have Zt1 := va_Zref (A := A) (hts0 (.laysStatic "GooseLetters$Search" "PATTERNS" "[I") (nt_4 (List.mem_of_getElem? (i := 103) rfl))) (hts0 (.initialized "GooseLetters$Search") (nt_1 (List.mem_of_getElem? (i := 9) rfl))) vt1 hA
  obtain ⟨t2, vt2, Tt2⟩ := va_Tof (args := args) (s := s) (A := A) (tm := (.static "GooseLetters$Search" "PATTERN_COUNTS" "[I")) (ty := .int) (N := 4) (f := fun j => .int (gCnt j)) (by decide) (hs _ (by decide +kernel)) (va_eqt (hs (Cond.eq (.length (.static "GooseLetters$Search" "PATTERN_COUNTS" "[I")) (.int 4)) (by decide +kernel))) (fun j hj => match j, hj with | 0, _ => va_eqt (hs (Cond.eq (.elem (.static "GooseLetters$Search" "PATTERN_COUNTS" "[I") (.int 0)) (.int 0)) (by decide +kernel)) | 1, _ => va_eqt (hs (Cond.eq (.elem (.static "GooseLetters$Search" "PATTERN_COUNTS" "[I") (.int 1)) (.int 1)) (by decide +kernel)) | 2, _ => va_eqt (hs (Cond.eq (.elem (.static "GooseLetters$Search" "PATTERN_COUNTS" "[I") (.int 2)) (.int 3)) (by decide +kernel)) | 3, _ => va_eqt (hs (Cond.eq (.elem (.static "GooseLetters$Search" "PATTERN_COUNTS" "[I") (.int 3)) (.int 13)) (by decide +kernel)) | j + 4, h => absurd h (by omega)) hA
  have Zt2 := va_Zref (A := A) (hts0 (.laysStatic "GooseLetters$Search" "PATTERN_COUNTS" "[I") (nt_4 (List.mem_of_getElem? (i := 101) rfl))) (hts0 (.initialized "GooseLetters$Search") (nt_1 (List.mem_of_getElem? (i := 9) rfl))) vt2 hA
  have hel : ∀ j : Nat, j < 121 → (Cond.eq (.elem (.field (.string "GooseLetters$Tokens" 65) "java/lang/String" "value" "[B") (.int (Int32.ofNat j))) (.int (gWb.getD j 0))).before args s = true := fun j hj => hs _ (List.mem_of_getElem? (hel0 j hj))
  obtain ⟨aK, aV, S1, S2⟩ := vk_Sof (args := args) (s := s) (A := A) (N := 1) (tm := fun _ => (.string "GooseLetters$Tokens" 65)) (len := [121]) (byt := [gWb]) (fun i hi => by obtain rfl : i = 0 := (by omega); decide) (fun i hi => hs _ (by decide +kernel)) (fun i hi => hs _ (by decide +kernel)) (fun i hi => hs _ (by decide +kernel)) (fun i hi => by obtain rfl : i = 0 := (by omega); exact hs (Cond.eq (.length (.field (.string "GooseLetters$Tokens" 65) "java/lang/String" "value" "[B")) (.int 121)) (by decide +kernel)) (fun i hi j hj => by obtain rfl : i = 0 := (by omega); exact hel j hj) (fun i j hi hj hne => absurd (show i = j by omega) hne) hA
  have C1 := va_Zof (A := A) (hts0 (.laysStatic "java/lang/String" "COMPACT_STRINGS" "Z") (nt_3 (List.mem_of_getElem? (i := 59) rfl))) (hts0 (.initialized "java/lang/String") (nt_1 (List.mem_of_getElem? (i := 13) rfl))) (va_eqi (hs (Cond.eq (.static "java/lang/String" "COMPACT_STRINGS" "Z") (.int 1)) (by decide +kernel))) hA
  have C2 := va_Zqof (A := A) (hts0 (.laysStatic "jdk/internal/util/Preconditions" "SIOOBE_FORMATTER" "Ljava/util/function/BiFunction;") (nt_3 (List.mem_of_getElem? (i := 75) rfl))) (hts0 (.initialized "jdk/internal/util/Preconditions") (nt_1 (List.mem_of_getElem? (i := 15) rfl))) (hs (Cond.isRef (.static "jdk/internal/util/Preconditions" "SIOOBE_FORMATTER" "Ljava/util/function/BiFunction;")) (by decide +kernel)) hA
  refine ⟨fun k => [t1, t2, aK 0, aV 0].getD k 0, fun G hG => ?_⟩
  have g0 : G.2 99 0 = t1 := by rw [hG]; rfl
  have g1 : G.2 99 1 = t2 := by rw [hG]; rfl
  have g2 : G.2 99 2 = aK 0 := by rw [hG]; rfl
  have g3 : G.2 99 3 = aV 0 := by rw [hG]; rfl
  unfold gEX
  rw [g0, g1, g2, g3]
  exact ⟨va_Nw.of rfl (hts0 (.methodLinkNest RX0 32 yX8_halvesOf "GooseLetters") (nt_4 (List.mem_of_getElem? (i := 55) rfl))), ⟨Zt1, Tt1⟩, ⟨Zt2, Tt2⟩, ⟨vk_R.of (hts0 (.stringRef "GooseLetters$Tokens" 65 gWt) (nt_3 (List.mem_of_getElem? (i := 49) rfl))) (S2 0 (by decide)), ⟨fun i hi => by obtain rfl : i = 0 := (by omega); exact S1.1 0 (by decide), fun i j hi hj _ => by omega⟩⟩, C1, C2⟩
set_option maxHeartbeats 4000000 in
set_option maxRecDepth 100000 in
theorem law_loop {p : Program} {l : Launch} {e : Env} {s : State} {m : MethodId} {below : List Frame} {meth : Method} {c : Code} {G : va_G} {cI cJ cZ cB cT : ClassId} {b L : Nat} {xs : Nat → Int32} {A : Nat → Prop} {Inv : HS → HS → Prop} (hL : L ≤ 3072) (C0 : lw_At p s m meth c b L xs) (hAs : ∀ q, A q → s.heap.size ≤ q) (hA : ∀ q, s.heap.size ≤ q → A q) (hK : va_K G vwCl (gT cI cJ cZ cB cT) s) (hE : gEX G A s) {q r : Nat → Nat} {m0 : Nat} (hst : LawStep (fun k => k = 23) Inv) : ∀ (n i : Nat), i ≤ L → L < i + n → ∀ (h g : HS), Inv h g → ∀ (H : Heap) (locs : List Loc) (ls : Array Slot), va_P G vwCl (wC q cI cJ cZ cB cT h) H → va_D A (wC q cI cJ cZ cB cT h) → va_P G vwCl (wM m0 r cI cJ cZ cB cT g) H → va_D A (wM m0 r cI cJ cZ cB cT g) → gApart (wC q cI cJ cZ cB cT h) (wM m0 r cI cJ cZ cB cT g) → va_S A s.heap H locs → lv_has ls 4 [(0, .ref b), (1, .ref (q 0)), (2, .ref m0), (3, .int (nI i))] → W p l e room_1 s m #[Value.ref b] below meth c H locs 600000 7302249 (lw_Z below #[Value.ref b] s) (F0 m 18 ls []) := by
  intro n
  induction n with
  | zero =>
    intro i h1 h2
    exact absurd h2 (by omega)
  | succ n ih =>
    intro i hiL hin h g hI H locs ls hP hD hPm hDm hab hS hl
    obtain ⟨hx, hb, hr, hml, hown, hts, hX, hbl, hlocks, hgv⟩ := id C0
    have hts : ∀ w ∈ lwc, w.before #[Value.ref b] s = true := fun w h => hts w (lwc_in h)
    have hown : s.vm.findClass RL = some m.cls := hown
    have hbA : ¬ A b := fun h => Nat.lt_irrefl _ (Nat.lt_of_lt_of_le hbl (hAs b h))
    have hsub : (Int32.ofNat L - 6).toInt = (L : Int) - 6 := pk_sub_toInt (a := L) (b := 6) (by omega) (by decide)
    have hti := nI_toInt (n := i) (by omega)
    have hback : ∀ (h g : HS), i + 6 ≤ L → Inv h g → ∀ (H : Heap) (locs : List Loc) (ls : Array Slot), va_P G vwCl (wC q cI cJ cZ cB cT h) H → va_D A (wC q cI cJ cZ cB cT h) → va_P G vwCl (wM m0 r cI cJ cZ cB cT g) H → va_D A (wM m0 r cI cJ cZ cB cT g) → gApart (wC q cI cJ cZ cB cT h) (wM m0 r cI cJ cZ cB cT g) → va_S A s.heap H locs → lv_has ls 4 [(0, .ref b), (1, .ref (q 0)), (2, .ref m0), (3, .int (nI i))] → W p l e room_1 s m #[Value.ref b] below meth c H locs 600000 7302249 (lw_Z below #[Value.ref b] s) (F0 m 1014 ls []) := by
      intro h g hi6 hI H locs ls hP hD hPm hDm hab hS hl
      refine lv_iinc (v := nI (i + 6)) (lv' := [(3, .int (nI (i + 6))), (0, .ref b), (1, .ref (q 0)), (2, .ref m0)]) hx hb dL_law_1014 hl (k := 3) rfl (nI_add i 6) (by decide) rfl (fun ls hl => ?_)
      refine lv_goto (tgt := 18) hx hb dL_law_1017 (by decide) ?_
      exact ih (i + 6) hi6 (by omega) h g hI H _ ls hP hD hPm hDm hab hS (lv_sub hl [1, 2, 3, 0] rfl)
    refine lv_iload_n hx hb dL_law_18 rfl (lv_at hl 3 rfl) ?_
    refine lv_aload_n hx hb dL_law_19 rfl (lv_at hl 0 rfl) ?_
    refine va_slen hx hb hX hbl hbA hS dL_law_20 ?_
    refine lv_bipush (v := 6) hx hb dL_law_21 (by decide) ?_
    refine lv_isub hx hb dL_law_23 ?_
    refine lv_icmp_gt (tgt := 1020) hx hb dL_law_24 (by decide) (fun _ => ?_) (fun c1 => ?_)
    · refine lv_iconst (v := 1) hx hb dL_law_1020 (by decide) ?_
      refine va_forget (fun q hq => hAs _ (hS.2.2 q hq)) ?_
      exact lw_ret hx hb hr hlocks dL_law_1021
    · have hi6 : i + 6 ≤ L := by
        have := gi_of_nlt c1
        omega
      refine lv_aload_n hx hb dL_law_27 rfl (lv_at hl 0 rfl) ?_
      refine lv_iload_n hx hb dL_law_28 rfl (lv_at hl 3 rfl) ?_
      refine gw_sld hx hb hX hbl hbA hS i rfl (by omega) (by omega) dL_law_29 ?_
      refine lv_bipush (v := 31) hx hb dL_law_30 (by decide) ?_
      refine lv_iand hx hb dL_law_32 ?_
      obtain ⟨j, hj, ej⟩ := pk_andE (xs i) (m := 31) 5 (by decide)
      refine gw_topi ej ?_
      rcases j32 j (by omega) with rfl | rfl | rfl | rfl | rfl | rfl | rfl | rfl | rfl | rfl | rfl | rfl | rfl | rfl | rfl | rfl | rfl | rfl | rfl | rfl | rfl | rfl | rfl | rfl | rfl | rfl | rfl | rfl | rfl | rfl | rfl | rfl
      · refine lv_tableIn (tgt := 164) (off := 131) hx hb dL_law_33 (by decide +kernel) (by decide +kernel) (by decide +kernel) (by decide +kernel) ?_
        exact law_case0 hL C0 hAs hA hK hE (q := q) (r := r) (m0 := m0) hst hi6 (fun h g => hback h g hi6) hI hP hD hPm hDm hab hS hl
      · refine lv_tableIn (tgt := 207) (off := 174) hx hb dL_law_33 (by decide +kernel) (by decide +kernel) (by decide +kernel) (by decide +kernel) ?_
        exact law_case1 hL C0 hAs hA hK hE (q := q) (r := r) (m0 := m0) hst hi6 (fun h g => hback h g hi6) hI hP hD hPm hDm hab hS hl
      · refine lv_tableIn (tgt := 240) (off := 207) hx hb dL_law_33 (by decide +kernel) (by decide +kernel) (by decide +kernel) (by decide +kernel) ?_
        exact law_case2 hL C0 hAs hA hK hE (q := q) (r := r) (m0 := m0) hst hi6 (fun h g => hback h g hi6) hI hP hD hPm hDm hab hS hl
      · refine lv_tableIn (tgt := 273) (off := 240) hx hb dL_law_33 (by decide +kernel) (by decide +kernel) (by decide +kernel) (by decide +kernel) ?_
        exact law_case3 hL C0 hAs hA hK hE (q := q) (r := r) (m0 := m0) hst hi6 (fun h g => hback h g hi6) hI hP hD hPm hDm hab hS hl
      · refine lv_tableIn (tgt := 296) (off := 263) hx hb dL_law_33 (by decide +kernel) (by decide +kernel) (by decide +kernel) (by decide +kernel) ?_
        exact law_case4 hL C0 hAs hA hK hE (q := q) (r := r) (m0 := m0) hst hi6 (fun h g => hback h g hi6) hI hP hD hPm hDm hab hS hl
      · refine lv_tableIn (tgt := 339) (off := 306) hx hb dL_law_33 (by decide +kernel) (by decide +kernel) (by decide +kernel) (by decide +kernel) ?_
        exact law_case5 hL C0 hAs hA hK hE (q := q) (r := r) (m0 := m0) hst hi6 (fun h g => hback h g hi6) hI hP hD hPm hDm hab hS hl
      · refine lv_tableIn (tgt := 372) (off := 339) hx hb dL_law_33 (by decide +kernel) (by decide +kernel) (by decide +kernel) (by decide +kernel) ?_
        exact law_case6 hL C0 hAs hA hK hE (q := q) (r := r) (m0 := m0) hst hi6 (fun h g => hback h g hi6) hI hP hD hPm hDm hab hS hl
      · refine lv_tableIn (tgt := 395) (off := 362) hx hb dL_law_33 (by decide +kernel) (by decide +kernel) (by decide +kernel) (by decide +kernel) ?_
        exact law_case7 hL C0 hAs hA hK hE (q := q) (r := r) (m0 := m0) hst hi6 (fun h g => hback h g hi6) hI hP hD hPm hDm hab hS hl
      · refine lv_tableIn (tgt := 418) (off := 385) hx hb dL_law_33 (by decide +kernel) (by decide +kernel) (by decide +kernel) (by decide +kernel) ?_
        exact law_case8 hL C0 hAs hA hK hE (q := q) (r := r) (m0 := m0) hst hi6 (fun h g => hback h g hi6) hI hP hD hPm hDm hab hS hl
      · refine lv_tableIn (tgt := 441) (off := 408) hx hb dL_law_33 (by decide +kernel) (by decide +kernel) (by decide +kernel) (by decide +kernel) ?_
        exact law_case9 hL C0 hAs hA hK hE (q := q) (r := r) (m0 := m0) hst hi6 (fun h g => hback h g hi6) hI hP hD hPm hDm hab hS hl
      · refine lv_tableIn (tgt := 464) (off := 431) hx hb dL_law_33 (by decide +kernel) (by decide +kernel) (by decide +kernel) (by decide +kernel) ?_
        exact law_case10 hL C0 hAs hA hK hE (q := q) (r := r) (m0 := m0) hst hi6 (fun h g => hback h g hi6) hI hP hD hPm hDm hab hS hl
      · refine lv_tableIn (tgt := 527) (off := 494) hx hb dL_law_33 (by decide +kernel) (by decide +kernel) (by decide +kernel) (by decide +kernel) ?_
        exact law_case11 hL C0 hAs hA hK hE (q := q) (r := r) (m0 := m0) hst hi6 (fun h g => hback h g hi6) hI hP hD hPm hDm hab hS hl
      · refine lv_tableIn (tgt := 550) (off := 517) hx hb dL_law_33 (by decide +kernel) (by decide +kernel) (by decide +kernel) (by decide +kernel) ?_
        exact law_case12 hL C0 hAs hA hK hE (q := q) (r := r) (m0 := m0) hst hi6 (fun h g => hback h g hi6) hI hP hD hPm hDm hab hS hl
      · refine lv_tableIn (tgt := 563) (off := 530) hx hb dL_law_33 (by decide +kernel) (by decide +kernel) (by decide +kernel) (by decide +kernel) ?_
        exact law_case13 hL C0 hAs hA hK hE (q := q) (r := r) (m0 := m0) hst hi6 (fun h g => hback h g hi6) hI hP hD hPm hDm hab hS hl
      · refine lv_tableIn (tgt := 586) (off := 553) hx hb dL_law_33 (by decide +kernel) (by decide +kernel) (by decide +kernel) (by decide +kernel) ?_
        exact law_case14 hL C0 hAs hA hK hE (q := q) (r := r) (m0 := m0) hst hi6 (fun h g => hback h g hi6) hI hP hD hPm hDm hab hS hl
      · refine lv_tableIn (tgt := 609) (off := 576) hx hb dL_law_33 (by decide +kernel) (by decide +kernel) (by decide +kernel) (by decide +kernel) ?_
        exact law_case15 hL C0 hAs hA hK hE (q := q) (r := r) (m0 := m0) hst hi6 (fun h g => hback h g hi6) hI hP hD hPm hDm hab hS hl
      · refine lv_tableIn (tgt := 632) (off := 599) hx hb dL_law_33 (by decide +kernel) (by decide +kernel) (by decide +kernel) (by decide +kernel) ?_
        exact law_case16 hL C0 hAs hA hK hE (q := q) (r := r) (m0 := m0) hst hi6 (fun h g => hback h g hi6) hI hP hD hPm hDm hab hS hl
      · refine lv_tableIn (tgt := 645) (off := 612) hx hb dL_law_33 (by decide +kernel) (by decide +kernel) (by decide +kernel) (by decide +kernel) ?_
        exact law_case17 hL C0 hAs hA hK hE (q := q) (r := r) (m0 := m0) hst hi6 (fun h g => hback h g hi6) hI hP hD hPm hDm hab hS hl
      · refine lv_tableIn (tgt := 678) (off := 645) hx hb dL_law_33 (by decide +kernel) (by decide +kernel) (by decide +kernel) (by decide +kernel) ?_
        exact law_case18 hL C0 hAs hA hK hE (q := q) (r := r) (m0 := m0) hst hi6 (fun h g => hback h g hi6) hI hP hD hPm hDm hab hS hl
      · refine lv_tableIn (tgt := 721) (off := 688) hx hb dL_law_33 (by decide +kernel) (by decide +kernel) (by decide +kernel) (by decide +kernel) ?_
        exact law_case19 hL C0 hAs hA hK hE (q := q) (r := r) (m0 := m0) hst hi6 (fun h g => hback h g hi6) hI hP hD hPm hDm hab hS hl
      · refine lv_tableIn (tgt := 754) (off := 721) hx hb dL_law_33 (by decide +kernel) (by decide +kernel) (by decide +kernel) (by decide +kernel) ?_
        exact law_case20 hL C0 hAs hA hK hE (q := q) (r := r) (m0 := m0) hst hi6 (fun h g => hback h g hi6) hI hP hD hPm hDm hab hS hl
      · refine lv_tableIn (tgt := 803) (off := 770) hx hb dL_law_33 (by decide +kernel) (by decide +kernel) (by decide +kernel) (by decide +kernel) ?_
        exact law_case21 hL C0 hAs hA hK hE (q := q) (r := r) (m0 := m0) hst hi6 (fun h g => hback h g hi6) hI hP hD hPm hDm hab hS hl
      · refine lv_tableIn (tgt := 826) (off := 793) hx hb dL_law_33 (by decide +kernel) (by decide +kernel) (by decide +kernel) (by decide +kernel) ?_
        exact law_case22 hL C0 hAs hA hK hE (q := q) (r := r) (m0 := m0) hst hi6 (fun h g => hback h g hi6) hI hP hD hPm hDm hab hS hl
      · refine lv_tableIn (tgt := 849) (off := 816) hx hb dL_law_33 (by decide +kernel) (by decide +kernel) (by decide +kernel) (by decide +kernel) ?_
        exact law_case23 hL C0 hAs hA hK hE (q := q) (r := r) (m0 := m0) hst hi6 (fun h g => hback h g hi6) hI hP hD hPm hDm hab hS hl
      · refine lv_tableIn (tgt := 909) (off := 876) hx hb dL_law_33 (by decide +kernel) (by decide +kernel) (by decide +kernel) (by decide +kernel) ?_
        exact law_case24 hL C0 hAs hA hK hE (q := q) (r := r) (m0 := m0) hst hi6 (fun h g => hback h g hi6) hI hP hD hPm hDm hab hS hl
      · refine lv_tableIn (tgt := 952) (off := 919) hx hb dL_law_33 (by decide +kernel) (by decide +kernel) (by decide +kernel) (by decide +kernel) ?_
        exact law_case25 hL C0 hAs hA hK hE (q := q) (r := r) (m0 := m0) hst hi6 (fun h g => hback h g hi6) hI hP hD hPm hDm hab hS hl
      · refine lv_tableIn (tgt := 965) (off := 932) hx hb dL_law_33 (by decide +kernel) (by decide +kernel) (by decide +kernel) (by decide +kernel) ?_
        exact law_case26 hL C0 hAs hA hK hE (q := q) (r := r) (m0 := m0) hst hi6 (fun h g => hback h g hi6) hI hP hD hPm hDm hab hS hl
      · refine lv_tableIn (tgt := 978) (off := 945) hx hb dL_law_33 (by decide +kernel) (by decide +kernel) (by decide +kernel) (by decide +kernel) ?_
        exact law_case27 hL C0 hAs hA hK hE (q := q) (r := r) (m0 := m0) hst hi6 (fun h g => hback h g hi6) hI hP hD hPm hDm hab hS hl
      · refine lv_tableIn (tgt := 991) (off := 958) hx hb dL_law_33 (by decide +kernel) (by decide +kernel) (by decide +kernel) (by decide +kernel) ?_
        exact law_case28 hL C0 hAs hA hK hE (q := q) (r := r) (m0 := m0) hst hi6 (fun h g => hback h g hi6) hI hP hD hPm hDm hab hS hl
      · refine lv_tableOut (tgt := 1014) hx hb dL_law_33 (by decide +kernel) (by decide +kernel) ?_
        exact hback h g hi6 hI H _ ls hP hD hPm hDm hab hS hl
      · refine lv_tableOut (tgt := 1014) hx hb dL_law_33 (by decide +kernel) (by decide +kernel) ?_
        exact hback h g hi6 hI H _ ls hP hD hPm hDm hab hS hl
      · refine lv_tableOut (tgt := 1014) hx hb dL_law_33 (by decide +kernel) (by decide +kernel) ?_
        exact hback h g hi6 hI H _ ls hP hD hPm hDm hab hS hl
/-! an answer is there, and it keeps Q -/
def ok {α : Type} (x : Option α) (Q : α → Prop) : Prop := ∃ a, x = some a ∧ Q a
theorem ok_some {α : Type} {a : α} {Q : α → Prop} (h : Q a) : ok (some a) Q := ⟨a, rfl, h⟩
theorem ok_if {α : Type} {c : Prop} [Decidable c] {x y : Option α} {Q : α → Prop} (h1 : c → ok x Q) (h2 : ¬ c → ok y Q) : ok (if c then x else y) Q := by
  by_cases hc : c
  · rw [if_pos hc]; exact h1 hc
  · rw [if_neg hc]; exact h2 hc
theorem ok_chk {α : Type} {c : Prop} [Decidable c] {x : Option α} {Q : α → Prop} (hc : c) (h : ok x Q) : ok (if c then x else none) Q := by rw [if_pos hc]; exact h
theorem ok_ob2 {α β γ : Type} {x : Option (α × β)} {g : α → β → Option γ} {P : α × β → Prop} {Q : γ → Prop} (h : ok x P) (k : ∀ a b, P (a, b) → ok (g a b) Q) : ok (ob2 x g) Q := by
  obtain ⟨z, e, hz⟩ := h
  subst e
  exact k z.1 z.2 hz
theorem ok_ob1 {α γ : Type} {x : Option α} {g : α → Option γ} {P : α → Prop} {Q : γ → Prop} (h : ok x P) (k : ∀ a, P a → ok (g a) Q) : ok (ob1 x g) Q := by
  obtain ⟨z, e, hz⟩ := h
  subst e
  exact k z hz
theorem ok_mono {α : Type} {x : Option α} {P Q : α → Prop} (h : ok x P) (k : ∀ a, P a → Q a) : ok x Q := by
  obtain ⟨z, e, hz⟩ := h
  exact ⟨z, e, k z hz⟩
theorem fb_rng (x : Int32) : -2147483648 ≤ x.toInt ∧ x.toInt < 2147483648 := by
  have h1 := Int32.le_toInt x
  have h2 := Int32.toInt_lt x
  omega
theorem fb_bmod {z : Int} (h1 : -2147483648 ≤ z) (h2 : z < 2147483648) : z.bmod (2 ^ 32) = z := by
  rw [Int.bmod_eq_of_le (by omega) (by omega)]
theorem fb_addI {x y : Int32} (h1 : -2147483648 ≤ x.toInt + y.toInt) (h2 : x.toInt + y.toInt < 2147483648) : (x + y).toInt = x.toInt + y.toInt := by
  rw [Int32.toInt_add, fb_bmod h1 h2]
theorem fb_subI {x y : Int32} (h1 : -2147483648 ≤ x.toInt - y.toInt) (h2 : x.toInt - y.toInt < 2147483648) : (x - y).toInt = x.toInt - y.toInt := by
  rw [Int32.toInt_sub, fb_bmod h1 h2]
theorem fb_mulK {x y : Int32} {k : Int} (e : y.toInt = k) (h1 : -2147483648 ≤ x.toInt * k) (h2 : x.toInt * k < 2147483648) : (x * y).toInt = x.toInt * k := by
  rw [Int32.toInt_mul, e, fb_bmod h1 h2]
theorem fb_mulJ {x y : Int32} {k : Int} (e : x.toInt = k) (h1 : -2147483648 ≤ k * y.toInt) (h2 : k * y.toInt < 2147483648) : (x * y).toInt = k * y.toInt := by
  rw [Int32.toInt_mul, e, fb_bmod h1 h2]
theorem fb_divK {x y : Int32} {k : Int} (e : y.toInt = k) (hk : 1 < k) : (0 ≤ x.toInt → 0 ≤ (x / y).toInt ∧ (x / y).toInt * k ≤ x.toInt ∧ x.toInt < (x / y).toInt * k + k) ∧ (x.toInt < 0 → (x / y).toInt ≤ 0 ∧ x.toInt ≤ (x / y).toInt * k ∧ (x / y).toInt * k - k < x.toInt) := by
  have hr := fb_rng x
  have hd : (x / y).toInt = x.toInt.tdiv k := by
    rw [Int32.toInt_div_of_ne_right _ _ (by intro h; rw [h] at e; have : (-1 : Int32).toInt = -1 := rfl; omega), e]
  rw [hd]
  refine ⟨fun h0 => ?_, fun h0 => ?_⟩
  · rw [Int.tdiv_eq_ediv_of_nonneg h0]
    have a1 := Int.mul_ediv_self_le (x := x.toInt) (k := k) (by omega)
    have a2 := Int.lt_mul_ediv_self_add (x := x.toInt) (k := k) (by omega)
    have a3 : 0 ≤ x.toInt / k := Int.ediv_nonneg h0 (by omega)
    rw [Int.mul_comm] at a1 a2
    exact ⟨a3, a1, by omega⟩
  · have h1 : x.toInt = -(-x.toInt) := by omega
    rw [h1, Int.neg_tdiv, Int.tdiv_eq_ediv_of_nonneg (by omega)]
    have a1 := Int.mul_ediv_self_le (x := -x.toInt) (k := k) (by omega)
    have a2 := Int.lt_mul_ediv_self_add (x := -x.toInt) (k := k) (by omega)
    have a3 : 0 ≤ (-x.toInt) / k := Int.ediv_nonneg (by omega) (by omega)
    rw [Int.mul_comm] at a1 a2
    rw [Int.neg_mul]
    generalize (-x.toInt) / k * k = z at *
    exact ⟨by omega, by omega, by omega⟩
theorem fb_or4 {x y : Int32} (h1 : 0 ≤ x.toInt) (h2 : x.toInt < 16) (h3 : 0 ≤ y.toInt) (h4 : y.toInt < 16) : 0 ≤ (x ||| y).toInt ∧ (x ||| y).toInt < 16 := by
  have hx : x = Int32.ofInt x.toInt := (Int32.ofInt_toInt x).symm
  have hy : y = Int32.ofInt y.toInt := (Int32.ofInt_toInt y).symm
  generalize x.toInt = a at *
  generalize y.toInt = b at *
  subst hx
  subst hy
  obtain ⟨m, rfl⟩ := Int.eq_ofNat_of_zero_le h1
  obtain ⟨n, rfl⟩ := Int.eq_ofNat_of_zero_le h3
  have hm : m < 16 := by omega
  have hn : n < 16 := by omega
  have key : ∀ m : Fin 16, ∀ n : Fin 16, 0 ≤ (Int32.ofInt (m.val : Nat) ||| Int32.ofInt (n.val : Nat)).toInt ∧ (Int32.ofInt (m.val : Nat) ||| Int32.ofInt (n.val : Nat)).toInt < 16 := by decide +kernel
  exact key ⟨m, hm⟩ ⟨n, hn⟩
theorem fb_itel {x y a b : Int32} : (x.toInt < y.toInt ∧ (if x < y then a else b).toInt = a.toInt) ∨ (y.toInt ≤ x.toInt ∧ (if x < y then a else b).toInt = b.toInt) := by
  by_cases h : x < y
  · rw [if_pos h]; exact Or.inl ⟨Int32.lt_iff_toInt_lt.mp h, rfl⟩
  · rw [if_neg h]; exact Or.inr ⟨gi_of_nlt h, rfl⟩
theorem fb_lgz {x : Int64} (h : ¬ lg_cmp x 0 = 0) : ¬ x = 0 := by
  intro e
  subst e
  exact h (by decide)

def FC (f : Nat → Int32) : Prop := ∀ g : Nat, g < 10 → (f (9 * g + 1)).toInt ≤ 99
def FS (f : Nat → Int32) : Prop := ∀ s : Nat, s < 20 → ∀ g : Nat, g < 10 → (f (94 * s + 9 * g + 1)).toInt ≤ 99
def IN (h : HS) : Prop := (0 ≤ (eI h 1 3).toInt ∧ (eI h 1 3).toInt ≤ 10) ∧ (0 ≤ (eI h 1 4).toInt ∧ (eI h 1 4).toInt ≤ 4) ∧ (0 ≤ (eI h 2 3).toInt ∧ (eI h 2 3).toInt ≤ 10) ∧ (0 ≤ (eI h 2 4).toInt ∧ (eI h 2 4).toInt ≤ 4) ∧ (0 ≤ (eI h 3 1).toInt ∧ (eI h 3 1).toInt ≤ 300) ∧ (0 ≤ (eI h 4 3).toInt ∧ (eI h 4 3).toInt ≤ 301) ∧ (0 ≤ (eI h 4 4).toInt) ∧ ((eI h 8 11).toInt ≤ 4) ∧ (0 ≤ (eI h 8 8).toInt ∧ (eI h 8 8).toInt ≤ 3) ∧ (0 ≤ (eI h 9 5).toInt ∧ (eI h 9 5).toInt ≤ 300) ∧ (0 ≤ (eI h 10 5).toInt ∧ (eI h 10 5).toInt ≤ 300) ∧ (0 ≤ (eI h 11 5).toInt ∧ (eI h 11 5).toInt ≤ 300) ∧ (0 ≤ (eI h 12 5).toInt ∧ (eI h 12 5).toInt ≤ 300)
def IC (h : HS) : Prop := IN h ∧ FC (eA h 1 0) ∧ FS (eA h 1 2) ∧ FC (eA h 2 0) ∧ FS (eA h 2 2)
def SC (h c : HS) : Prop := IC c ∧ eI c 1 3 = eI h 1 3 ∧ eI c 1 4 = eI h 1 4 ∧ eI c 2 3 = eI h 2 3 ∧ eI c 2 4 = eI h 2 4
theorem SC_refl {h : HS} (i : IC h) : SC h h := ⟨i, rfl, rfl, rfl, rfl⟩
theorem SC_trans {a b c : HS} (x : SC a b) (y : SC b c) : SC a c := ⟨y.1, y.2.1.trans x.2.1, y.2.2.1.trans x.2.2.1, y.2.2.2.1.trans x.2.2.2.1, y.2.2.2.2.trans x.2.2.2.2⟩
theorem IC_n {h : HS} (i : IC h) : (0 ≤ (eI h 1 3).toInt ∧ (eI h 1 3).toInt ≤ 10) ∧ (0 ≤ (eI h 1 4).toInt ∧ (eI h 1 4).toInt ≤ 4) ∧ (0 ≤ (eI h 2 3).toInt ∧ (eI h 2 3).toInt ≤ 10) ∧ (0 ≤ (eI h 2 4).toInt ∧ (eI h 2 4).toInt ≤ 4) ∧ (0 ≤ (eI h 3 1).toInt ∧ (eI h 3 1).toInt ≤ 300) ∧ (0 ≤ (eI h 4 3).toInt ∧ (eI h 4 3).toInt ≤ 301) ∧ (0 ≤ (eI h 4 4).toInt) ∧ ((eI h 8 11).toInt ≤ 4) ∧ (0 ≤ (eI h 8 8).toInt ∧ (eI h 8 8).toInt ≤ 3) ∧ (0 ≤ (eI h 9 5).toInt ∧ (eI h 9 5).toInt ≤ 300) ∧ (0 ≤ (eI h 10 5).toInt ∧ (eI h 10 5).toInt ≤ 300) ∧ (0 ≤ (eI h 11 5).toInt ∧ (eI h 11 5).toInt ≤ 300) ∧ (0 ≤ (eI h 12 5).toInt ∧ (eI h 12 5).toInt ≤ 300) := i.1
theorem st_3_1 {h c : HS} {x : Int32} (s : SC h c) (h1 : 0 ≤ x.toInt) (h2 : x.toInt ≤ 300) : SC h (sI c 3 1 x) := by
  obtain ⟨⟨⟨n0, n1, n2, n3, n4, n5, n6, n7, n8, n9, n10, n11, n12⟩, r⟩, e⟩ := s
  exact ⟨⟨⟨n0, n1, n2, n3, ⟨h1, h2⟩, n5, n6, n7, n8, n9, n10, n11, n12⟩, r⟩, e⟩
theorem st_4_3 {h c : HS} {x : Int32} (s : SC h c) (h1 : 0 ≤ x.toInt) (h2 : x.toInt ≤ 301) : SC h (sI c 4 3 x) := by
  obtain ⟨⟨⟨n0, n1, n2, n3, n4, n5, n6, n7, n8, n9, n10, n11, n12⟩, r⟩, e⟩ := s
  exact ⟨⟨⟨n0, n1, n2, n3, n4, ⟨h1, h2⟩, n6, n7, n8, n9, n10, n11, n12⟩, r⟩, e⟩
theorem st_4_4 {h c : HS} {x : Int32} (s : SC h c) (h1 : 0 ≤ x.toInt) : SC h (sI c 4 4 x) := by
  obtain ⟨⟨⟨n0, n1, n2, n3, n4, n5, n6, n7, n8, n9, n10, n11, n12⟩, r⟩, e⟩ := s
  exact ⟨⟨⟨n0, n1, n2, n3, n4, n5, h1, n7, n8, n9, n10, n11, n12⟩, r⟩, e⟩
theorem st_8_11 {h c : HS} {x : Int32} (s : SC h c) (h2 : x.toInt ≤ 4) : SC h (sI c 8 11 x) := by
  obtain ⟨⟨⟨n0, n1, n2, n3, n4, n5, n6, n7, n8, n9, n10, n11, n12⟩, r⟩, e⟩ := s
  exact ⟨⟨⟨n0, n1, n2, n3, n4, n5, n6, h2, n8, n9, n10, n11, n12⟩, r⟩, e⟩
theorem st_8_8 {h c : HS} {x : Int32} (s : SC h c) (h1 : 0 ≤ x.toInt) (h2 : x.toInt ≤ 3) : SC h (sI c 8 8 x) := by
  obtain ⟨⟨⟨n0, n1, n2, n3, n4, n5, n6, n7, n8, n9, n10, n11, n12⟩, r⟩, e⟩ := s
  exact ⟨⟨⟨n0, n1, n2, n3, n4, n5, n6, n7, ⟨h1, h2⟩, n9, n10, n11, n12⟩, r⟩, e⟩
theorem st_9_5 {h c : HS} {x : Int32} (s : SC h c) (h1 : 0 ≤ x.toInt) (h2 : x.toInt ≤ 300) : SC h (sI c 9 5 x) := by
  obtain ⟨⟨⟨n0, n1, n2, n3, n4, n5, n6, n7, n8, n9, n10, n11, n12⟩, r⟩, e⟩ := s
  exact ⟨⟨⟨n0, n1, n2, n3, n4, n5, n6, n7, n8, ⟨h1, h2⟩, n10, n11, n12⟩, r⟩, e⟩
theorem st_10_5 {h c : HS} {x : Int32} (s : SC h c) (h1 : 0 ≤ x.toInt) (h2 : x.toInt ≤ 300) : SC h (sI c 10 5 x) := by
  obtain ⟨⟨⟨n0, n1, n2, n3, n4, n5, n6, n7, n8, n9, n10, n11, n12⟩, r⟩, e⟩ := s
  exact ⟨⟨⟨n0, n1, n2, n3, n4, n5, n6, n7, n8, n9, ⟨h1, h2⟩, n11, n12⟩, r⟩, e⟩
theorem st_11_5 {h c : HS} {x : Int32} (s : SC h c) (h1 : 0 ≤ x.toInt) (h2 : x.toInt ≤ 300) : SC h (sI c 11 5 x) := by
  obtain ⟨⟨⟨n0, n1, n2, n3, n4, n5, n6, n7, n8, n9, n10, n11, n12⟩, r⟩, e⟩ := s
  exact ⟨⟨⟨n0, n1, n2, n3, n4, n5, n6, n7, n8, n9, n10, ⟨h1, h2⟩, n12⟩, r⟩, e⟩
theorem st_12_5 {h c : HS} {x : Int32} (s : SC h c) (h1 : 0 ≤ x.toInt) (h2 : x.toInt ≤ 300) : SC h (sI c 12 5 x) := by
  obtain ⟨⟨⟨n0, n1, n2, n3, n4, n5, n6, n7, n8, n9, n10, n11, n12⟩, r⟩, e⟩ := s
  exact ⟨⟨⟨n0, n1, n2, n3, n4, n5, n6, n7, n8, n9, n10, n11, ⟨h1, h2⟩⟩, r⟩, e⟩
theorem sa_1_0 {h c : HS} {x : Nat → Int32} (s : SC h c) (f : FC x) : SC h (sA c 1 0 x) := by
  obtain ⟨⟨n, r1, r2, r3, r4⟩, e⟩ := s
  exact ⟨⟨n, f, r2, r3, r4⟩, e⟩
theorem sa_1_2 {h c : HS} {x : Nat → Int32} (s : SC h c) (f : FS x) : SC h (sA c 1 2 x) := by
  obtain ⟨⟨n, r1, r2, r3, r4⟩, e⟩ := s
  exact ⟨⟨n, r1, f, r3, r4⟩, e⟩
theorem u_X4_hasGoose (h : HS) (p1 : Int32) (hI : IC h) : ok (f_X4_hasGoose h p1) (fun a => a.2 = h ∧ (¬ a.1 = 0 → 0 ≤ p1.toInt ∧ p1.toInt < 10)) := by
  unfold f_X4_hasGoose
  have neg : ok (f_X4_hasGoose_22 h) (fun a => a.2 = h ∧ (¬ a.1 = 0 → 0 ≤ p1.toInt ∧ p1.toInt < 10)) := by
    unfold f_X4_hasGoose_22
    exact ok_chk (Or.inl rfl) (ok_some ⟨rfl, fun e => absurd rfl e⟩)
  refine ok_if (fun c1 => neg) (fun c1 => ?_)
  refine ok_if (fun c2 => neg) (fun c2 => ?_)
  refine ok_if (fun c3 => neg) (fun c3 => ?_)
  have d1 := gi_of_nlt c1; have d3 := gi_of_nle c3
  have z0 : (0 : Int32).toInt = 0 := rfl; have z10 : (10 : Int32).toInt = 10 := rfl
  exact ok_chk (Or.inr rfl) (ok_some ⟨rfl, fun _ => by omega⟩)
theorem u_X4_hasMarket (h : HS) (p1 : Int32) (hI : IC h) : ok (f_X4_hasMarket h p1) (fun a => a.2 = h ∧ (a.1 = 0 ∨ a.1 = 1)) := by
  unfold f_X4_hasMarket
  refine ok_if (fun c1 => ?_) (fun c1 => ?_)
  · unfold f_X4_hasMarket_21
    unfold f_X4_hasMarket_22
    refine ok_chk (Or.inl rfl) ?_
    exact ok_some ⟨rfl, (Or.inl rfl)⟩
  · refine ok_if (fun c3 => ?_) (fun c3 => ?_)
    · unfold f_X4_hasMarket_21
      unfold f_X4_hasMarket_22
      refine ok_chk (Or.inl rfl) ?_
      exact ok_some ⟨rfl, (Or.inl rfl)⟩
    · refine ok_if (fun c5 => ?_) (fun c5 => ?_)
      · unfold f_X4_hasMarket_21
        unfold f_X4_hasMarket_22
        refine ok_chk (Or.inl rfl) ?_
        exact ok_some ⟨rfl, (Or.inl rfl)⟩
      · unfold f_X4_hasMarket_22
        refine ok_chk (Or.inr rfl) ?_
        exact ok_some ⟨rfl, (Or.inr rfl)⟩
theorem u_X4_ofGoose (h : HS) (p1 p2 : Int32) (hI : IC h) : ok (f_X4_ofGoose h p1 p2) (fun a => a.2 = h ∧ (p2 = 1 → a.1.toInt ≤ 99)) := by
  have neg : ok (f_X4_ofGoose_28 h) (fun a => a.2 = h ∧ (p2 = 1 → a.1.toInt ≤ 99)) := by
    unfold f_X4_ofGoose_28
    exact ok_some ⟨rfl, fun _ => (by decide : (-1 : Int32).toInt ≤ 99)⟩
  unfold f_X4_ofGoose
  refine ok_if (fun c1 => neg) (fun c1 => ?_)
  refine ok_if (fun c2 => neg) (fun c2 => ?_)
  refine ok_if (fun c3 => neg) (fun c3 => ?_)
  refine ok_if (fun c4 => neg) (fun c4 => ?_)
  refine ok_if (fun c5 => ?_) (fun c5 => neg)
  have d1 := gi_of_nlt c1; have d3 := gi_of_nle c3; have d4 := gi_of_nlt c4; have d5 := gi_of_lt c5
  have z0 : (0 : Int32).toInt = 0 := rfl; have z9 : (9 : Int32).toInt = 9 := rfl; have z10 : (10 : Int32).toInt = 10 := rfl
  have e1 := fb_mulK (x := p1) (y := 9) (k := 9) rfl (by omega) (by omega)
  have e2 := fb_addI (x := (p1 * 9)) (y := p2) (by omega) (by omega)
  refine ok_chk (by omega) (ok_some ⟨rfl, fun e => ?_⟩)
  subst e
  have z1 : (1 : Int32).toInt = 1 := rfl
  have := hI.2.1 p1.toInt.toNat (by omega)
  have e3 : (p1 * 9 + 1).toNatClampNeg = 9 * p1.toInt.toNat + 1 := by rw [Int32.toNatClampNeg]; omega
  show (eA h 1 0 ((p1 * 9 + 1).toNatClampNeg)).toInt ≤ 99
  rw [e3]; exact this
theorem FC_upd {f : Nat → Int32} (hf : FC f) (i : Nat) (v : Int32) (hv : i % 9 = 1 → v.toInt ≤ 99) : FC (upd f i v) := by
  intro g hg
  unfold upd
  by_cases e : 9 * g + 1 = i
  · rw [if_pos e]; exact hv (by omega)
  · rw [if_neg e]; exact hf g hg
theorem u_X4_setGoose (h : HS) (p1 p2 p3 : Int32) (hI : IC h) (qv : p2 = 1 → p3.toInt ≤ 99) : ok (f_X4_setGoose h p1 p2 p3) (fun a => SC h a ∧ True) := by
  unfold f_X4_setGoose
  refine ok_ob2 (u_X4_hasGoose h p1 hI) (fun r1 h1 k1 => ?_)
  have e1 : h = h1 := k1.1.symm
  subst e1
  refine ok_if (fun c2 => ok_some ⟨SC_refl hI, trivial⟩) (fun c2 => ?_)
  refine ok_if (fun c3 => ok_some ⟨SC_refl hI, trivial⟩) (fun c3 => ?_)
  refine ok_if (fun c4 => ok_some ⟨SC_refl hI, trivial⟩) (fun c4 => ?_)
  have d3 := gi_of_nlt c3; have d4 := gi_of_nle c4
  have hg := k1.2 c2
  have z0 : (0 : Int32).toInt = 0 := rfl; have z9 : (9 : Int32).toInt = 9 := rfl
  have e1 := fb_mulK (x := p1) (y := 9) (k := 9) rfl (by omega) (by omega)
  have e2 := fb_addI (x := (p1 * 9)) (y := p2) (by omega) (by omega)
  refine ok_chk (by omega) ?_
  refine ok_some ⟨sa_1_0 (SC_refl hI) (FC_upd hI.2.1 _ _ (fun hm => qv ?_)), trivial⟩
  have e3 : (p1 * 9 + p2).toNatClampNeg = (p1.toInt * 9 + p2.toInt).toNat := by rw [Int32.toNatClampNeg]; omega
  rw [e3] at hm
  have : p2.toInt = 1 := by omega
  exact Int32.toInt_inj.mp (this.trans (by decide))
theorem u_X4_ofMarket (h : HS) (p1 : Int32) (p2 : Int32) (hI : IC h) : ok (f_X4_ofMarket h p1 p2) (fun a => a.2 = h ∧ True) := by
  unfold f_X4_ofMarket
  refine ok_if (fun c1 => ?_) (fun c1 => ?_)
  · unfold f_X4_ofMarket_26
    exact ok_some ⟨rfl, trivial⟩
  · refine ok_if (fun c2 => ?_) (fun c2 => ?_)
    · unfold f_X4_ofMarket_26
      exact ok_some ⟨rfl, trivial⟩
    · refine ok_if (fun c3 => ?_) (fun c3 => ?_)
      · unfold f_X4_ofMarket_26
        exact ok_some ⟨rfl, trivial⟩
      · refine ok_if (fun c4 => ?_) (fun c4 => ?_)
        · unfold f_X4_ofMarket_26
          exact ok_some ⟨rfl, trivial⟩
        · refine ok_if (fun c5 => ?_) (fun c5 => ?_)
          · refine ok_chk (by have := IC_n (SC_refl hI).1; have := gi_of_nlt c1; have := gi_of_nle c2; have := gi_of_nle c3; have := gi_of_nlt c4; have := gi_of_lt c5; have : (0 : Int32).toInt = 0 := rfl; have : (3 : Int32).toInt = 3 := rfl; have : (4 : Int32).toInt = 4 := rfl; have := fb_rng (p1); have := fb_rng (eI h 1 4); have := fb_rng (p2); (try have := fb_mulK (x := p1) (y := 3) (k := 3) rfl (by omega) (by omega)); (try have := fb_addI (x := (p1 * 3)) (y := p2) (by omega) (by omega)); omega) ?_
            exact ok_some ⟨rfl, trivial⟩
          · unfold f_X4_ofMarket_26
            exact ok_some ⟨rfl, trivial⟩
theorem ok_ob2e {α β γ : Type} {x : Option (α × β)} {g : α → β → Option γ} {Q : γ → Prop} {a : α} {b : β} (e : x = some (a, b)) (k : ok (g a b) Q) : ok (ob2 x g) Q := by
  subst e
  exact k
theorem u_X4_addMarket (h : HS) (p1 p2 p3 : Int32) (hI : IC h) : ok (f_X4_addMarket h p1 p2 p3) (fun a => IC a.2 ∧ eI a.2 2 4 = eI h 2 4 ∧ eI a.2 1 3 = eI h 1 3 ∧ eI a.2 2 3 = eI h 2 3 ∧ ((a.1 = -1 ∧ ¬ (eI h 1 4) < 4 ∧ eI a.2 1 4 = eI h 1 4) ∨ (a.1 = eI h 1 4 ∧ (eI h 1 4) < 4 ∧ eI a.2 1 4 = eI h 1 4 + 1))) := by
  unfold f_X4_addMarket
  have hn := IC_n hI
  have z0 : (0 : Int32).toInt = 0 := rfl; have z1 : (1 : Int32).toInt = 1 := rfl; have z2 : (2 : Int32).toInt = 2 := rfl; have z4 : (4 : Int32).toInt = 4 := rfl
  refine ok_if (fun c => ?_) (fun c => ok_some ⟨hI, rfl, rfl, rfl, Or.inl ⟨rfl, c, rfl⟩⟩)
  have d := gi_of_lt c
  have e0 := fb_mulK (x := eI h 1 4) (y := 3) (k := 3) rfl (by omega) (by omega)
  have e1 := fb_addI (x := (eI h 1 4 * 3)) (y := 0) (by omega) (by omega)
  have e2 := fb_addI (x := (eI h 1 4 * 3)) (y := 1) (by omega) (by omega)
  have e3 := fb_addI (x := (eI h 1 4 * 3)) (y := 2) (by omega) (by omega)
  have e4 := fb_addI (x := (eI h 1 4)) (y := 1) (by omega) (by omega)
  refine ok_chk (by omega) (ok_chk (by omega) (ok_chk (by omega) ?_))
  refine ok_some ⟨?_, rfl, rfl, rfl, Or.inr ⟨?_, c, rfl⟩⟩
  · obtain ⟨⟨n0, n1, n2, n3, n4, n5, n6, n7, n8, n9, n10, n11, n12⟩, r1, r2, r3, r4⟩ := hI
    exact ⟨⟨n0, ⟨(by show 0 ≤ (eI h 1 4 + 1).toInt; omega), (by show (eI h 1 4 + 1).toInt ≤ 4; omega)⟩, n2, n3, n4, n5, n6, n7, n8, n9, n10, n11, n12⟩, r1, r2, r3, r4⟩
  · apply gi_eq
    show ((eI h 1 4 + 1) - 1).toInt = _
    rw [fb_subI (by omega) (by omega), e4]; omega
theorem u_X4_addGoose (h : HS) (p1 p2 : Int32) (hI : IC h) (q : p2.toInt ≤ 99) : ok (f_X4_addGoose h p1 p2) (fun a => IC a.2 ∧ eI a.2 2 4 = eI h 2 4 ∧ eI a.2 1 4 = eI h 1 4 ∧ eI a.2 2 3 = eI h 2 3 ∧ ((a.1 = -1 ∧ ¬ (eI h 1 3) < 10 ∧ eI a.2 1 3 = eI h 1 3) ∨ (a.1 = eI h 1 3 ∧ (eI h 1 3) < 10 ∧ eI a.2 1 3 = eI h 1 3 + 1))) := by
  unfold f_X4_addGoose
  have hn := IC_n hI
  have z1 : (1 : Int32).toInt = 1 := rfl; have z10 : (10 : Int32).toInt = 10 := rfl
  refine ok_if (fun c => ?_) (fun c => ok_some ⟨hI, rfl, rfl, rfl, Or.inl ⟨rfl, c, rfl⟩⟩)
  have d := gi_of_lt c
  have e4 := fb_addI (x := (eI h 1 3)) (y := 1) (by omega) (by omega)
  have i1 : IC (sI h 1 3 (eI h 1 3 + 1)) := by
    obtain ⟨⟨n0, n1, n2, n3, n4, n5, n6, n7, n8, n9, n10, n11, n12⟩, r1, r2, r3, r4⟩ := hI
    exact ⟨⟨⟨(by show 0 ≤ (eI h 1 3 + 1).toInt; omega), (by show (eI h 1 3 + 1).toInt ≤ 10; omega)⟩, n1, n2, n3, n4, n5, n6, n7, n8, n9, n10, n11, n12⟩, r1, r2, r3, r4⟩
  refine ok_ob1 (u_X4_setGoose _ (eI h 1 3) 0 p1 i1 (fun e => absurd e (by decide))) (fun h2 k2 => ?_)
  refine ok_ob1 (u_X4_setGoose _ (eI h 1 3) 1 p2 k2.1.1 (fun e => q)) (fun h3 k3 => ?_)
  have s3 := SC_trans k2.1 k3.1
  refine ok_ob1 (u_X4_setGoose _ (eI h 1 3) 2 (-1) s3.1 (fun e => absurd e (by decide))) (fun h4 k4 => ?_)
  have s4 := SC_trans s3 k4.1
  refine ok_ob1 (u_X4_setGoose _ (eI h 1 3) 3 (-1) s4.1 (fun e => absurd e (by decide))) (fun h5 k5 => ?_)
  have s5 := SC_trans s4 k5.1
  refine ok_ob1 (u_X4_setGoose _ (eI h 1 3) 4 0 s5.1 (fun e => absurd e (by decide))) (fun h6 k6 => ?_)
  have s6 := SC_trans s5 k6.1
  refine ok_ob1 (u_X4_setGoose _ (eI h 1 3) 5 (-1) s6.1 (fun e => absurd e (by decide))) (fun h7 k7 => ?_)
  have s7 := SC_trans s6 k7.1
  refine ok_ob1 (u_X4_setGoose _ (eI h 1 3) 6 (-1) s7.1 (fun e => absurd e (by decide))) (fun h8 k8 => ?_)
  have s8 := SC_trans s7 k8.1
  refine ok_ob1 (u_X4_setGoose _ (eI h 1 3) 7 (-1) s8.1 (fun e => absurd e (by decide))) (fun h9 k9 => ?_)
  have s9 := SC_trans s8 k9.1
  refine ok_ob1 (u_X4_setGoose _ (eI h 1 3) 8 0 s9.1 (fun e => absurd e (by decide))) (fun h10 k10 => ?_)
  have s10 := SC_trans s9 k10.1
  exact ok_some ⟨s10.1, s10.2.2.2.2, s10.2.2.1, s10.2.2.2.1, Or.inr ⟨rfl, c, s10.2.1⟩⟩
theorem u_X4_isHome (h : HS) (p1 : Int32) (hI : IC h) : ok (f_X4_isHome h p1) (fun a => a.2 = h ∧ (a.1 = 0 ∨ a.1 = 1)) := by
  unfold f_X4_isHome
  refine ok_ob2 (u_X4_ofGoose h p1 4 ((SC_refl hI)).1) (fun r1 h1 k1 => ?_)
  have e1 : h = h1 := k1.1.symm
  subst e1
  refine ok_if (fun c2 => ?_) (fun c2 => ?_)
  · unfold f_X4_isHome_14
    refine ok_chk (Or.inr rfl) ?_
    exact ok_some ⟨rfl, (Or.inr rfl)⟩
  · unfold f_X4_isHome_14
    refine ok_chk (Or.inl rfl) ?_
    exact ok_some ⟨rfl, (Or.inl rfl)⟩
theorem u_X4_isFree (h : HS) (p1 : Int32) (hI : IC h) : ok (f_X4_isFree h p1) (fun a => a.2 = h ∧ (a.1 = 0 ∨ a.1 = 1)) := by
  unfold f_X4_isFree
  refine ok_ob2 (u_X4_isHome h p1 ((SC_refl hI)).1) (fun r1 h1 k1 => ?_)
  have e1 : h = h1 := k1.1.symm
  subst e1
  refine ok_if (fun c2 => ?_) (fun c2 => ?_)
  · unfold f_X4_isFree_22
    unfold f_X4_isFree_23
    refine ok_chk (Or.inl rfl) ?_
    exact ok_some ⟨rfl, (Or.inl rfl)⟩
  · refine ok_ob2 (u_X4_ofGoose h p1 8 ((SC_refl hI)).1) (fun r4 h4 k4 => ?_)
    have e4 : h = h4 := k4.1.symm
    subst e4
    refine ok_if (fun c5 => ?_) (fun c5 => ?_)
    · unfold f_X4_isFree_23
      refine ok_chk (Or.inr rfl) ?_
      exact ok_some ⟨rfl, (Or.inr rfl)⟩
    · unfold f_X4_isFree_22
      unfold f_X4_isFree_23
      refine ok_chk (Or.inl rfl) ?_
      exact ok_some ⟨rfl, (Or.inl rfl)⟩
theorem u_X4_settle (h : HS) (p1 : Int32) (p2 : Int32) (hI : IC h) : ok (f_X4_settle h p1 p2) (fun a => SC h a ∧ True) := by
  unfold f_X4_settle
  refine ok_ob1 (u_X4_setGoose h p1 4 p2 ((SC_refl hI)).1 (fun e => absurd e (by decide))) (fun h1 k1 => ?_)
  have s1 : SC h h1 := SC_trans (b := h) (SC_refl hI) k1.1
  refine ok_ob1 (u_X4_setGoose h1 p1 7 (eI h1 1 7) (s1).1 (fun e => absurd e (by decide))) (fun h2 k2 => ?_)
  have s2 : SC h h2 := SC_trans (b := h1) s1 k2.1
  exact ok_some ⟨s2, trivial⟩
theorem u_X4_countFate_4 (h : HS) (x1 : Int32) (hI : IC h) : ∀ (n : Nat) (x2 : Int32) (x3 : Int32), 0 < n → (10 - (x3).toInt : Int) < (n : Int) → ok (f_X4_countFate_4  n h x1 x2 x3) (fun a => a.2 = h ∧ True) := by
  intro n
  induction n with
  | zero =>
    intro x2 x3 hn hm
    exact absurd hn (by decide)
  | succ n ih_X4_countFate_4 =>
    intro x2 x3 hn hm
    rw [f_X4_countFate_4_s]
    refine ok_if (fun c1 => ?_) (fun c1 => ?_)
    · exact ok_some ⟨rfl, trivial⟩
    · refine ok_ob2 (u_X4_ofGoose h x3 4 ((SC_refl hI)).1) (fun r2 h2 k2 => ?_)
      have e2 : h = h2 := k2.1.symm
      subst e2
      refine ok_if (fun c3 => ?_) (fun c3 => ?_)
      · unfold f_X4_countFate_25
        exact ih_X4_countFate_4 (x2 + 1) (x3 + 1) (by have := IC_n (SC_refl hI).1; have := hm; have := gi_of_nle c1; have : (1 : Int32).toInt = 1 := rfl; have := fb_rng (eI h 1 3); have := fb_rng (x3); (try have := fb_addI (x := x3) (y := 1) (by omega) (by omega)); omega) (by have := IC_n (SC_refl hI).1; have := hm; have := gi_of_nle c1; have : (1 : Int32).toInt = 1 := rfl; have := fb_rng (eI h 1 3); have := fb_rng (x3); (try have := fb_addI (x := x3) (y := 1) (by omega) (by omega)); omega)
      · unfold f_X4_countFate_25
        exact ih_X4_countFate_4 x2 (x3 + 1) (by have := IC_n (SC_refl hI).1; have := hm; have := gi_of_nle c1; have : (1 : Int32).toInt = 1 := rfl; have := fb_rng (eI h 1 3); have := fb_rng (x3); (try have := fb_addI (x := x3) (y := 1) (by omega) (by omega)); omega) (by have := IC_n (SC_refl hI).1; have := hm; have := gi_of_nle c1; have : (1 : Int32).toInt = 1 := rfl; have := fb_rng (eI h 1 3); have := fb_rng (x3); (try have := fb_addI (x := x3) (y := 1) (by omega) (by omega)); omega)
theorem u_X4_countFate (h : HS) (p1 : Int32) (hI : IC h) : ok (f_X4_countFate h p1) (fun a => a.2 = h ∧ True) := by
  unfold f_X4_countFate
  exact u_X4_countFate_4 h p1 ((SC_refl hI)).1 8589934592 0 0 (by decide) (by have : (0 : Int32).toInt = 0 := rfl; omega)
theorem u_X4_dailyNeed (h : HS) (hI : IC h) : ok (f_X4_dailyNeed h) (fun a => a.2 = h ∧ True) := by
  unfold f_X4_dailyNeed
  refine ok_ob2 (u_X4_countFate h 0 ((SC_refl hI)).1) (fun r1 h1 k1 => ?_)
  have e1 : h = h1 := k1.1.symm
  subst e1
  exact ok_some ⟨rfl, trivial⟩
theorem u_X4_eatDaily_31 {h0 : HS} : ∀ (n : Nat) (h : HS) (x2 : Int32), SC h0 h → 0 < n → (10 - (x2).toInt : Int) < (n : Int) → ok (f_X4_eatDaily_31  n h x2) (fun a => SC h0 a ∧ True) := by
  intro n
  induction n with
  | zero =>
    intro h x2 hSC hn hm
    exact absurd hn (by decide)
  | succ n ih_X4_eatDaily_31 =>
    intro h x2 hSC hn hm
    rw [f_X4_eatDaily_31_s]
    refine ok_if (fun c1 => ?_) (fun c1 => ?_)
    · exact ok_some ⟨hSC, trivial⟩
    · refine ok_ob2 (u_X4_isFree h x2 (hSC).1) (fun r2 h2 k2 => ?_)
      have e2 : h = h2 := k2.1.symm
      subst e2
      refine ok_if (fun c3 => ?_) (fun c3 => ?_)
      · exact ih_X4_eatDaily_31 h (x2 + 1) hSC (by have := IC_n hSC.1; have := hm; have := gi_of_nle c1; have : (1 : Int32).toInt = 1 := rfl; have := fb_rng (eI h 1 3); have := fb_rng (x2); (try have := fb_addI (x := x2) (y := 1) (by omega) (by omega)); omega) (by have := IC_n hSC.1; have := hm; have := gi_of_nle c1; have : (1 : Int32).toInt = 1 := rfl; have := fb_rng (eI h 1 3); have := fb_rng (x2); (try have := fb_addI (x := x2) (y := 1) (by omega) (by omega)); omega)
      · refine ok_ob1 (u_X4_settle h x2 5 (hSC).1) (fun h4 k4 => ?_)
        have s4 : SC h0 h4 := SC_trans (b := h) hSC k4.1
        refine ok_ob2 (u_X4_ofGoose h4 x2 0 (s4).1) (fun r5 h5 k5 => ?_)
        have e5 : h4 = h5 := k5.1.symm
        subst e5
        exact ok_some ⟨s4, trivial⟩
theorem u_X4_eatDaily (h : HS) (hI : IC h) : ok (f_X4_eatDaily h) (fun a => SC h a ∧ True) := by
  unfold f_X4_eatDaily
  refine ok_ob2 (u_X4_dailyNeed h ((SC_refl hI)).1) (fun r1 h1 k1 => ?_)
  have e1 : h = h1 := k1.1.symm
  subst e1
  refine ok_if (fun c2 => ?_) (fun c2 => ?_)
  · exact u_X4_eatDaily_31 (h0 := h) 8589934592 (sI h 1 5 0) 0 (SC_refl hI) (by decide) (by have : (0 : Int32).toInt = 0 := rfl; omega)
  · exact ok_some ⟨(SC_refl hI), trivial⟩
theorem u_X4_draw (h : HS) (hI : IC h) : ok (f_X4_draw h) (fun a => SC h a.2 ∧ True) := by
  unfold f_X4_draw
  exact ok_some ⟨(SC_refl hI), trivial⟩
theorem FS_keep {C S : Nat → Int32} (hC : FC C) (hS : FS S) {k b i0 i1 i2 i3 : Nat} (hb : b = 94 * k) (h0 : i0 = b + 90) (h1 : i1 = b + 91) (h2 : i2 = b + 92) (h3 : i3 = b + 93) (v0 v1 v2 v3 : Int32) : FS (upd (upd (upd (upd (va_cpy C S 0 b 90) i0 v0) i1 v1) i2 v2) i3 v3) := by
  intro s hs g hg
  unfold upd va_cpy
  rw [if_neg (by omega), if_neg (by omega), if_neg (by omega), if_neg (by omega)]
  by_cases e : b ≤ 94 * s + 9 * g + 1 ∧ 94 * s + 9 * g + 1 < b + 90
  · rw [if_pos e]
    have : 0 + (94 * s + 9 * g + 1 - b) = 9 * g + 1 := by omega
    rw [this]; exact hC g hg
  · rw [if_neg e]; exact hS s hs g hg
theorem fb_mod20 (y : Int32) : -19 ≤ (y - y / 20 * 20).toInt ∧ (y - y / 20 * 20).toInt ≤ 19 := by
  have r := fb_rng y
  have q := fb_divK (x := y) (y := 20) (k := 20) rfl (by decide)
  have m1 : (y / 20 * 20).toInt = (y / 20).toInt * 20 := fb_mulK rfl (by omega) (by omega)
  have m2 : (y - y / 20 * 20).toInt = y.toInt - (y / 20 * 20).toInt := fb_subI (by omega) (by omega)
  omega
theorem u_X4_keepStep_35 (h : HS) (hI : IC h) : ok (f_X4_keepStep_35 h) (fun a => SC h a ∧ eA a 1 0 = eA h 1 0) := by
  unfold f_X4_keepStep_35 f_X4_keepStep_69
  have rk := fb_mod20 ((eI h 1 11 + eI h 1 12) - 1)
  generalize (((eI h 1 11 + eI h 1 12) - 1) - ((eI h 1 11 + eI h 1 12) - 1) / 20 * 20) = k at *
  have m3 : (k * 94).toInt = k.toInt * 94 := fb_mulK rfl (by omega) (by omega)
  have z0 : (0 : Int32).toInt = 0 := rfl; have z1 : (1 : Int32).toInt = 1 := rfl; have z2 : (2 : Int32).toInt = 2 := rfl; have z3 : (3 : Int32).toInt = 3 := rfl; have z90 : (90 : Int32).toInt = 90 := rfl
  refine ok_if (fun c => ok_some ⟨SC_refl hI, rfl⟩) (fun c1 => ?_)
  refine ok_if (fun c2 => ?_) (fun c => ok_some ⟨SC_refl hI, rfl⟩)
  have d1 := gi_of_nlt c1
  have a0 := fb_addI (x := k * 94) (y := 90) (by omega) (by omega)
  have a1 := fb_addI (x := k * 94 + 90) (y := 1) (by omega) (by omega)
  have a2 := fb_addI (x := k * 94 + 90) (y := 2) (by omega) (by omega)
  have a3 := fb_addI (x := k * 94 + 90) (y := 3) (by omega) (by omega)
  have b0 : (k * 94).toNatClampNeg = 94 * k.toInt.toNat := by rw [Int32.toNatClampNeg]; omega
  have b1 : (k * 94 + 90).toNatClampNeg = 94 * k.toInt.toNat + 90 := by rw [Int32.toNatClampNeg]; omega
  have b2 : (k * 94 + 90 + 1).toNatClampNeg = 94 * k.toInt.toNat + 91 := by rw [Int32.toNatClampNeg]; omega
  have b3 : (k * 94 + 90 + 2).toNatClampNeg = 94 * k.toInt.toNat + 92 := by rw [Int32.toNatClampNeg]; omega
  have b4 : (k * 94 + 90 + 3).toNatClampNeg = 94 * k.toInt.toNat + 93 := by rw [Int32.toNatClampNeg]; omega
  refine ok_chk c1 (ok_chk (by omega) (ok_chk (by omega) (ok_chk (by omega) (ok_chk (by omega) (ok_chk (by omega) ?_)))))
  obtain ⟨n, r1, r2, r3, r4⟩ := hI
  refine ok_some ⟨⟨⟨n, r1, ?_, r3, r4⟩, rfl, rfl, rfl, rfl⟩, rfl⟩
  exact FS_keep (k := k.toInt.toNat) r1 r2 b0 (by omega) (by omega) (by omega) (by omega) _ _ _ _
theorem u_X4_keepStep (h : HS) (hI : IC h) : ok (f_X4_keepStep h) (fun a => SC h a ∧ eA a 1 0 = eA h 1 0) := by
  unfold f_X4_keepStep
  refine ok_if (fun c => ?_) (fun c => ?_)
  · exact ok_mono (u_X4_keepStep_35 (sI h 1 11 _) (SC_refl hI).1) (fun a k => k)
  · exact ok_mono (u_X4_keepStep_35 (sI h 1 12 _) (SC_refl hI).1) (fun a k => k)
theorem FC_back {C S : Nat → Int32} (hC : FC C) (hS : FS S) {k b n : Nat} (hb : b = 94 * k) (hk : k < 20) : FC (va_cpy S C b 0 n) := by
  intro g hg
  unfold va_cpy
  by_cases e : 0 ≤ 9 * g + 1 ∧ 9 * g + 1 < 0 + n
  · rw [if_pos e]
    have : b + (9 * g + 1 - 0) = 94 * k + 9 * g + 1 := by omega
    rw [this]; exact hS k hk g hg
  · rw [if_neg e]; exact hC g hg
theorem fb_mid {x : Int32} : ¬ (if (if 0 < x then x else 0) < 90 then (if 0 < x then x else 0) else 90 : Int32) < 0 ∧ (if (if 0 < x then x else 0) < 90 then (if 0 < x then x else 0) else 90 : Int32).toNatClampNeg ≤ 90 := by
  have z0 : (0 : Int32).toInt = 0 := rfl; have z90 : (90 : Int32).toInt = 90 := rfl
  have a := fb_itel (x := 0) (y := x) (a := x) (b := 0)
  have b := fb_itel (x := (if 0 < x then x else 0)) (y := 90) (a := (if 0 < x then x else 0)) (b := 90)
  refine ⟨gi_nlt (by omega), ?_⟩
  rw [Int32.toNatClampNeg]; omega
theorem u_X4_takeStepBack (h : HS) (hI : IC h) : ok (f_X4_takeStepBack h) (fun a => SC h a.2 ∧ (a.1 = 0 ∨ a.1 = 1)) := by
  unfold f_X4_takeStepBack f_X4_takeStepBack_42
  have rk := fb_mod20 ((eI h 1 11 + eI h 1 12) - 1)
  generalize (((eI h 1 11 + eI h 1 12) - 1) - ((eI h 1 11 + eI h 1 12) - 1) / 20 * 20) = k at *
  have m3 : (k * 94).toInt = k.toInt * 94 := fb_mulK rfl (by omega) (by omega)
  have z0 : (0 : Int32).toInt = 0 := rfl; have z1 : (1 : Int32).toInt = 1 := rfl; have z2 : (2 : Int32).toInt = 2 := rfl; have z3 : (3 : Int32).toInt = 3 := rfl; have z90 : (90 : Int32).toInt = 90 := rfl
  refine ok_if (fun c => ok_some ⟨SC_refl hI, Or.inl rfl⟩) (fun c0 => ?_)
  refine ok_if (fun c => ok_some ⟨SC_refl hI, Or.inl rfl⟩) (fun c1 => ?_)
  refine ok_if (fun c2 => ?_) (fun c => ok_some ⟨SC_refl hI, Or.inl rfl⟩)
  have d1 := gi_of_nlt c1
  have a0 := fb_addI (x := k * 94) (y := 90) (by omega) (by omega)
  have a1 := fb_addI (x := k * 94 + 90) (y := 1) (by omega) (by omega)
  have a2 := fb_addI (x := k * 94 + 90) (y := 2) (by omega) (by omega)
  have a3 := fb_addI (x := k * 94 + 90) (y := 3) (by omega) (by omega)
  have b0 : (k * 94).toNatClampNeg = 94 * k.toInt.toNat := by rw [Int32.toNatClampNeg]; omega
  have md := fb_mid (x := (eA h 1 2 ((k * 94 + 90).toNatClampNeg)) * 9)
  generalize (if (if 0 < (eA h 1 2 ((k * 94 + 90).toNatClampNeg)) * 9 then (eA h 1 2 ((k * 94 + 90).toNatClampNeg)) * 9 else 0) < 90 then (if 0 < (eA h 1 2 ((k * 94 + 90).toNatClampNeg)) * 9 then (eA h 1 2 ((k * 94 + 90).toNatClampNeg)) * 9 else 0) else 90 : Int32) = w at *
  refine ok_chk (by omega) (ok_chk c1 (ok_chk md.1 (ok_chk (by omega) (ok_chk (by omega) (ok_chk (by omega) (ok_chk (by omega) (ok_chk (by omega) ?_)))))))
  obtain ⟨n, r1, r2, r3, r4⟩ := hI
  refine ok_some ⟨⟨⟨n, ?_, r2, r3, r4⟩, rfl, rfl, rfl, rfl⟩, Or.inr rfl⟩
  exact FC_back (k := k.toInt.toNat) r1 r2 b0 (by omega)
theorem FC_cp {C D : Nat → Int32} (hC : FC C) : FC (va_cpy C D 0 0 90) := by
  intro g hg
  unfold va_cpy
  rw [if_pos (by omega)]
  have : 0 + (9 * g + 1 - 0) = 9 * g + 1 := by omega
  rw [this]; exact hC g hg
theorem FS_cp {C D : Nat → Int32} (hC : FS C) : FS (va_cpy C D 0 0 1880) := by
  intro s hs g hg
  unfold va_cpy
  rw [if_pos (by omega)]
  have : 0 + (94 * s + 9 * g + 1 - 0) = 94 * s + 9 * g + 1 := by omega
  rw [this]; exact hC s hs g hg
theorem u_X4_copyFrom_i (h : HS) (hI : IC h) : ok (f_X4_copyFrom_i h) (fun a => IC a ∧ eI a 1 3 = eI h 1 3 ∧ eI a 1 4 = eI h 1 4 ∧ eI a 2 3 = eI h 1 3 ∧ eI a 2 4 = eI h 1 4) := by
  obtain ⟨⟨n0, n1, n2, n3, n4, n5, n6, n7, n8, n9, n10, n11, n12⟩, r1, r2, r3, r4⟩ := hI
  unfold f_X4_copyFrom_i
  exact ok_some ⟨⟨⟨n0, n1, n0, n1, n4, n5, n6, n7, n8, n9, n10, n11, n12⟩, r1, r2, FC_cp r1, FS_cp r2⟩, rfl, rfl, rfl, rfl⟩
theorem u_X4_copyFrom_b (h : HS) (hI : IC h) : ok (f_X4_copyFrom_b h) (fun a => IC a ∧ eI a 1 3 = eI h 2 3 ∧ eI a 1 4 = eI h 2 4 ∧ eI a 2 3 = eI h 2 3 ∧ eI a 2 4 = eI h 2 4) := by
  obtain ⟨⟨n0, n1, n2, n3, n4, n5, n6, n7, n8, n9, n10, n11, n12⟩, r1, r2, r3, r4⟩ := hI
  unfold f_X4_copyFrom_b
  exact ok_some ⟨⟨⟨n2, n3, n2, n3, n4, n5, n6, n7, n8, n9, n10, n11, n12⟩, FC_cp r3, FS_cp r4, r3, r4⟩, rfl, rfl, rfl, rfl⟩
theorem u_X8_isDigit (p1 : Int32) : ok (f_X8_isDigit p1) (fun a => (a = 0 ∨ a = 1)) := by
  unfold f_X8_isDigit
  refine ok_if (fun c1 => ?_) (fun c1 => ?_)
  · unfold f_X8_isDigit_14
    unfold f_X8_isDigit_15
    refine ok_chk (Or.inl rfl) ?_
    exact ok_some (Or.inl rfl)
  · refine ok_if (fun c3 => ?_) (fun c3 => ?_)
    · unfold f_X8_isDigit_14
      unfold f_X8_isDigit_15
      refine ok_chk (Or.inl rfl) ?_
      exact ok_some (Or.inl rfl)
    · unfold f_X8_isDigit_15
      refine ok_chk (Or.inr rfl) ?_
      exact ok_some (Or.inr rfl)
theorem u_X8_isLetter (p1 : Int32) : ok (f_X8_isLetter p1) (fun a => (a = 0 ∨ a = 1)) := by
  unfold f_X8_isLetter
  refine ok_if (fun c1 => ?_) (fun c1 => ?_)
  · unfold f_X8_isLetter_14
    unfold f_X8_isLetter_15
    refine ok_chk (Or.inl rfl) ?_
    exact ok_some (Or.inl rfl)
  · refine ok_if (fun c3 => ?_) (fun c3 => ?_)
    · unfold f_X8_isLetter_14
      unfold f_X8_isLetter_15
      refine ok_chk (Or.inl rfl) ?_
      exact ok_some (Or.inl rfl)
    · unfold f_X8_isLetter_15
      refine ok_chk (Or.inr rfl) ?_
      exact ok_some (Or.inr rfl)
theorem u_X8_isQuill (p1 : Int32) (p2 : Int32) : ok (f_X8_isQuill p1 p2) (fun a => (a = 0 ∨ a = 1)) := by
  unfold f_X8_isQuill
  refine ok_ob1 (u_X8_isLetter p1) (fun r1 k1 => ?_)
  refine ok_if (fun c2 => ?_) (fun c2 => ?_)
  · unfold f_X8_isQuill_20
    unfold f_X8_isQuill_21
    refine ok_chk (Or.inl rfl) ?_
    exact ok_some (Or.inl rfl)
  · refine ok_if (fun c4 => ?_) (fun c4 => ?_)
    · unfold f_X8_isQuill_20
      unfold f_X8_isQuill_21
      refine ok_chk (Or.inl rfl) ?_
      exact ok_some (Or.inl rfl)
    · refine ok_if (fun c6 => ?_) (fun c6 => ?_)
      · unfold f_X8_isQuill_20
        unfold f_X8_isQuill_21
        refine ok_chk (Or.inl rfl) ?_
        exact ok_some (Or.inl rfl)
      · unfold f_X8_isQuill_21
        refine ok_chk (Or.inr rfl) ?_
        exact ok_some (Or.inr rfl)
theorem u_X8_halvesOf (p1 : Int32) : ok (f_X8_halvesOf p1) (fun a => (0 ≤ (a).toInt ∧ (a).toInt ≤ 3)) := by
  unfold f_X8_halvesOf
  refine ok_if (fun c1 => ?_) (fun c1 => ?_)
  · exact ok_some (by first | decide | (have : (3 : Int32).toInt = 3 := rfl; omega))
  · refine ok_if (fun c2 => ?_) (fun c2 => ?_)
    · unfold f_X8_halvesOf_16
      unfold f_X8_halvesOf_21
      exact ok_some (by first | decide | (have := gi_of_ne c1; have := gi_of_eq c2; have : (0 : Int32).toInt = 0 := rfl; have : (1 : Int32).toInt = 1 := rfl; have := fb_rng (p1); omega))
    · refine ok_if (fun c3 => ?_) (fun c3 => ?_)
      · unfold f_X8_halvesOf_16
        unfold f_X8_halvesOf_21
        exact ok_some (by first | decide | (have := gi_of_ne c1; have := gi_of_ne c2; have := gi_of_eq c3; have : (0 : Int32).toInt = 0 := rfl; have : (1 : Int32).toInt = 1 := rfl; have : (2 : Int32).toInt = 2 := rfl; have := fb_rng (p1); omega))
      · unfold f_X8_halvesOf_21
        exact ok_some (by first | decide | (have : (0 : Int32).toInt = 0 := rfl; omega))
theorem fb_lgp {x : Int64} (h : ¬ lg_cmp x 0 ≤ 0) : ¬ x = 0 := by
  intro e
  subst e
  exact h (by decide)
theorem u_X8_commonDivisor_9  : ∀ (n : Nat) (x4 : Int64) (x6 : Int64) (x8 : Int32), 0 < n → (200 - x8.toInt : Int) < (n : Int) → ok (f_X8_commonDivisor_9  n x4 x6 x8) (fun a => ¬ a = 0) := by
  intro n
  induction n with
  | zero =>
    intro x4 x6 x8 hn hm
    exact absurd hn (by decide)
  | succ n ih_X8_commonDivisor_9 =>
    intro x4 x6 x8 hn hm
    rw [f_X8_commonDivisor_9_s]
    refine ok_if (fun c1 => ?_) (fun c1 => ?_)
    · unfold f_X8_commonDivisor_45
      refine ok_if (fun c2 => ?_) (fun c2 => ?_)
      · unfold f_X8_commonDivisor_58
        exact ok_some (by decide)
      · unfold f_X8_commonDivisor_58
        exact ok_some (fb_lgp c2)
    · refine ok_if (fun c3 => ?_) (fun c3 => ?_)
      · unfold f_X8_commonDivisor_45
        refine ok_if (fun c4 => ?_) (fun c4 => ?_)
        · unfold f_X8_commonDivisor_58
          exact ok_some (by decide)
        · unfold f_X8_commonDivisor_58
          exact ok_some (fb_lgp c4)
      · refine ok_chk (fb_lgz c3) ?_
        exact ih_X8_commonDivisor_9 x6 (x4 - x4 / x6 * x6) (x8 + 1) (by have := hm; have := gi_of_nle c1; have : (1 : Int32).toInt = 1 := rfl; have : (200 : Int32).toInt = 200 := rfl; have := fb_rng (x8); (try have := fb_addI (x := x8) (y := 1) (by omega) (by omega)); omega) (by have := hm; have := gi_of_nle c1; have : (1 : Int32).toInt = 1 := rfl; have : (200 : Int32).toInt = 200 := rfl; have := fb_rng (x8); (try have := fb_addI (x := x8) (y := 1) (by omega) (by omega)); omega)
theorem u_X8_commonDivisor (p1 : Int64) (p2 : Int64) : ok (f_X8_commonDivisor p1 p2) (fun a => ¬ a = 0) := by
  unfold f_X8_commonDivisor
  exact u_X8_commonDivisor_9 8589934592 p1 p2 0 (by decide) (by have : (0 : Int32).toInt = 0 := rfl; omega)
theorem u_X7_isBlank (p1 : Int32) : ok (f_X7_isBlank p1) (fun a => (a = 0 ∨ a = 1)) := by
  unfold f_X7_isBlank
  refine ok_if (fun c1 => ?_) (fun c1 => ?_)
  · unfold f_X7_isBlank_12
    unfold f_X7_isBlank_17
    refine ok_chk (Or.inr rfl) ?_
    exact ok_some (Or.inr rfl)
  · refine ok_if (fun c3 => ?_) (fun c3 => ?_)
    · unfold f_X7_isBlank_12
      unfold f_X7_isBlank_17
      refine ok_chk (Or.inr rfl) ?_
      exact ok_some (Or.inr rfl)
    · unfold f_X7_isBlank_17
      refine ok_chk (Or.inl rfl) ?_
      exact ok_some (Or.inl rfl)
theorem u_X7_isAlpha (p1 : Int32) : ok (f_X7_isAlpha p1) (fun a => (a = 0 ∨ a = 1)) := by
  unfold f_X7_isAlpha
  refine ok_if (fun c1 => ?_) (fun c1 => ?_)
  · unfold f_X7_isAlpha_12
    refine ok_if (fun c2 => ?_) (fun c2 => ?_)
    · unfold f_X7_isAlpha_28
      unfold f_X7_isAlpha_29
      refine ok_chk (Or.inl rfl) ?_
      exact ok_some (Or.inl rfl)
    · refine ok_if (fun c4 => ?_) (fun c4 => ?_)
      · unfold f_X7_isAlpha_28
        unfold f_X7_isAlpha_29
        refine ok_chk (Or.inl rfl) ?_
        exact ok_some (Or.inl rfl)
      · unfold f_X7_isAlpha_24
        unfold f_X7_isAlpha_29
        refine ok_chk (Or.inr rfl) ?_
        exact ok_some (Or.inr rfl)
  · refine ok_if (fun c7 => ?_) (fun c7 => ?_)
    · unfold f_X7_isAlpha_24
      unfold f_X7_isAlpha_29
      refine ok_chk (Or.inr rfl) ?_
      exact ok_some (Or.inr rfl)
    · unfold f_X7_isAlpha_12
      refine ok_if (fun c9 => ?_) (fun c9 => ?_)
      · unfold f_X7_isAlpha_28
        unfold f_X7_isAlpha_29
        refine ok_chk (Or.inl rfl) ?_
        exact ok_some (Or.inl rfl)
      · refine ok_if (fun c11 => ?_) (fun c11 => ?_)
        · unfold f_X7_isAlpha_28
          unfold f_X7_isAlpha_29
          refine ok_chk (Or.inl rfl) ?_
          exact ok_some (Or.inl rfl)
        · unfold f_X7_isAlpha_24
          unfold f_X7_isAlpha_29
          refine ok_chk (Or.inr rfl) ?_
          exact ok_some (Or.inr rfl)
theorem u_X7_isNumeral (p1 : Int32) : ok (f_X7_isNumeral p1) (fun a => (a = 0 ∨ a = 1)) := by
  unfold f_X7_isNumeral
  refine ok_if (fun c1 => ?_) (fun c1 => ?_)
  · unfold f_X7_isNumeral_16
    unfold f_X7_isNumeral_17
    refine ok_chk (Or.inl rfl) ?_
    exact ok_some (Or.inl rfl)
  · refine ok_if (fun c3 => ?_) (fun c3 => ?_)
    · unfold f_X7_isNumeral_16
      unfold f_X7_isNumeral_17
      refine ok_chk (Or.inl rfl) ?_
      exact ok_some (Or.inl rfl)
    · unfold f_X7_isNumeral_17
      refine ok_chk (Or.inr rfl) ?_
      exact ok_some (Or.inr rfl)
theorem u_X7_signKind (p1 : Int32) : ok (f_X7_signKind p1) (fun a => True) := by
  unfold f_X7_signKind
  refine ok_if (fun c1 => ?_) (fun c1 => ?_)
  · exact ok_some trivial
  · refine ok_if (fun c2 => ?_) (fun c2 => ?_)
    · exact ok_some trivial
    · refine ok_if (fun c3 => ?_) (fun c3 => ?_)
      · exact ok_some trivial
      · refine ok_if (fun c4 => ?_) (fun c4 => ?_)
        · exact ok_some trivial
        · refine ok_if (fun c5 => ?_) (fun c5 => ?_)
          · exact ok_some trivial
          · refine ok_if (fun c6 => ?_) (fun c6 => ?_)
            · exact ok_some trivial
            · refine ok_if (fun c7 => ?_) (fun c7 => ?_)
              · exact ok_some trivial
              · refine ok_if (fun c8 => ?_) (fun c8 => ?_)
                · exact ok_some trivial
                · refine ok_if (fun c9 => ?_) (fun c9 => ?_)
                  · exact ok_some trivial
                  · refine ok_if (fun c10 => ?_) (fun c10 => ?_)
                    · exact ok_some trivial
                    · refine ok_if (fun c11 => ?_) (fun c11 => ?_)
                      · exact ok_some trivial
                      · refine ok_if (fun c12 => ?_) (fun c12 => ?_)
                        · exact ok_some trivial
                        · refine ok_if (fun c13 => ?_) (fun c13 => ?_)
                          · exact ok_some trivial
                          · refine ok_if (fun c14 => ?_) (fun c14 => ?_)
                            · exact ok_some trivial
                            · refine ok_if (fun c15 => ?_) (fun c15 => ?_)
                              · exact ok_some trivial
                              · refine ok_if (fun c16 => ?_) (fun c16 => ?_)
                                · exact ok_some trivial
                                · refine ok_if (fun c17 => ?_) (fun c17 => ?_)
                                  · exact ok_some trivial
                                  · refine ok_if (fun c18 => ?_) (fun c18 => ?_)
                                    · exact ok_some trivial
                                    · refine ok_if (fun c19 => ?_) (fun c19 => ?_)
                                      · exact ok_some trivial
                                      · refine ok_if (fun c20 => ?_) (fun c20 => ?_)
                                        · exact ok_some trivial
                                        · refine ok_if (fun c21 => ?_) (fun c21 => ?_)
                                          · exact ok_some trivial
                                          · refine ok_if (fun c22 => ?_) (fun c22 => ?_)
                                            · exact ok_some trivial
                                            · refine ok_if (fun c23 => ?_) (fun c23 => ?_)
                                              · exact ok_some trivial
                                              · refine ok_if (fun c24 => ?_) (fun c24 => ?_)
                                                · exact ok_some trivial
                                                · refine ok_if (fun c25 => ?_) (fun c25 => ?_)
                                                  · exact ok_some trivial
                                                  · refine ok_if (fun c26 => ?_) (fun c26 => ?_)
                                                    · exact ok_some trivial
                                                    · refine ok_if (fun c27 => ?_) (fun c27 => ?_)
                                                      · exact ok_some trivial
                                                      · refine ok_if (fun c28 => ?_) (fun c28 => ?_)
                                                        · exact ok_some trivial
                                                        · exact ok_some trivial
theorem u_X2_levelOf (p1 : Int32) : ok (f_X2_levelOf p1) (fun a => True) := by
  unfold f_X2_levelOf
  refine ok_if (fun c1 => ?_) (fun c1 => ?_)
  · exact ok_some trivial
  · refine ok_if (fun c2 => ?_) (fun c2 => ?_)
    · exact ok_some trivial
    · refine ok_if (fun c3 => ?_) (fun c3 => ?_)
      · exact ok_some trivial
      · refine ok_if (fun c4 => ?_) (fun c4 => ?_)
        · exact ok_some trivial
        · refine ok_if (fun c5 => ?_) (fun c5 => ?_)
          · exact ok_some trivial
          · refine ok_if (fun c6 => ?_) (fun c6 => ?_)
            · exact ok_some trivial
            · refine ok_if (fun c7 => ?_) (fun c7 => ?_)
              · exact ok_some trivial
              · refine ok_if (fun c8 => ?_) (fun c8 => ?_)
                · exact ok_some trivial
                · refine ok_if (fun c9 => ?_) (fun c9 => ?_)
                  · exact ok_some trivial
                  · refine ok_if (fun c10 => ?_) (fun c10 => ?_)
                    · exact ok_some trivial
                    · refine ok_if (fun c11 => ?_) (fun c11 => ?_)
                      · exact ok_some trivial
                      · refine ok_if (fun c12 => ?_) (fun c12 => ?_)
                        · exact ok_some trivial
                        · refine ok_if (fun c13 => ?_) (fun c13 => ?_)
                          · exact ok_some trivial
                          · refine ok_if (fun c14 => ?_) (fun c14 => ?_)
                            · exact ok_some trivial
                            · refine ok_if (fun c15 => ?_) (fun c15 => ?_)
                              · exact ok_some trivial
                              · refine ok_if (fun c16 => ?_) (fun c16 => ?_)
                                · exact ok_some trivial
                                · refine ok_if (fun c17 => ?_) (fun c17 => ?_)
                                  · exact ok_some trivial
                                  · refine ok_if (fun c18 => ?_) (fun c18 => ?_)
                                    · exact ok_some trivial
                                    · refine ok_if (fun c19 => ?_) (fun c19 => ?_)
                                      · exact ok_some trivial
                                      · exact ok_some trivial
theorem u_X1_joined (p1 : Int32) (p2 : Int64) (p3 : Int64) : ok (f_X1_joined p1 p2 p3) (fun a => True) := by
  unfold f_X1_joined
  refine ok_if (fun c1 => ?_) (fun c1 => ?_)
  · refine ok_if (fun c2 => ?_) (fun c2 => ?_)
    · unfold f_X1_joined_153
      exact ok_some trivial
    · unfold f_X1_joined_153
      exact ok_some trivial
  · refine ok_if (fun c3 => ?_) (fun c3 => ?_)
    · refine ok_if (fun c4 => ?_) (fun c4 => ?_)
      · unfold f_X1_joined_165
        exact ok_some trivial
      · unfold f_X1_joined_165
        exact ok_some trivial
    · refine ok_if (fun c5 => ?_) (fun c5 => ?_)
      · refine ok_if (fun c6 => ?_) (fun c6 => ?_)
        · unfold f_X1_joined_177
          exact ok_some trivial
        · unfold f_X1_joined_177
          exact ok_some trivial
      · refine ok_if (fun c7 => ?_) (fun c7 => ?_)
        · refine ok_if (fun c8 => ?_) (fun c8 => ?_)
          · unfold f_X1_joined_189
            exact ok_some trivial
          · unfold f_X1_joined_189
            exact ok_some trivial
        · refine ok_if (fun c9 => ?_) (fun c9 => ?_)
          · refine ok_if (fun c10 => ?_) (fun c10 => ?_)
            · unfold f_X1_joined_201
              exact ok_some trivial
            · unfold f_X1_joined_201
              exact ok_some trivial
          · refine ok_if (fun c11 => ?_) (fun c11 => ?_)
            · refine ok_if (fun c12 => ?_) (fun c12 => ?_)
              · unfold f_X1_joined_213
                exact ok_some trivial
              · unfold f_X1_joined_213
                exact ok_some trivial
            · refine ok_if (fun c13 => ?_) (fun c13 => ?_)
              · exact ok_some trivial
              · refine ok_if (fun c14 => ?_) (fun c14 => ?_)
                · exact ok_some trivial
                · refine ok_if (fun c15 => ?_) (fun c15 => ?_)
                  · exact ok_some trivial
                  · refine ok_if (fun c16 => ?_) (fun c16 => ?_)
                    · refine ok_if (fun c17 => ?_) (fun c17 => ?_)
                      · unfold f_X1_joined_141
                        exact ok_some trivial
                      · refine ok_chk (fb_lgz c17) ?_
                        unfold f_X1_joined_141
                        exact ok_some trivial
                    · refine ok_if (fun c19 => ?_) (fun c19 => ?_)
                      · exact ok_some trivial
                      · refine ok_if (fun c20 => ?_) (fun c20 => ?_)
                        · exact ok_some trivial
                        · refine ok_if (fun c21 => ?_) (fun c21 => ?_)
                          · exact ok_some trivial
                          · refine ok_if (fun c22 => ?_) (fun c22 => ?_)
                            · exact ok_some trivial
                            · refine ok_if (fun c23 => ?_) (fun c23 => ?_)
                              · exact ok_some trivial
                              · refine ok_if (fun c24 => ?_) (fun c24 => ?_)
                                · exact ok_some trivial
                                · refine ok_if (fun c25 => ?_) (fun c25 => ?_)
                                  · exact ok_some trivial
                                  · refine ok_if (fun c26 => ?_) (fun c26 => ?_)
                                    · exact ok_some trivial
                                    · refine ok_if (fun c27 => ?_) (fun c27 => ?_)
                                      · exact ok_some trivial
                                      · refine ok_if (fun c28 => ?_) (fun c28 => ?_)
                                        · exact ok_some trivial
                                        · refine ok_if (fun c29 => ?_) (fun c29 => ?_)
                                          · exact ok_some trivial
                                          · refine ok_if (fun c30 => ?_) (fun c30 => ?_)
                                            · exact ok_some trivial
                                            · refine ok_if (fun c31 => ?_) (fun c31 => ?_)
                                              · exact ok_some trivial
                                              · refine ok_if (fun c32 => ?_) (fun c32 => ?_)
                                                · exact ok_some trivial
                                                · refine ok_if (fun c33 => ?_) (fun c33 => ?_)
                                                  · exact ok_some trivial
                                                  · exact ok_some trivial
theorem u_X3_cell (p1 : Int32) (p2 : Int32) (p3 : Int32) : ok (f_X3_cell p1 p2 p3) (fun a => a = ((((p1 * 3) + p2) * 5) + p3)) := by
  unfold f_X3_cell
  exact ok_some rfl
theorem u_X5_addFour_3 {h0 : HS} (x1 : Int32) : ∀ (n : Nat) (h : HS) (x2 : Int32), SC h0 h → 0 < n → (x2.toInt + 1 : Int) < (n : Int) → ok (f_X5_addFour_3  n h x1 x2) (fun a => SC h0 a ∧ True) := by
  intro n
  induction n with
  | zero =>
    intro h x2 hSC hn hm
    exact absurd hn (by decide)
  | succ n ih_X5_addFour_3 =>
    intro h x2 hSC hn hm
    rw [f_X5_addFour_3_s]
    refine ok_if (fun c1 => ?_) (fun c1 => ?_)
    · exact ok_some ⟨hSC, trivial⟩
    · refine ok_if (fun c2 => ?_) (fun c2 => ?_)
      · unfold f_X5_addFour_45
        exact ih_X5_addFour_3 h (x2 + (-8)) hSC (by have := hm; have := gi_of_nlt c1; have : ((-8) : Int32).toInt = -8 := rfl; have : (0 : Int32).toInt = 0 := rfl; have := fb_rng (x2); (try have := fb_addI (x := x2) (y := (-8)) (by omega) (by omega)); omega) (by have := hm; have := gi_of_nlt c1; have : ((-8) : Int32).toInt = -8 := rfl; have : (0 : Int32).toInt = 0 := rfl; have := fb_rng (x2); (try have := fb_addI (x := x2) (y := (-8)) (by omega) (by omega)); omega)
      · refine ok_chk (by have := IC_n hSC.1; have := hm; have := gi_of_nle c2; have : (300 : Int32).toInt = 300 := rfl; have := fb_rng (eI h 3 1); omega) ?_
        unfold f_X5_addFour_45
        exact ih_X5_addFour_3 (sI (sA h 3 0 (upd (eA h 3 0) (((eI h 3 1)).toNatClampNeg) ((x1 >>> (x2 &&& 31)) &&& 255))) 3 1 ((eI h 3 1) + 1)) (x2 + (-8)) (st_3_1 (c := (sA h 3 0 (upd (eA h 3 0) (((eI h 3 1)).toNatClampNeg) ((x1 >>> (x2 &&& 31)) &&& 255)))) (x := ((eI h 3 1) + 1)) hSC (by have := IC_n hSC.1; have := hm; have := gi_of_nle c2; have : (1 : Int32).toInt = 1 := rfl; have : (300 : Int32).toInt = 300 := rfl; have := fb_rng (eI h 3 1); (try have := fb_addI (x := (eI h 3 1)) (y := 1) (by omega) (by omega)); omega) (by have := IC_n hSC.1; have := hm; have := gi_of_nle c2; have : (1 : Int32).toInt = 1 := rfl; have : (300 : Int32).toInt = 300 := rfl; have := fb_rng (eI h 3 1); (try have := fb_addI (x := (eI h 3 1)) (y := 1) (by omega) (by omega)); omega)) (by have := hm; have := gi_of_nlt c1; have : ((-8) : Int32).toInt = -8 := rfl; have : (0 : Int32).toInt = 0 := rfl; have := fb_rng (x2); (try have := fb_addI (x := x2) (y := (-8)) (by omega) (by omega)); omega) (by have := hm; have := gi_of_nlt c1; have : ((-8) : Int32).toInt = -8 := rfl; have : (0 : Int32).toInt = 0 := rfl; have := fb_rng (x2); (try have := fb_addI (x := x2) (y := (-8)) (by omega) (by omega)); omega)
theorem u_X5_addFour (h : HS) (p1 : Int32) (hI : IC h) : ok (f_X5_addFour h p1) (fun a => SC h a ∧ True) := by
  unfold f_X5_addFour
  exact u_X5_addFour_3 (h0 := h) p1 8589934592 h 24 (SC_refl hI) (by decide) (by have : (24 : Int32).toInt = 24 := rfl; omega)
theorem u_X5_byteAt (h : HS) (p1 : Int32) (hI : IC h) : ok (f_X5_byteAt h p1) (fun a => a.2 = h ∧ True) := by
  unfold f_X5_byteAt
  refine ok_if (fun c1 => ?_) (fun c1 => ?_)
  · unfold f_X5_byteAt_30
    unfold f_X5_byteAt_31
    exact ok_some ⟨rfl, trivial⟩
  · refine ok_if (fun c2 => ?_) (fun c2 => ?_)
    · unfold f_X5_byteAt_30
      unfold f_X5_byteAt_31
      exact ok_some ⟨rfl, trivial⟩
    · refine ok_if (fun c3 => ?_) (fun c3 => ?_)
      · unfold f_X5_byteAt_30
        unfold f_X5_byteAt_31
        exact ok_some ⟨rfl, trivial⟩
      · refine ok_chk (by have := IC_n (SC_refl hI).1; have := gi_of_nlt c1; have := gi_of_nle c2; have := gi_of_nle c3; have : (0 : Int32).toInt = 0 := rfl; have : (300 : Int32).toInt = 300 := rfl; have := fb_rng (p1); have := fb_rng (eI h 3 1); omega) ?_
        unfold f_X5_byteAt_31
        exact ok_some ⟨rfl, trivial⟩
theorem u_X7_kind (h : HS) (hI : IC h) : ok (f_X7_kind h) (fun a => a.2 = h ∧ True) := by
  unfold f_X7_kind
  refine ok_if (fun c1 => ?_) (fun c1 => ?_)
  · unfold f_X7_kind_35
    unfold f_X7_kind_36
    exact ok_some ⟨rfl, trivial⟩
  · refine ok_if (fun c2 => ?_) (fun c2 => ?_)
    · unfold f_X7_kind_35
      unfold f_X7_kind_36
      exact ok_some ⟨rfl, trivial⟩
    · refine ok_chk (by have := IC_n (SC_refl hI).1; have := gi_of_nle c1; have := gi_of_nle c2; have : (301 : Int32).toInt = 301 := rfl; have := fb_rng (eI h 4 3); have := fb_rng (eI h 4 4); omega) ?_
      unfold f_X7_kind_36
      exact ok_some ⟨rfl, trivial⟩
theorem u_X7_start (h : HS) (hI : IC h) : ok (f_X7_start h) (fun a => a.2 = h ∧ True) := by
  unfold f_X7_start
  refine ok_if (fun c1 => ?_) (fun c1 => ?_)
  · unfold f_X7_start_35
    unfold f_X7_start_36
    exact ok_some ⟨rfl, trivial⟩
  · refine ok_if (fun c2 => ?_) (fun c2 => ?_)
    · unfold f_X7_start_35
      unfold f_X7_start_36
      exact ok_some ⟨rfl, trivial⟩
    · refine ok_chk (by have := IC_n (SC_refl hI).1; have := gi_of_nle c1; have := gi_of_nle c2; have : (301 : Int32).toInt = 301 := rfl; have := fb_rng (eI h 4 3); have := fb_rng (eI h 4 4); omega) ?_
      unfold f_X7_start_36
      exact ok_some ⟨rfl, trivial⟩
theorem u_X7_value (h : HS) (hI : IC h) : ok (f_X7_value h) (fun a => a.2 = h ∧ True) := by
  unfold f_X7_value
  refine ok_if (fun c1 => ?_) (fun c1 => ?_)
  · unfold f_X7_value_35
    unfold f_X7_value_36
    exact ok_some ⟨rfl, trivial⟩
  · refine ok_if (fun c2 => ?_) (fun c2 => ?_)
    · unfold f_X7_value_35
      unfold f_X7_value_36
      exact ok_some ⟨rfl, trivial⟩
    · refine ok_chk (by have := IC_n (SC_refl hI).1; have := gi_of_nle c1; have := gi_of_nle c2; have : (301 : Int32).toInt = 301 := rfl; have := fb_rng (eI h 4 3); have := fb_rng (eI h 4 4); omega) ?_
      unfold f_X7_value_36
      exact ok_some ⟨rfl, trivial⟩
theorem u_X7_advance (h : HS) (hI : IC h) : ok (f_X7_advance h) (fun a => SC h a ∧ True) := by
  unfold f_X7_advance
  refine ok_if (fun c1 => ?_) (fun c1 => ?_)
  · unfold f_X7_advance_23
    exact ok_some ⟨(SC_refl hI), trivial⟩
  · unfold f_X7_advance_23
    exact ok_some ⟨(st_4_4 (c := h) (x := ((eI h 4 4) + 1)) (SC_refl hI) (by have := IC_n (SC_refl hI).1; have := gi_of_nle c1; have : (1 : Int32).toInt = 1 := rfl; have := fb_rng (eI h 4 3); (try have := fb_subI (x := (eI h 4 3)) (y := 1) (by omega) (by omega)); have := fb_rng (eI h 4 4); (try have := fb_addI (x := (eI h 4 4)) (y := 1) (by omega) (by omega)); omega)), trivial⟩
theorem u_X7_add (h : HS) (p1 : Int32) (p2 : Int32) (p3 : Int32) (hI : IC h) : ok (f_X7_add h p1 p2 p3) (fun a => SC h a ∧ True) := by
  unfold f_X7_add
  refine ok_if (fun c1 => ?_) (fun c1 => ?_)
  · unfold f_X7_add_76
    exact ok_some ⟨(SC_refl hI), trivial⟩
  · refine ok_chk (by have := IC_n (SC_refl hI).1; have := gi_of_nle c1; have : (301 : Int32).toInt = 301 := rfl; have := fb_rng (eI h 4 3); omega) ?_
    refine ok_chk (by have := IC_n (SC_refl hI).1; have := gi_of_nle c1; have : (301 : Int32).toInt = 301 := rfl; have := fb_rng (eI h 4 3); omega) ?_
    refine ok_chk (by have := IC_n (SC_refl hI).1; have := gi_of_nle c1; have : (301 : Int32).toInt = 301 := rfl; have := fb_rng (eI h 4 3); omega) ?_
    unfold f_X7_add_76
    exact ok_some ⟨(st_4_3 (c := (sA (sA (sA h 4 0 (upd (eA h 4 0) (((eI h 4 3)).toNatClampNeg) p1)) 4 1 (upd (eA h 4 1) (((eI h 4 3)).toNatClampNeg) p2)) 4 2 (upd (eA h 4 2) (((eI h 4 3)).toNatClampNeg) p3))) (x := ((eI h 4 3) + 1)) (SC_refl hI) (by have := IC_n (SC_refl hI).1; have := gi_of_nle c1; have : (1 : Int32).toInt = 1 := rfl; have : (301 : Int32).toInt = 301 := rfl; have := fb_rng (eI h 4 3); (try have := fb_addI (x := (eI h 4 3)) (y := 1) (by omega) (by omega)); omega) (by have := IC_n (SC_refl hI).1; have := gi_of_nle c1; have : (1 : Int32).toInt = 1 := rfl; have : (301 : Int32).toInt = 301 := rfl; have := fb_rng (eI h 4 3); (try have := fb_addI (x := (eI h 4 3)) (y := 1) (by omega) (by omega)); omega)), trivial⟩
theorem u_X7_splitNumber_5 {h0 : HS} (x2 : Int32) : ∀ (n : Nat) (h : HS) (x3 : Int32) (x4 : Int32), SC h0 h → 0 < n → (300 - (x3).toInt : Int) < (n : Int) → ok (f_X7_splitNumber_5  n h x2 x3 x4) (fun a => SC h0 a.2 ∧ True) := by
  intro n
  induction n with
  | zero =>
    intro h x3 x4 hSC hn hm
    exact absurd hn (by decide)
  | succ n ih_X7_splitNumber_5 =>
    intro h x3 x4 hSC hn hm
    rw [f_X7_splitNumber_5_s]
    refine ok_if (fun c1 => ?_) (fun c1 => ?_)
    · unfold f_X7_splitNumber_52
      refine ok_ob1 (u_X7_add h 2 x2 x4 (hSC).1) (fun h2 k2 => ?_)
      have s2 : SC h0 h2 := SC_trans (b := h) hSC k2.1
      exact ok_some ⟨s2, trivial⟩
    · refine ok_ob2 (u_X5_byteAt h x3 (hSC).1) (fun r3 h3 k3 => ?_)
      have e3 : h = h3 := k3.1.symm
      subst e3
      refine ok_ob1 (u_X7_isNumeral r3) (fun r4 k4 => ?_)
      refine ok_if (fun c5 => ?_) (fun c5 => ?_)
      · unfold f_X7_splitNumber_52
        refine ok_ob1 (u_X7_add h 2 x2 x4 (hSC).1) (fun h6 k6 => ?_)
        have s6 : SC h0 h6 := SC_trans (b := h) hSC k6.1
        exact ok_some ⟨s6, trivial⟩
      · refine ok_ob2 (u_X5_byteAt h x3 (hSC).1) (fun r7 h7 k7 => ?_)
        have e7 : h = h7 := k7.1.symm
        subst e7
        exact ih_X7_splitNumber_5 h (x3 + 1) (if (((x4 * 10) + r7) - 48) < 10000 then (((x4 * 10) + r7) - 48) else 10000) hSC (by have := IC_n hSC.1; have := hm; have := gi_of_nle c1; have : (1 : Int32).toInt = 1 := rfl; have := fb_rng (eI h 3 1); have := fb_rng (x3); (try have := fb_addI (x := x3) (y := 1) (by omega) (by omega)); omega) (by have := IC_n hSC.1; have := hm; have := gi_of_nle c1; have : (1 : Int32).toInt = 1 := rfl; have := fb_rng (eI h 3 1); have := fb_rng (x3); (try have := fb_addI (x := x3) (y := 1) (by omega) (by omega)); omega)
theorem u_X7_splitNumber (h : HS) (p1 : Int32) (hI : IC h) : ok (f_X7_splitNumber h p1) (fun a => SC h a.2 ∧ True) := by
  unfold f_X7_splitNumber
  exact u_X7_splitNumber_5 (h0 := h) p1 8589934592 h p1 0 (SC_refl hI) (by decide) (by have := fb_rng (p1); omega)
theorem u_X7_splitSign (h : HS) (p1 : Int32) (hI : IC h) : ok (f_X7_splitSign h p1) (fun a => SC h a.2 ∧ True) := by
  unfold f_X7_splitSign
  refine ok_ob2 (u_X5_byteAt h p1 ((SC_refl hI)).1) (fun r1 h1 k1 => ?_)
  have e1 : h = h1 := k1.1.symm
  subst e1
  refine ok_ob1 (u_X7_signKind r1) (fun r2 k2 => ?_)
  refine ok_if (fun c3 => ?_) (fun c3 => ?_)
  · unfold f_X7_splitSign_19
    refine ok_ob2 (u_X5_byteAt h (p1 + 1) ((SC_refl hI)).1) (fun r4 h4 k4 => ?_)
    have e4 : h = h4 := k4.1.symm
    subst e4
    refine ok_if (fun c5 => ?_) (fun c5 => ?_)
    · unfold f_X7_splitSign_36
      refine ok_if (fun c6 => ?_) (fun c6 => ?_)
      · unfold f_X7_splitSign_55
        refine ok_ob1 (u_X7_add h r2 p1 0 ((SC_refl hI)).1) (fun h7 k7 => ?_)
        have s7 : SC h h7 := SC_trans (b := h) (SC_refl hI) k7.1
        refine ok_if (fun c8 => ?_) (fun c8 => ?_)
        · unfold f_X7_splitSign_76
          exact ok_some ⟨s7, trivial⟩
        · unfold f_X7_splitSign_76
          exact ok_some ⟨s7, trivial⟩
      · refine ok_if (fun c9 => ?_) (fun c9 => ?_)
        · unfold f_X7_splitSign_54
          unfold f_X7_splitSign_55
          refine ok_ob1 (u_X7_add h 4 p1 0 ((SC_refl hI)).1) (fun h10 k10 => ?_)
          have s10 : SC h h10 := SC_trans (b := h) (SC_refl hI) k10.1
          refine ok_if (fun c11 => ?_) (fun c11 => ?_)
          · unfold f_X7_splitSign_76
            exact ok_some ⟨s10, trivial⟩
          · unfold f_X7_splitSign_76
            exact ok_some ⟨s10, trivial⟩
        · unfold f_X7_splitSign_54
          unfold f_X7_splitSign_55
          refine ok_ob1 (u_X7_add h 6 p1 0 ((SC_refl hI)).1) (fun h12 k12 => ?_)
          have s12 : SC h h12 := SC_trans (b := h) (SC_refl hI) k12.1
          refine ok_if (fun c13 => ?_) (fun c13 => ?_)
          · unfold f_X7_splitSign_76
            exact ok_some ⟨s12, trivial⟩
          · unfold f_X7_splitSign_76
            exact ok_some ⟨s12, trivial⟩
    · unfold f_X7_splitSign_35
      unfold f_X7_splitSign_36
      refine ok_if (fun c14 => ?_) (fun c14 => ?_)
      · unfold f_X7_splitSign_55
        refine ok_ob1 (u_X7_add h r2 p1 0 ((SC_refl hI)).1) (fun h15 k15 => ?_)
        have s15 : SC h h15 := SC_trans (b := h) (SC_refl hI) k15.1
        refine ok_if (fun c16 => ?_) (fun c16 => ?_)
        · unfold f_X7_splitSign_76
          exact ok_some ⟨s15, trivial⟩
        · unfold f_X7_splitSign_76
          exact ok_some ⟨s15, trivial⟩
      · refine ok_if (fun c17 => ?_) (fun c17 => ?_)
        · unfold f_X7_splitSign_54
          unfold f_X7_splitSign_55
          refine ok_ob1 (u_X7_add h 4 p1 0 ((SC_refl hI)).1) (fun h18 k18 => ?_)
          have s18 : SC h h18 := SC_trans (b := h) (SC_refl hI) k18.1
          refine ok_if (fun c19 => ?_) (fun c19 => ?_)
          · unfold f_X7_splitSign_76
            exact ok_some ⟨s18, trivial⟩
          · unfold f_X7_splitSign_76
            exact ok_some ⟨s18, trivial⟩
        · unfold f_X7_splitSign_54
          unfold f_X7_splitSign_55
          refine ok_ob1 (u_X7_add h 6 p1 0 ((SC_refl hI)).1) (fun h20 k20 => ?_)
          have s20 : SC h h20 := SC_trans (b := h) (SC_refl hI) k20.1
          refine ok_if (fun c21 => ?_) (fun c21 => ?_)
          · unfold f_X7_splitSign_76
            exact ok_some ⟨s20, trivial⟩
          · unfold f_X7_splitSign_76
            exact ok_some ⟨s20, trivial⟩
  · refine ok_if (fun c22 => ?_) (fun c22 => ?_)
    · unfold f_X7_splitSign_19
      refine ok_ob2 (u_X5_byteAt h (p1 + 1) ((SC_refl hI)).1) (fun r23 h23 k23 => ?_)
      have e23 : h = h23 := k23.1.symm
      subst e23
      refine ok_if (fun c24 => ?_) (fun c24 => ?_)
      · unfold f_X7_splitSign_36
        refine ok_if (fun c25 => ?_) (fun c25 => ?_)
        · unfold f_X7_splitSign_55
          refine ok_ob1 (u_X7_add h r2 p1 0 ((SC_refl hI)).1) (fun h26 k26 => ?_)
          have s26 : SC h h26 := SC_trans (b := h) (SC_refl hI) k26.1
          refine ok_if (fun c27 => ?_) (fun c27 => ?_)
          · unfold f_X7_splitSign_76
            exact ok_some ⟨s26, trivial⟩
          · unfold f_X7_splitSign_76
            exact ok_some ⟨s26, trivial⟩
        · refine ok_if (fun c28 => ?_) (fun c28 => ?_)
          · unfold f_X7_splitSign_54
            unfold f_X7_splitSign_55
            refine ok_ob1 (u_X7_add h 4 p1 0 ((SC_refl hI)).1) (fun h29 k29 => ?_)
            have s29 : SC h h29 := SC_trans (b := h) (SC_refl hI) k29.1
            refine ok_if (fun c30 => ?_) (fun c30 => ?_)
            · unfold f_X7_splitSign_76
              exact ok_some ⟨s29, trivial⟩
            · unfold f_X7_splitSign_76
              exact ok_some ⟨s29, trivial⟩
          · unfold f_X7_splitSign_54
            unfold f_X7_splitSign_55
            refine ok_ob1 (u_X7_add h 6 p1 0 ((SC_refl hI)).1) (fun h31 k31 => ?_)
            have s31 : SC h h31 := SC_trans (b := h) (SC_refl hI) k31.1
            refine ok_if (fun c32 => ?_) (fun c32 => ?_)
            · unfold f_X7_splitSign_76
              exact ok_some ⟨s31, trivial⟩
            · unfold f_X7_splitSign_76
              exact ok_some ⟨s31, trivial⟩
      · unfold f_X7_splitSign_35
        unfold f_X7_splitSign_36
        refine ok_if (fun c33 => ?_) (fun c33 => ?_)
        · unfold f_X7_splitSign_55
          refine ok_ob1 (u_X7_add h r2 p1 0 ((SC_refl hI)).1) (fun h34 k34 => ?_)
          have s34 : SC h h34 := SC_trans (b := h) (SC_refl hI) k34.1
          refine ok_if (fun c35 => ?_) (fun c35 => ?_)
          · unfold f_X7_splitSign_76
            exact ok_some ⟨s34, trivial⟩
          · unfold f_X7_splitSign_76
            exact ok_some ⟨s34, trivial⟩
        · refine ok_if (fun c36 => ?_) (fun c36 => ?_)
          · unfold f_X7_splitSign_54
            unfold f_X7_splitSign_55
            refine ok_ob1 (u_X7_add h 4 p1 0 ((SC_refl hI)).1) (fun h37 k37 => ?_)
            have s37 : SC h h37 := SC_trans (b := h) (SC_refl hI) k37.1
            refine ok_if (fun c38 => ?_) (fun c38 => ?_)
            · unfold f_X7_splitSign_76
              exact ok_some ⟨s37, trivial⟩
            · unfold f_X7_splitSign_76
              exact ok_some ⟨s37, trivial⟩
          · unfold f_X7_splitSign_54
            unfold f_X7_splitSign_55
            refine ok_ob1 (u_X7_add h 6 p1 0 ((SC_refl hI)).1) (fun h39 k39 => ?_)
            have s39 : SC h h39 := SC_trans (b := h) (SC_refl hI) k39.1
            refine ok_if (fun c40 => ?_) (fun c40 => ?_)
            · unfold f_X7_splitSign_76
              exact ok_some ⟨s39, trivial⟩
            · unfold f_X7_splitSign_76
              exact ok_some ⟨s39, trivial⟩
    · unfold f_X7_splitSign_35
      unfold f_X7_splitSign_36
      refine ok_if (fun c41 => ?_) (fun c41 => ?_)
      · unfold f_X7_splitSign_55
        refine ok_ob1 (u_X7_add h r2 p1 0 ((SC_refl hI)).1) (fun h42 k42 => ?_)
        have s42 : SC h h42 := SC_trans (b := h) (SC_refl hI) k42.1
        refine ok_if (fun c43 => ?_) (fun c43 => ?_)
        · unfold f_X7_splitSign_76
          exact ok_some ⟨s42, trivial⟩
        · unfold f_X7_splitSign_76
          exact ok_some ⟨s42, trivial⟩
      · refine ok_if (fun c44 => ?_) (fun c44 => ?_)
        · unfold f_X7_splitSign_54
          unfold f_X7_splitSign_55
          refine ok_ob1 (u_X7_add h 4 p1 0 ((SC_refl hI)).1) (fun h45 k45 => ?_)
          have s45 : SC h h45 := SC_trans (b := h) (SC_refl hI) k45.1
          refine ok_if (fun c46 => ?_) (fun c46 => ?_)
          · unfold f_X7_splitSign_76
            exact ok_some ⟨s45, trivial⟩
          · unfold f_X7_splitSign_76
            exact ok_some ⟨s45, trivial⟩
        · unfold f_X7_splitSign_54
          unfold f_X7_splitSign_55
          refine ok_ob1 (u_X7_add h 6 p1 0 ((SC_refl hI)).1) (fun h47 k47 => ?_)
          have s47 : SC h h47 := SC_trans (b := h) (SC_refl hI) k47.1
          refine ok_if (fun c48 => ?_) (fun c48 => ?_)
          · unfold f_X7_splitSign_76
            exact ok_some ⟨s47, trivial⟩
          · unfold f_X7_splitSign_76
            exact ok_some ⟨s47, trivial⟩
theorem u_X1_push (h : HS) (p1 : Int64) (hI : IC h) : ok (f_X1_push h p1) (fun a => SC h a ∧ True) := by
  unfold f_X1_push
  refine ok_if (fun c1 => ?_) (fun c1 => ?_)
  · unfold f_X1_push_66
    exact ok_some ⟨(SC_refl hI), trivial⟩
  · refine ok_if (fun c2 => ?_) (fun c2 => ?_)
    · unfold f_X1_push_66
      exact ok_some ⟨(SC_refl hI), trivial⟩
    · refine ok_if (fun c3 => ?_) (fun c3 => ?_)
      · refine ok_if (fun c4 => ?_) (fun c4 => ?_)
        · unfold f_X1_push_55
          refine ok_chk (by have := IC_n (SC_refl hI).1; have := gi_of_nlt c1; have := gi_of_nle c2; have : (0 : Int32).toInt = 0 := rfl; have : (40 : Int32).toInt = 40 := rfl; have := fb_rng (eI h 6 3); omega) ?_
          unfold f_X1_push_66
          exact ok_some ⟨(SC_refl hI), trivial⟩
        · unfold f_X1_push_55
          refine ok_chk (by have := IC_n (SC_refl hI).1; have := gi_of_nlt c1; have := gi_of_nle c2; have : (0 : Int32).toInt = 0 := rfl; have : (40 : Int32).toInt = 40 := rfl; have := fb_rng (eI h 6 3); omega) ?_
          unfold f_X1_push_66
          exact ok_some ⟨(SC_refl hI), trivial⟩
      · unfold f_X1_push_55
        refine ok_chk (by have := IC_n (SC_refl hI).1; have := gi_of_nlt c1; have := gi_of_nle c2; have : (0 : Int32).toInt = 0 := rfl; have : (40 : Int32).toInt = 40 := rfl; have := fb_rng (eI h 6 3); omega) ?_
        unfold f_X1_push_66
        exact ok_some ⟨(SC_refl hI), trivial⟩
theorem u_X1_pop (h : HS) (hI : IC h) : ok (f_X1_pop h) (fun a => SC h a.2 ∧ True) := by
  unfold f_X1_pop
  refine ok_if (fun c1 => ?_) (fun c1 => ?_)
  · unfold f_X1_pop_20
    exact ok_some ⟨(SC_refl hI), trivial⟩
  · refine ok_if (fun c2 => ?_) (fun c2 => ?_)
    · refine ok_chk (by have := IC_n (SC_refl hI).1; have := gi_of_nlt c1; have := gi_of_le c2; have : (1 : Int32).toInt = 1 := rfl; have : (40 : Int32).toInt = 40 := rfl; have := fb_rng (eI h 6 3); (try have := fb_subI (x := (eI h 6 3)) (y := 1) (by omega) (by omega)); omega) ?_
      exact ok_some ⟨(SC_refl hI), trivial⟩
    · unfold f_X1_pop_20
      exact ok_some ⟨(SC_refl hI), trivial⟩
theorem u_X1_take (h : HS) (p1 : Int32) (hI : IC h) : ok (f_X1_take h p1) (fun a => SC h a ∧ True) := by
  unfold f_X1_take
  refine ok_if (fun c1 => ?_) (fun c1 => ?_)
  · refine ok_if (fun c2 => ?_) (fun c2 => ?_)
    · refine ok_ob2 (u_X1_pop h ((SC_refl hI)).1) (fun r3 h3 k3 => ?_)
      have s3 : SC h h3 := SC_trans (b := h) (SC_refl hI) k3.1
      refine ok_if (fun c4 => ?_) (fun c4 => ?_)
      · refine ok_ob1 (u_X1_push h3 (((1 - r3)).toInt64) (s3).1) (fun h5 k5 => ?_)
        have s5 : SC h h5 := SC_trans (b := h3) s3 k5.1
        unfold f_X1_take_128
        exact ok_some ⟨s5, trivial⟩
      · refine ok_if (fun c6 => ?_) (fun c6 => ?_)
        · refine ok_ob1 (u_X1_push h3 (((-r3)).toInt64) (s3).1) (fun h7 k7 => ?_)
          have s7 : SC h h7 := SC_trans (b := h3) s3 k7.1
          unfold f_X1_take_128
          exact ok_some ⟨s7, trivial⟩
        · refine ok_ob2 (u_X1_pop h3 (s3).1) (fun r8 h8 k8 => ?_)
          have s8 : SC h h8 := SC_trans (b := h3) s3 k8.1
          refine ok_ob1 (u_X1_joined (p1 - 20000) ((r8).toInt64) ((r3).toInt64)) (fun r9 k9 => ?_)
          refine ok_ob1 (u_X1_push h8 r9 (s8).1) (fun h10 k10 => ?_)
          have s10 : SC h h10 := SC_trans (b := h8) s8 k10.1
          unfold f_X1_take_128
          exact ok_some ⟨s10, trivial⟩
    · refine ok_if (fun c11 => ?_) (fun c11 => ?_)
      · unfold f_X1_take_47
        refine ok_ob1 (u_X1_push h 0 ((SC_refl hI)).1) (fun h12 k12 => ?_)
        have s12 : SC h h12 := SC_trans (b := h) (SC_refl hI) k12.1
        unfold f_X1_take_128
        exact ok_some ⟨s12, trivial⟩
      · refine ok_chk (by have := gi_of_le c1; have := gi_of_nle c2; have := gi_of_nle c11; have : (10000 : Int32).toInt = 10000 := rfl; have : (20000 : Int32).toInt = 20000 := rfl; have : (9 : Int32).toInt = 9 := rfl; have := fb_rng (p1); (try have := fb_subI (x := p1) (y := 10000) (by omega) (by omega)); omega) ?_
        unfold f_X1_take_47
        refine ok_ob1 (u_X1_push h ((((eA h 6 1) (((p1 - 10000)).toNatClampNeg))).toInt64) ((SC_refl hI)).1) (fun h14 k14 => ?_)
        have s14 : SC h h14 := SC_trans (b := h) (SC_refl hI) k14.1
        unfold f_X1_take_128
        exact ok_some ⟨s14, trivial⟩
  · refine ok_ob1 (u_X1_push h ((p1).toInt64) ((SC_refl hI)).1) (fun h15 k15 => ?_)
    have s15 : SC h h15 := SC_trans (b := h) (SC_refl hI) k15.1
    unfold f_X1_take_128
    exact ok_some ⟨s15, trivial⟩
theorem u_X1_without (h : HS) (p1 : Int32) (hI : IC h) : ok (f_X1_without h p1) (fun a => a.2 = h ∧ True) := by
  unfold f_X1_without
  refine ok_if (fun c1 => ?_) (fun c1 => ?_)
  · exact ok_some ⟨rfl, trivial⟩
  · refine ok_if (fun c2 => ?_) (fun c2 => ?_)
    · exact ok_some ⟨rfl, trivial⟩
    · exact ok_some ⟨rfl, trivial⟩
theorem u_X1_lookAt (h : HS) (p1 : Int32) (hI : IC h) : ok (f_X1_lookAt h p1) (fun a => SC h a ∧ True) := by
  unfold f_X1_lookAt
  refine ok_ob2 (u_X4_ofGoose (sA h 6 1 (upd (eA h 6 1) 0 p1)) p1 0 ((SC_refl hI)).1) (fun r1 h1 k1 => ?_)
  have e1 : (sA h 6 1 (upd (eA h 6 1) 0 p1)) = h1 := k1.1.symm
  subst e1
  refine ok_ob2 (u_X4_ofGoose (sA (sA h 6 1 (upd (eA h 6 1) 0 p1)) 6 1 (upd (eA (sA h 6 1 (upd (eA h 6 1) 0 p1)) 6 1) 1 r1)) p1 1 ((SC_refl hI)).1) (fun r2 h2 k2 => ?_)
  have e2 : (sA (sA h 6 1 (upd (eA h 6 1) 0 p1)) 6 1 (upd (eA (sA h 6 1 (upd (eA h 6 1) 0 p1)) 6 1) 1 r1)) = h2 := k2.1.symm
  subst e2
  refine ok_ob2 (u_X4_ofGoose (sA (sA (sA h 6 1 (upd (eA h 6 1) 0 p1)) 6 1 (upd (eA (sA h 6 1 (upd (eA h 6 1) 0 p1)) 6 1) 1 r1)) 6 1 (upd (eA (sA (sA h 6 1 (upd (eA h 6 1) 0 p1)) 6 1 (upd (eA (sA h 6 1 (upd (eA h 6 1) 0 p1)) 6 1) 1 r1)) 6 1) 2 r2)) p1 2 ((SC_refl hI)).1) (fun r3 h3 k3 => ?_)
  have e3 : (sA (sA (sA h 6 1 (upd (eA h 6 1) 0 p1)) 6 1 (upd (eA (sA h 6 1 (upd (eA h 6 1) 0 p1)) 6 1) 1 r1)) 6 1 (upd (eA (sA (sA h 6 1 (upd (eA h 6 1) 0 p1)) 6 1 (upd (eA (sA h 6 1 (upd (eA h 6 1) 0 p1)) 6 1) 1 r1)) 6 1) 2 r2)) = h3 := k3.1.symm
  subst e3
  refine ok_ob2 (u_X4_ofGoose (sA (sA (sA (sA h 6 1 (upd (eA h 6 1) 0 p1)) 6 1 (upd (eA (sA h 6 1 (upd (eA h 6 1) 0 p1)) 6 1) 1 r1)) 6 1 (upd (eA (sA (sA h 6 1 (upd (eA h 6 1) 0 p1)) 6 1 (upd (eA (sA h 6 1 (upd (eA h 6 1) 0 p1)) 6 1) 1 r1)) 6 1) 2 r2)) 6 1 (upd (eA (sA (sA (sA h 6 1 (upd (eA h 6 1) 0 p1)) 6 1 (upd (eA (sA h 6 1 (upd (eA h 6 1) 0 p1)) 6 1) 1 r1)) 6 1 (upd (eA (sA (sA h 6 1 (upd (eA h 6 1) 0 p1)) 6 1 (upd (eA (sA h 6 1 (upd (eA h 6 1) 0 p1)) 6 1) 1 r1)) 6 1) 2 r2)) 6 1) 3 r3)) p1 3 ((SC_refl hI)).1) (fun r4 h4 k4 => ?_)
  have e4 : (sA (sA (sA (sA h 6 1 (upd (eA h 6 1) 0 p1)) 6 1 (upd (eA (sA h 6 1 (upd (eA h 6 1) 0 p1)) 6 1) 1 r1)) 6 1 (upd (eA (sA (sA h 6 1 (upd (eA h 6 1) 0 p1)) 6 1 (upd (eA (sA h 6 1 (upd (eA h 6 1) 0 p1)) 6 1) 1 r1)) 6 1) 2 r2)) 6 1 (upd (eA (sA (sA (sA h 6 1 (upd (eA h 6 1) 0 p1)) 6 1 (upd (eA (sA h 6 1 (upd (eA h 6 1) 0 p1)) 6 1) 1 r1)) 6 1 (upd (eA (sA (sA h 6 1 (upd (eA h 6 1) 0 p1)) 6 1 (upd (eA (sA h 6 1 (upd (eA h 6 1) 0 p1)) 6 1) 1 r1)) 6 1) 2 r2)) 6 1) 3 r3)) = h4 := k4.1.symm
  subst e4
  exact ok_some ⟨(SC_refl hI), trivial⟩
theorem u_X1_lookAtFilled (h : HS) (p1 : Int32) (p2 : Int32) (p3 : Int32) (hI : IC h) : ok (f_X1_lookAtFilled h p1 p2 p3) (fun a => SC h a ∧ True) := by
  unfold f_X1_lookAtFilled
  refine ok_ob1 (u_X1_lookAt h p1 ((SC_refl hI)).1) (fun h1 k1 => ?_)
  have s1 : SC h h1 := SC_trans (b := h) (SC_refl hI) k1.1
  exact ok_some ⟨s1, trivial⟩
theorem u_X1_lookAtMarket (h : HS) (p1 : Int32) (p2 : Int32) (hI : IC h) : ok (f_X1_lookAtMarket h p1 p2) (fun a => SC h a ∧ True) := by
  unfold f_X1_lookAtMarket
  refine ok_ob2 (u_X4_ofMarket (sA (sA h 6 1 (upd (eA h 6 1) 5 p2)) 6 1 (upd (upd (eA h 6 1) 5 p2) 6 p1)) p1 1 ((SC_refl hI)).1) (fun r1 h1 k1 => ?_)
  have e1 : (sA (sA h 6 1 (upd (eA h 6 1) 5 p2)) 6 1 (upd (upd (eA h 6 1) 5 p2) 6 p1)) = h1 := k1.1.symm
  subst e1
  refine ok_ob2 (u_X4_ofMarket (sA (sA (sA h 6 1 (upd (eA h 6 1) 5 p2)) 6 1 (upd (upd (eA h 6 1) 5 p2) 6 p1)) 6 1 (upd (eA (sA (sA h 6 1 (upd (eA h 6 1) 5 p2)) 6 1 (upd (upd (eA h 6 1) 5 p2) 6 p1)) 6 1) 7 r1)) p1 2 ((SC_refl hI)).1) (fun r2 h2 k2 => ?_)
  have e2 : (sA (sA (sA h 6 1 (upd (eA h 6 1) 5 p2)) 6 1 (upd (upd (eA h 6 1) 5 p2) 6 p1)) 6 1 (upd (eA (sA (sA h 6 1 (upd (eA h 6 1) 5 p2)) 6 1 (upd (upd (eA h 6 1) 5 p2) 6 p1)) 6 1) 7 r1)) = h2 := k2.1.symm
  subst e2
  exact ok_some ⟨(SC_refl hI), trivial⟩
theorem u_X1_lookAtTraveller (h : HS) (p1 : Int32) (hI : IC h) : ok (f_X1_lookAtTraveller h p1) (fun a => SC h a ∧ True) := by
  unfold f_X1_lookAtTraveller
  refine ok_ob1 (u_X1_lookAt h p1 ((SC_refl hI)).1) (fun h1 k1 => ?_)
  have s1 : SC h h1 := SC_trans (b := h) (SC_refl hI) k1.1
  refine ok_ob2 (u_X4_ofGoose h1 p1 5 (s1).1) (fun r2 h2 k2 => ?_)
  have e2 : h1 = h2 := k2.1.symm
  subst e2
  refine ok_ob2 (u_X4_ofGoose h1 p1 6 (s1).1) (fun r3 h3 k3 => ?_)
  have e3 : h1 = h3 := k3.1.symm
  subst e3
  refine ok_ob1 (u_X1_lookAtMarket h1 r2 r3 (s1).1) (fun h4 k4 => ?_)
  have s4 : SC h h4 := SC_trans (b := h1) s1 k4.1
  exact ok_some ⟨s4, trivial⟩
theorem u_X6_clear_0_12 {h0 : HS} : ∀ (n : Nat) (h : HS) (x1 : Int32), SC h0 h → 0 ≤ x1.toInt → 0 < n → (4 - (x1).toInt : Int) < (n : Int) → ok (f_X6_clear_0_12  n h x1) (fun a => SC h0 a ∧ True) := by
  intro n
  induction n with
  | zero =>
    intro h x1 hSC i0 hn hm
    exact absurd hn (by decide)
  | succ n ih_X6_clear_0_12 =>
    intro h x1 hSC i0 hn hm
    rw [f_X6_clear_0_12_s]
    refine ok_if (fun c1 => ?_) (fun c1 => ?_)
    · exact ok_some ⟨hSC, trivial⟩
    · refine ok_chk (by have := i0; have := hm; have := gi_of_nle c1; have : (4 : Int32).toInt = 4 := rfl; have := fb_rng (x1); omega) ?_
      refine ok_chk (by have := i0; have := hm; have := gi_of_nle c1; have : (4 : Int32).toInt = 4 := rfl; have := fb_rng (x1); omega) ?_
      exact ih_X6_clear_0_12 (sA (sA h 9 3 (upd (eA h 9 3) ((x1).toNatClampNeg) (-1))) 9 4 (upd (eA h 9 4) ((x1).toNatClampNeg) (-1))) (x1 + 1) hSC (by have := i0; have := hm; have := gi_of_nle c1; have : (1 : Int32).toInt = 1 := rfl; have : (4 : Int32).toInt = 4 := rfl; have := fb_rng (x1); (try have := fb_addI (x := x1) (y := 1) (by omega) (by omega)); omega) (by have := i0; have := hm; have := gi_of_nle c1; have : (1 : Int32).toInt = 1 := rfl; have : (4 : Int32).toInt = 4 := rfl; have := fb_rng (x1); (try have := fb_addI (x := x1) (y := 1) (by omega) (by omega)); omega) (by have := i0; have := hm; have := gi_of_nle c1; have : (1 : Int32).toInt = 1 := rfl; have : (4 : Int32).toInt = 4 := rfl; have := fb_rng (x1); (try have := fb_addI (x := x1) (y := 1) (by omega) (by omega)); omega)
theorem u_X6_clear_0 (h : HS) (hI : IC h) : ok (f_X6_clear_0 h) (fun a => SC h a ∧ True) := by
  unfold f_X6_clear_0
  exact u_X6_clear_0_12 (h0 := h) 8589934592 (sI (sI h 9 1 0) 9 5 0) 0 (st_9_5 (c := (sI h 9 1 0)) (x := 0) (SC_refl hI) (by have : (0 : Int32).toInt = 0 := rfl; omega) (by have : (0 : Int32).toInt = 0 := rfl; omega)) (by have : (0 : Int32).toInt = 0 := rfl; omega) (by decide) (by have : (0 : Int32).toInt = 0 := rfl; omega)
theorem u_X6_hasLaw_0 (h : HS) (p1 : Int32) (hI : IC h) : ok (f_X6_hasLaw_0 h p1) (fun a => a.2 = h ∧ (a.1 = 0 ∨ a.1 = 1)) := by
  unfold f_X6_hasLaw_0
  refine ok_if (fun c1 => ?_) (fun c1 => ?_)
  · unfold f_X6_hasLaw_0_23
    unfold f_X6_hasLaw_0_24
    refine ok_chk (Or.inl rfl) ?_
    exact ok_some ⟨rfl, (Or.inl rfl)⟩
  · refine ok_if (fun c3 => ?_) (fun c3 => ?_)
    · unfold f_X6_hasLaw_0_23
      unfold f_X6_hasLaw_0_24
      refine ok_chk (Or.inl rfl) ?_
      exact ok_some ⟨rfl, (Or.inl rfl)⟩
    · refine ok_chk (by have := gi_of_nlt c1; have := gi_of_nle c3; have : (0 : Int32).toInt = 0 := rfl; have : (4 : Int32).toInt = 4 := rfl; have := fb_rng (p1); omega) ?_
      refine ok_if (fun c6 => ?_) (fun c6 => ?_)
      · unfold f_X6_hasLaw_0_23
        unfold f_X6_hasLaw_0_24
        refine ok_chk (Or.inl rfl) ?_
        exact ok_some ⟨rfl, (Or.inl rfl)⟩
      · unfold f_X6_hasLaw_0_24
        refine ok_chk (Or.inr rfl) ?_
        exact ok_some ⟨rfl, (Or.inr rfl)⟩
theorem u_X6_beginLaw_0 (h : HS) (p1 : Int32) (hI : IC h) : ok (f_X6_beginLaw_0 h p1) (fun a => SC h a ∧ True) := by
  unfold f_X6_beginLaw_0
  refine ok_if (fun c1 => ?_) (fun c1 => ?_)
  · unfold f_X6_beginLaw_0_19
    exact ok_some ⟨(SC_refl hI), trivial⟩
  · refine ok_if (fun c2 => ?_) (fun c2 => ?_)
    · unfold f_X6_beginLaw_0_19
      exact ok_some ⟨(SC_refl hI), trivial⟩
    · refine ok_chk (by have := gi_of_nlt c1; have := gi_of_nle c2; have : (0 : Int32).toInt = 0 := rfl; have : (4 : Int32).toInt = 4 := rfl; have := fb_rng (p1); omega) ?_
      unfold f_X6_beginLaw_0_19
      exact ok_some ⟨(SC_refl hI), trivial⟩
theorem u_X6_closeLaw_0 (h : HS) (p1 : Int32) (hI : IC h) : ok (f_X6_closeLaw_0 h p1) (fun a => SC h a ∧ True) := by
  unfold f_X6_closeLaw_0
  refine ok_if (fun c1 => ?_) (fun c1 => ?_)
  · unfold f_X6_closeLaw_0_19
    exact ok_some ⟨(SC_refl hI), trivial⟩
  · refine ok_if (fun c2 => ?_) (fun c2 => ?_)
    · unfold f_X6_closeLaw_0_19
      exact ok_some ⟨(SC_refl hI), trivial⟩
    · refine ok_chk (by have := gi_of_nlt c1; have := gi_of_nle c2; have : (0 : Int32).toInt = 0 := rfl; have : (4 : Int32).toInt = 4 := rfl; have := fb_rng (p1); omega) ?_
      unfold f_X6_closeLaw_0_19
      exact ok_some ⟨(SC_refl hI), trivial⟩
theorem u_X6_firstStep_0 (h : HS) (p1 : Int32) (hI : IC h) : ok (f_X6_firstStep_0 h p1) (fun a => a.2 = h ∧ True) := by
  unfold f_X6_firstStep_0
  refine ok_if (fun c1 => ?_) (fun c1 => ?_)
  · unfold f_X6_firstStep_0_18
    unfold f_X6_firstStep_0_19
    exact ok_some ⟨rfl, trivial⟩
  · refine ok_if (fun c2 => ?_) (fun c2 => ?_)
    · unfold f_X6_firstStep_0_18
      unfold f_X6_firstStep_0_19
      exact ok_some ⟨rfl, trivial⟩
    · refine ok_chk (by have := gi_of_nlt c1; have := gi_of_nle c2; have : (0 : Int32).toInt = 0 := rfl; have : (4 : Int32).toInt = 4 := rfl; have := fb_rng (p1); omega) ?_
      unfold f_X6_firstStep_0_19
      exact ok_some ⟨rfl, trivial⟩
theorem u_X6_stepsEnd_0 (h : HS) (p1 : Int32) (hI : IC h) : ok (f_X6_stepsEnd_0 h p1) (fun a => a.2 = h ∧ True) := by
  unfold f_X6_stepsEnd_0
  refine ok_if (fun c1 => ?_) (fun c1 => ?_)
  · unfold f_X6_stepsEnd_0_18
    unfold f_X6_stepsEnd_0_19
    exact ok_some ⟨rfl, trivial⟩
  · refine ok_if (fun c2 => ?_) (fun c2 => ?_)
    · unfold f_X6_stepsEnd_0_18
      unfold f_X6_stepsEnd_0_19
      exact ok_some ⟨rfl, trivial⟩
    · refine ok_chk (by have := gi_of_nlt c1; have := gi_of_nle c2; have : (0 : Int32).toInt = 0 := rfl; have : (4 : Int32).toInt = 4 := rfl; have := fb_rng (p1); omega) ?_
      unfold f_X6_stepsEnd_0_19
      exact ok_some ⟨rfl, trivial⟩
theorem u_X6_addStep_0 (h : HS) (p1 : Int32) (hI : IC h) : ok (f_X6_addStep_0 h p1) (fun a => SC h a ∧ True) := by
  unfold f_X6_addStep_0
  refine ok_if (fun c1 => ?_) (fun c1 => ?_)
  · unfold f_X6_addStep_0_32
    exact ok_some ⟨(SC_refl hI), trivial⟩
  · refine ok_chk (by have := IC_n (SC_refl hI).1; have := gi_of_nle c1; have : (300 : Int32).toInt = 300 := rfl; have := fb_rng (eI h 9 5); omega) ?_
    unfold f_X6_addStep_0_32
    exact ok_some ⟨(st_9_5 (c := (sA h 9 2 (upd (eA h 9 2) (((eI h 9 5)).toNatClampNeg) p1))) (x := ((eI h 9 5) + 1)) (SC_refl hI) (by have := IC_n (SC_refl hI).1; have := gi_of_nle c1; have : (1 : Int32).toInt = 1 := rfl; have : (300 : Int32).toInt = 300 := rfl; have := fb_rng (eI h 9 5); (try have := fb_addI (x := (eI h 9 5)) (y := 1) (by omega) (by omega)); omega) (by have := IC_n (SC_refl hI).1; have := gi_of_nle c1; have : (1 : Int32).toInt = 1 := rfl; have : (300 : Int32).toInt = 300 := rfl; have := fb_rng (eI h 9 5); (try have := fb_addI (x := (eI h 9 5)) (y := 1) (by omega) (by omega)); omega)), trivial⟩
theorem u_X6_stepAt_0 (h : HS) (p1 : Int32) (hI : IC h) : ok (f_X6_stepAt_0 h p1) (fun a => a.2 = h ∧ True) := by
  unfold f_X6_stepAt_0
  refine ok_if (fun c1 => ?_) (fun c1 => ?_)
  · unfold f_X6_stepAt_0_30
    unfold f_X6_stepAt_0_31
    exact ok_some ⟨rfl, trivial⟩
  · refine ok_if (fun c2 => ?_) (fun c2 => ?_)
    · unfold f_X6_stepAt_0_30
      unfold f_X6_stepAt_0_31
      exact ok_some ⟨rfl, trivial⟩
    · refine ok_if (fun c3 => ?_) (fun c3 => ?_)
      · unfold f_X6_stepAt_0_30
        unfold f_X6_stepAt_0_31
        exact ok_some ⟨rfl, trivial⟩
      · refine ok_chk (by have := IC_n (SC_refl hI).1; have := gi_of_nlt c1; have := gi_of_nle c2; have := gi_of_nle c3; have : (0 : Int32).toInt = 0 := rfl; have : (300 : Int32).toInt = 300 := rfl; have := fb_rng (p1); have := fb_rng (eI h 9 5); omega) ?_
        unfold f_X6_stepAt_0_31
        exact ok_some ⟨rfl, trivial⟩
theorem u_X6_clauseField_0 (h : HS) (p1 : Int32) (p2 : Int32) (hI : IC h) : ok (f_X6_clauseField_0 h p1 p2) (fun a => a.2 = h ∧ True) := by
  unfold f_X6_clauseField_0
  refine ok_if (fun c1 => ?_) (fun c1 => ?_)
  · unfold f_X6_clauseField_0_19
    exact ok_some ⟨rfl, trivial⟩
  · refine ok_if (fun c2 => ?_) (fun c2 => ?_)
    · unfold f_X6_clauseField_0_19
      exact ok_some ⟨rfl, trivial⟩
    · refine ok_if (fun c3 => ?_) (fun c3 => ?_)
      · unfold f_X6_clauseField_0_19
        exact ok_some ⟨rfl, trivial⟩
      · refine ok_if (fun c4 => ?_) (fun c4 => ?_)
        · refine ok_chk (by have := gi_of_nlt c1; have := gi_of_nle c2; have := gi_of_nlt c3; have := gi_of_lt c4; have : (0 : Int32).toInt = 0 := rfl; have : (24 : Int32).toInt = 24 := rfl; have : (4 : Int32).toInt = 4 := rfl; have := fb_rng (p1); have := fb_rng (p2); (try have := fb_mulK (x := p1) (y := 4) (k := 4) rfl (by omega) (by omega)); (try have := fb_addI (x := (p1 * 4)) (y := p2) (by omega) (by omega)); omega) ?_
          exact ok_some ⟨rfl, trivial⟩
        · unfold f_X6_clauseField_0_19
          exact ok_some ⟨rfl, trivial⟩
theorem u_X6_setClause_0 (h : HS) (p1 : Int32) (p2 : Int32) (p3 : Int32) (hI : IC h) : ok (f_X6_setClause_0 h p1 p2 p3) (fun a => SC h a ∧ True) := by
  unfold f_X6_setClause_0
  refine ok_if (fun c1 => ?_) (fun c1 => ?_)
  · unfold f_X6_setClause_0_30
    exact ok_some ⟨(SC_refl hI), trivial⟩
  · refine ok_if (fun c2 => ?_) (fun c2 => ?_)
    · unfold f_X6_setClause_0_30
      exact ok_some ⟨(SC_refl hI), trivial⟩
    · refine ok_if (fun c3 => ?_) (fun c3 => ?_)
      · unfold f_X6_setClause_0_30
        exact ok_some ⟨(SC_refl hI), trivial⟩
      · refine ok_if (fun c4 => ?_) (fun c4 => ?_)
        · unfold f_X6_setClause_0_30
          exact ok_some ⟨(SC_refl hI), trivial⟩
        · refine ok_chk (by have := gi_of_nlt c1; have := gi_of_nle c2; have := gi_of_nlt c3; have := gi_of_nle c4; have : (0 : Int32).toInt = 0 := rfl; have : (24 : Int32).toInt = 24 := rfl; have : (4 : Int32).toInt = 4 := rfl; have := fb_rng (p1); have := fb_rng (p2); (try have := fb_mulK (x := p1) (y := 4) (k := 4) rfl (by omega) (by omega)); (try have := fb_addI (x := (p1 * 4)) (y := p2) (by omega) (by omega)); omega) ?_
          unfold f_X6_setClause_0_30
          exact ok_some ⟨(SC_refl hI), trivial⟩
theorem u_X6_clear_1_12 {h0 : HS} : ∀ (n : Nat) (h : HS) (x1 : Int32), SC h0 h → 0 ≤ x1.toInt → 0 < n → (4 - (x1).toInt : Int) < (n : Int) → ok (f_X6_clear_1_12  n h x1) (fun a => SC h0 a ∧ True) := by
  intro n
  induction n with
  | zero =>
    intro h x1 hSC i0 hn hm
    exact absurd hn (by decide)
  | succ n ih_X6_clear_1_12 =>
    intro h x1 hSC i0 hn hm
    rw [f_X6_clear_1_12_s]
    refine ok_if (fun c1 => ?_) (fun c1 => ?_)
    · exact ok_some ⟨hSC, trivial⟩
    · refine ok_chk (by have := i0; have := hm; have := gi_of_nle c1; have : (4 : Int32).toInt = 4 := rfl; have := fb_rng (x1); omega) ?_
      refine ok_chk (by have := i0; have := hm; have := gi_of_nle c1; have : (4 : Int32).toInt = 4 := rfl; have := fb_rng (x1); omega) ?_
      exact ih_X6_clear_1_12 (sA (sA h 10 3 (upd (eA h 10 3) ((x1).toNatClampNeg) (-1))) 10 4 (upd (eA h 10 4) ((x1).toNatClampNeg) (-1))) (x1 + 1) hSC (by have := i0; have := hm; have := gi_of_nle c1; have : (1 : Int32).toInt = 1 := rfl; have : (4 : Int32).toInt = 4 := rfl; have := fb_rng (x1); (try have := fb_addI (x := x1) (y := 1) (by omega) (by omega)); omega) (by have := i0; have := hm; have := gi_of_nle c1; have : (1 : Int32).toInt = 1 := rfl; have : (4 : Int32).toInt = 4 := rfl; have := fb_rng (x1); (try have := fb_addI (x := x1) (y := 1) (by omega) (by omega)); omega) (by have := i0; have := hm; have := gi_of_nle c1; have : (1 : Int32).toInt = 1 := rfl; have : (4 : Int32).toInt = 4 := rfl; have := fb_rng (x1); (try have := fb_addI (x := x1) (y := 1) (by omega) (by omega)); omega)
theorem u_X6_clear_1 (h : HS) (hI : IC h) : ok (f_X6_clear_1 h) (fun a => SC h a ∧ True) := by
  unfold f_X6_clear_1
  exact u_X6_clear_1_12 (h0 := h) 8589934592 (sI (sI h 10 1 0) 10 5 0) 0 (st_10_5 (c := (sI h 10 1 0)) (x := 0) (SC_refl hI) (by have : (0 : Int32).toInt = 0 := rfl; omega) (by have : (0 : Int32).toInt = 0 := rfl; omega)) (by have : (0 : Int32).toInt = 0 := rfl; omega) (by decide) (by have : (0 : Int32).toInt = 0 := rfl; omega)
theorem u_X6_hasLaw_1 (h : HS) (p1 : Int32) (hI : IC h) : ok (f_X6_hasLaw_1 h p1) (fun a => a.2 = h ∧ (a.1 = 0 ∨ a.1 = 1)) := by
  unfold f_X6_hasLaw_1
  refine ok_if (fun c1 => ?_) (fun c1 => ?_)
  · unfold f_X6_hasLaw_1_23
    unfold f_X6_hasLaw_1_24
    refine ok_chk (Or.inl rfl) ?_
    exact ok_some ⟨rfl, (Or.inl rfl)⟩
  · refine ok_if (fun c3 => ?_) (fun c3 => ?_)
    · unfold f_X6_hasLaw_1_23
      unfold f_X6_hasLaw_1_24
      refine ok_chk (Or.inl rfl) ?_
      exact ok_some ⟨rfl, (Or.inl rfl)⟩
    · refine ok_chk (by have := gi_of_nlt c1; have := gi_of_nle c3; have : (0 : Int32).toInt = 0 := rfl; have : (4 : Int32).toInt = 4 := rfl; have := fb_rng (p1); omega) ?_
      refine ok_if (fun c6 => ?_) (fun c6 => ?_)
      · unfold f_X6_hasLaw_1_23
        unfold f_X6_hasLaw_1_24
        refine ok_chk (Or.inl rfl) ?_
        exact ok_some ⟨rfl, (Or.inl rfl)⟩
      · unfold f_X6_hasLaw_1_24
        refine ok_chk (Or.inr rfl) ?_
        exact ok_some ⟨rfl, (Or.inr rfl)⟩
theorem u_X6_beginLaw_1 (h : HS) (p1 : Int32) (hI : IC h) : ok (f_X6_beginLaw_1 h p1) (fun a => SC h a ∧ True) := by
  unfold f_X6_beginLaw_1
  refine ok_if (fun c1 => ?_) (fun c1 => ?_)
  · unfold f_X6_beginLaw_1_19
    exact ok_some ⟨(SC_refl hI), trivial⟩
  · refine ok_if (fun c2 => ?_) (fun c2 => ?_)
    · unfold f_X6_beginLaw_1_19
      exact ok_some ⟨(SC_refl hI), trivial⟩
    · refine ok_chk (by have := gi_of_nlt c1; have := gi_of_nle c2; have : (0 : Int32).toInt = 0 := rfl; have : (4 : Int32).toInt = 4 := rfl; have := fb_rng (p1); omega) ?_
      unfold f_X6_beginLaw_1_19
      exact ok_some ⟨(SC_refl hI), trivial⟩
theorem u_X6_closeLaw_1 (h : HS) (p1 : Int32) (hI : IC h) : ok (f_X6_closeLaw_1 h p1) (fun a => SC h a ∧ True) := by
  unfold f_X6_closeLaw_1
  refine ok_if (fun c1 => ?_) (fun c1 => ?_)
  · unfold f_X6_closeLaw_1_19
    exact ok_some ⟨(SC_refl hI), trivial⟩
  · refine ok_if (fun c2 => ?_) (fun c2 => ?_)
    · unfold f_X6_closeLaw_1_19
      exact ok_some ⟨(SC_refl hI), trivial⟩
    · refine ok_chk (by have := gi_of_nlt c1; have := gi_of_nle c2; have : (0 : Int32).toInt = 0 := rfl; have : (4 : Int32).toInt = 4 := rfl; have := fb_rng (p1); omega) ?_
      unfold f_X6_closeLaw_1_19
      exact ok_some ⟨(SC_refl hI), trivial⟩
theorem u_X6_firstStep_1 (h : HS) (p1 : Int32) (hI : IC h) : ok (f_X6_firstStep_1 h p1) (fun a => a.2 = h ∧ True) := by
  unfold f_X6_firstStep_1
  refine ok_if (fun c1 => ?_) (fun c1 => ?_)
  · unfold f_X6_firstStep_1_18
    unfold f_X6_firstStep_1_19
    exact ok_some ⟨rfl, trivial⟩
  · refine ok_if (fun c2 => ?_) (fun c2 => ?_)
    · unfold f_X6_firstStep_1_18
      unfold f_X6_firstStep_1_19
      exact ok_some ⟨rfl, trivial⟩
    · refine ok_chk (by have := gi_of_nlt c1; have := gi_of_nle c2; have : (0 : Int32).toInt = 0 := rfl; have : (4 : Int32).toInt = 4 := rfl; have := fb_rng (p1); omega) ?_
      unfold f_X6_firstStep_1_19
      exact ok_some ⟨rfl, trivial⟩
theorem u_X6_stepsEnd_1 (h : HS) (p1 : Int32) (hI : IC h) : ok (f_X6_stepsEnd_1 h p1) (fun a => a.2 = h ∧ True) := by
  unfold f_X6_stepsEnd_1
  refine ok_if (fun c1 => ?_) (fun c1 => ?_)
  · unfold f_X6_stepsEnd_1_18
    unfold f_X6_stepsEnd_1_19
    exact ok_some ⟨rfl, trivial⟩
  · refine ok_if (fun c2 => ?_) (fun c2 => ?_)
    · unfold f_X6_stepsEnd_1_18
      unfold f_X6_stepsEnd_1_19
      exact ok_some ⟨rfl, trivial⟩
    · refine ok_chk (by have := gi_of_nlt c1; have := gi_of_nle c2; have : (0 : Int32).toInt = 0 := rfl; have : (4 : Int32).toInt = 4 := rfl; have := fb_rng (p1); omega) ?_
      unfold f_X6_stepsEnd_1_19
      exact ok_some ⟨rfl, trivial⟩
theorem u_X6_addStep_1 (h : HS) (p1 : Int32) (hI : IC h) : ok (f_X6_addStep_1 h p1) (fun a => SC h a ∧ True) := by
  unfold f_X6_addStep_1
  refine ok_if (fun c1 => ?_) (fun c1 => ?_)
  · unfold f_X6_addStep_1_32
    exact ok_some ⟨(SC_refl hI), trivial⟩
  · refine ok_chk (by have := IC_n (SC_refl hI).1; have := gi_of_nle c1; have : (300 : Int32).toInt = 300 := rfl; have := fb_rng (eI h 10 5); omega) ?_
    unfold f_X6_addStep_1_32
    exact ok_some ⟨(st_10_5 (c := (sA h 10 2 (upd (eA h 10 2) (((eI h 10 5)).toNatClampNeg) p1))) (x := ((eI h 10 5) + 1)) (SC_refl hI) (by have := IC_n (SC_refl hI).1; have := gi_of_nle c1; have : (1 : Int32).toInt = 1 := rfl; have : (300 : Int32).toInt = 300 := rfl; have := fb_rng (eI h 10 5); (try have := fb_addI (x := (eI h 10 5)) (y := 1) (by omega) (by omega)); omega) (by have := IC_n (SC_refl hI).1; have := gi_of_nle c1; have : (1 : Int32).toInt = 1 := rfl; have : (300 : Int32).toInt = 300 := rfl; have := fb_rng (eI h 10 5); (try have := fb_addI (x := (eI h 10 5)) (y := 1) (by omega) (by omega)); omega)), trivial⟩
theorem u_X6_stepAt_1 (h : HS) (p1 : Int32) (hI : IC h) : ok (f_X6_stepAt_1 h p1) (fun a => a.2 = h ∧ True) := by
  unfold f_X6_stepAt_1
  refine ok_if (fun c1 => ?_) (fun c1 => ?_)
  · unfold f_X6_stepAt_1_30
    unfold f_X6_stepAt_1_31
    exact ok_some ⟨rfl, trivial⟩
  · refine ok_if (fun c2 => ?_) (fun c2 => ?_)
    · unfold f_X6_stepAt_1_30
      unfold f_X6_stepAt_1_31
      exact ok_some ⟨rfl, trivial⟩
    · refine ok_if (fun c3 => ?_) (fun c3 => ?_)
      · unfold f_X6_stepAt_1_30
        unfold f_X6_stepAt_1_31
        exact ok_some ⟨rfl, trivial⟩
      · refine ok_chk (by have := IC_n (SC_refl hI).1; have := gi_of_nlt c1; have := gi_of_nle c2; have := gi_of_nle c3; have : (0 : Int32).toInt = 0 := rfl; have : (300 : Int32).toInt = 300 := rfl; have := fb_rng (p1); have := fb_rng (eI h 10 5); omega) ?_
        unfold f_X6_stepAt_1_31
        exact ok_some ⟨rfl, trivial⟩
theorem u_X6_clauseField_1 (h : HS) (p1 : Int32) (p2 : Int32) (hI : IC h) : ok (f_X6_clauseField_1 h p1 p2) (fun a => a.2 = h ∧ True) := by
  unfold f_X6_clauseField_1
  refine ok_if (fun c1 => ?_) (fun c1 => ?_)
  · unfold f_X6_clauseField_1_19
    exact ok_some ⟨rfl, trivial⟩
  · refine ok_if (fun c2 => ?_) (fun c2 => ?_)
    · unfold f_X6_clauseField_1_19
      exact ok_some ⟨rfl, trivial⟩
    · refine ok_if (fun c3 => ?_) (fun c3 => ?_)
      · unfold f_X6_clauseField_1_19
        exact ok_some ⟨rfl, trivial⟩
      · refine ok_if (fun c4 => ?_) (fun c4 => ?_)
        · refine ok_chk (by have := gi_of_nlt c1; have := gi_of_nle c2; have := gi_of_nlt c3; have := gi_of_lt c4; have : (0 : Int32).toInt = 0 := rfl; have : (24 : Int32).toInt = 24 := rfl; have : (4 : Int32).toInt = 4 := rfl; have := fb_rng (p1); have := fb_rng (p2); (try have := fb_mulK (x := p1) (y := 4) (k := 4) rfl (by omega) (by omega)); (try have := fb_addI (x := (p1 * 4)) (y := p2) (by omega) (by omega)); omega) ?_
          exact ok_some ⟨rfl, trivial⟩
        · unfold f_X6_clauseField_1_19
          exact ok_some ⟨rfl, trivial⟩
theorem u_X6_setClause_1 (h : HS) (p1 : Int32) (p2 : Int32) (p3 : Int32) (hI : IC h) : ok (f_X6_setClause_1 h p1 p2 p3) (fun a => SC h a ∧ True) := by
  unfold f_X6_setClause_1
  refine ok_if (fun c1 => ?_) (fun c1 => ?_)
  · unfold f_X6_setClause_1_30
    exact ok_some ⟨(SC_refl hI), trivial⟩
  · refine ok_if (fun c2 => ?_) (fun c2 => ?_)
    · unfold f_X6_setClause_1_30
      exact ok_some ⟨(SC_refl hI), trivial⟩
    · refine ok_if (fun c3 => ?_) (fun c3 => ?_)
      · unfold f_X6_setClause_1_30
        exact ok_some ⟨(SC_refl hI), trivial⟩
      · refine ok_if (fun c4 => ?_) (fun c4 => ?_)
        · unfold f_X6_setClause_1_30
          exact ok_some ⟨(SC_refl hI), trivial⟩
        · refine ok_chk (by have := gi_of_nlt c1; have := gi_of_nle c2; have := gi_of_nlt c3; have := gi_of_nle c4; have : (0 : Int32).toInt = 0 := rfl; have : (24 : Int32).toInt = 24 := rfl; have : (4 : Int32).toInt = 4 := rfl; have := fb_rng (p1); have := fb_rng (p2); (try have := fb_mulK (x := p1) (y := 4) (k := 4) rfl (by omega) (by omega)); (try have := fb_addI (x := (p1 * 4)) (y := p2) (by omega) (by omega)); omega) ?_
          unfold f_X6_setClause_1_30
          exact ok_some ⟨(SC_refl hI), trivial⟩
theorem u_X6_clear_2_12 {h0 : HS} : ∀ (n : Nat) (h : HS) (x1 : Int32), SC h0 h → 0 ≤ x1.toInt → 0 < n → (4 - (x1).toInt : Int) < (n : Int) → ok (f_X6_clear_2_12  n h x1) (fun a => SC h0 a ∧ True) := by
  intro n
  induction n with
  | zero =>
    intro h x1 hSC i0 hn hm
    exact absurd hn (by decide)
  | succ n ih_X6_clear_2_12 =>
    intro h x1 hSC i0 hn hm
    rw [f_X6_clear_2_12_s]
    refine ok_if (fun c1 => ?_) (fun c1 => ?_)
    · exact ok_some ⟨hSC, trivial⟩
    · refine ok_chk (by have := i0; have := hm; have := gi_of_nle c1; have : (4 : Int32).toInt = 4 := rfl; have := fb_rng (x1); omega) ?_
      refine ok_chk (by have := i0; have := hm; have := gi_of_nle c1; have : (4 : Int32).toInt = 4 := rfl; have := fb_rng (x1); omega) ?_
      exact ih_X6_clear_2_12 (sA (sA h 11 3 (upd (eA h 11 3) ((x1).toNatClampNeg) (-1))) 11 4 (upd (eA h 11 4) ((x1).toNatClampNeg) (-1))) (x1 + 1) hSC (by have := i0; have := hm; have := gi_of_nle c1; have : (1 : Int32).toInt = 1 := rfl; have : (4 : Int32).toInt = 4 := rfl; have := fb_rng (x1); (try have := fb_addI (x := x1) (y := 1) (by omega) (by omega)); omega) (by have := i0; have := hm; have := gi_of_nle c1; have : (1 : Int32).toInt = 1 := rfl; have : (4 : Int32).toInt = 4 := rfl; have := fb_rng (x1); (try have := fb_addI (x := x1) (y := 1) (by omega) (by omega)); omega) (by have := i0; have := hm; have := gi_of_nle c1; have : (1 : Int32).toInt = 1 := rfl; have : (4 : Int32).toInt = 4 := rfl; have := fb_rng (x1); (try have := fb_addI (x := x1) (y := 1) (by omega) (by omega)); omega)
theorem u_X6_clear_2 (h : HS) (hI : IC h) : ok (f_X6_clear_2 h) (fun a => SC h a ∧ True) := by
  unfold f_X6_clear_2
  exact u_X6_clear_2_12 (h0 := h) 8589934592 (sI (sI h 11 1 0) 11 5 0) 0 (st_11_5 (c := (sI h 11 1 0)) (x := 0) (SC_refl hI) (by have : (0 : Int32).toInt = 0 := rfl; omega) (by have : (0 : Int32).toInt = 0 := rfl; omega)) (by have : (0 : Int32).toInt = 0 := rfl; omega) (by decide) (by have : (0 : Int32).toInt = 0 := rfl; omega)
theorem u_X6_hasLaw_2 (h : HS) (p1 : Int32) (hI : IC h) : ok (f_X6_hasLaw_2 h p1) (fun a => a.2 = h ∧ (a.1 = 0 ∨ a.1 = 1)) := by
  unfold f_X6_hasLaw_2
  refine ok_if (fun c1 => ?_) (fun c1 => ?_)
  · unfold f_X6_hasLaw_2_23
    unfold f_X6_hasLaw_2_24
    refine ok_chk (Or.inl rfl) ?_
    exact ok_some ⟨rfl, (Or.inl rfl)⟩
  · refine ok_if (fun c3 => ?_) (fun c3 => ?_)
    · unfold f_X6_hasLaw_2_23
      unfold f_X6_hasLaw_2_24
      refine ok_chk (Or.inl rfl) ?_
      exact ok_some ⟨rfl, (Or.inl rfl)⟩
    · refine ok_chk (by have := gi_of_nlt c1; have := gi_of_nle c3; have : (0 : Int32).toInt = 0 := rfl; have : (4 : Int32).toInt = 4 := rfl; have := fb_rng (p1); omega) ?_
      refine ok_if (fun c6 => ?_) (fun c6 => ?_)
      · unfold f_X6_hasLaw_2_23
        unfold f_X6_hasLaw_2_24
        refine ok_chk (Or.inl rfl) ?_
        exact ok_some ⟨rfl, (Or.inl rfl)⟩
      · unfold f_X6_hasLaw_2_24
        refine ok_chk (Or.inr rfl) ?_
        exact ok_some ⟨rfl, (Or.inr rfl)⟩
theorem u_X6_beginLaw_2 (h : HS) (p1 : Int32) (hI : IC h) : ok (f_X6_beginLaw_2 h p1) (fun a => SC h a ∧ True) := by
  unfold f_X6_beginLaw_2
  refine ok_if (fun c1 => ?_) (fun c1 => ?_)
  · unfold f_X6_beginLaw_2_19
    exact ok_some ⟨(SC_refl hI), trivial⟩
  · refine ok_if (fun c2 => ?_) (fun c2 => ?_)
    · unfold f_X6_beginLaw_2_19
      exact ok_some ⟨(SC_refl hI), trivial⟩
    · refine ok_chk (by have := gi_of_nlt c1; have := gi_of_nle c2; have : (0 : Int32).toInt = 0 := rfl; have : (4 : Int32).toInt = 4 := rfl; have := fb_rng (p1); omega) ?_
      unfold f_X6_beginLaw_2_19
      exact ok_some ⟨(SC_refl hI), trivial⟩
theorem u_X6_closeLaw_2 (h : HS) (p1 : Int32) (hI : IC h) : ok (f_X6_closeLaw_2 h p1) (fun a => SC h a ∧ True) := by
  unfold f_X6_closeLaw_2
  refine ok_if (fun c1 => ?_) (fun c1 => ?_)
  · unfold f_X6_closeLaw_2_19
    exact ok_some ⟨(SC_refl hI), trivial⟩
  · refine ok_if (fun c2 => ?_) (fun c2 => ?_)
    · unfold f_X6_closeLaw_2_19
      exact ok_some ⟨(SC_refl hI), trivial⟩
    · refine ok_chk (by have := gi_of_nlt c1; have := gi_of_nle c2; have : (0 : Int32).toInt = 0 := rfl; have : (4 : Int32).toInt = 4 := rfl; have := fb_rng (p1); omega) ?_
      unfold f_X6_closeLaw_2_19
      exact ok_some ⟨(SC_refl hI), trivial⟩
theorem u_X6_firstStep_2 (h : HS) (p1 : Int32) (hI : IC h) : ok (f_X6_firstStep_2 h p1) (fun a => a.2 = h ∧ True) := by
  unfold f_X6_firstStep_2
  refine ok_if (fun c1 => ?_) (fun c1 => ?_)
  · unfold f_X6_firstStep_2_18
    unfold f_X6_firstStep_2_19
    exact ok_some ⟨rfl, trivial⟩
  · refine ok_if (fun c2 => ?_) (fun c2 => ?_)
    · unfold f_X6_firstStep_2_18
      unfold f_X6_firstStep_2_19
      exact ok_some ⟨rfl, trivial⟩
    · refine ok_chk (by have := gi_of_nlt c1; have := gi_of_nle c2; have : (0 : Int32).toInt = 0 := rfl; have : (4 : Int32).toInt = 4 := rfl; have := fb_rng (p1); omega) ?_
      unfold f_X6_firstStep_2_19
      exact ok_some ⟨rfl, trivial⟩
theorem u_X6_stepsEnd_2 (h : HS) (p1 : Int32) (hI : IC h) : ok (f_X6_stepsEnd_2 h p1) (fun a => a.2 = h ∧ True) := by
  unfold f_X6_stepsEnd_2
  refine ok_if (fun c1 => ?_) (fun c1 => ?_)
  · unfold f_X6_stepsEnd_2_18
    unfold f_X6_stepsEnd_2_19
    exact ok_some ⟨rfl, trivial⟩
  · refine ok_if (fun c2 => ?_) (fun c2 => ?_)
    · unfold f_X6_stepsEnd_2_18
      unfold f_X6_stepsEnd_2_19
      exact ok_some ⟨rfl, trivial⟩
    · refine ok_chk (by have := gi_of_nlt c1; have := gi_of_nle c2; have : (0 : Int32).toInt = 0 := rfl; have : (4 : Int32).toInt = 4 := rfl; have := fb_rng (p1); omega) ?_
      unfold f_X6_stepsEnd_2_19
      exact ok_some ⟨rfl, trivial⟩
theorem u_X6_addStep_2 (h : HS) (p1 : Int32) (hI : IC h) : ok (f_X6_addStep_2 h p1) (fun a => SC h a ∧ True) := by
  unfold f_X6_addStep_2
  refine ok_if (fun c1 => ?_) (fun c1 => ?_)
  · unfold f_X6_addStep_2_32
    exact ok_some ⟨(SC_refl hI), trivial⟩
  · refine ok_chk (by have := IC_n (SC_refl hI).1; have := gi_of_nle c1; have : (300 : Int32).toInt = 300 := rfl; have := fb_rng (eI h 11 5); omega) ?_
    unfold f_X6_addStep_2_32
    exact ok_some ⟨(st_11_5 (c := (sA h 11 2 (upd (eA h 11 2) (((eI h 11 5)).toNatClampNeg) p1))) (x := ((eI h 11 5) + 1)) (SC_refl hI) (by have := IC_n (SC_refl hI).1; have := gi_of_nle c1; have : (1 : Int32).toInt = 1 := rfl; have : (300 : Int32).toInt = 300 := rfl; have := fb_rng (eI h 11 5); (try have := fb_addI (x := (eI h 11 5)) (y := 1) (by omega) (by omega)); omega) (by have := IC_n (SC_refl hI).1; have := gi_of_nle c1; have : (1 : Int32).toInt = 1 := rfl; have : (300 : Int32).toInt = 300 := rfl; have := fb_rng (eI h 11 5); (try have := fb_addI (x := (eI h 11 5)) (y := 1) (by omega) (by omega)); omega)), trivial⟩
theorem u_X6_stepAt_2 (h : HS) (p1 : Int32) (hI : IC h) : ok (f_X6_stepAt_2 h p1) (fun a => a.2 = h ∧ True) := by
  unfold f_X6_stepAt_2
  refine ok_if (fun c1 => ?_) (fun c1 => ?_)
  · unfold f_X6_stepAt_2_30
    unfold f_X6_stepAt_2_31
    exact ok_some ⟨rfl, trivial⟩
  · refine ok_if (fun c2 => ?_) (fun c2 => ?_)
    · unfold f_X6_stepAt_2_30
      unfold f_X6_stepAt_2_31
      exact ok_some ⟨rfl, trivial⟩
    · refine ok_if (fun c3 => ?_) (fun c3 => ?_)
      · unfold f_X6_stepAt_2_30
        unfold f_X6_stepAt_2_31
        exact ok_some ⟨rfl, trivial⟩
      · refine ok_chk (by have := IC_n (SC_refl hI).1; have := gi_of_nlt c1; have := gi_of_nle c2; have := gi_of_nle c3; have : (0 : Int32).toInt = 0 := rfl; have : (300 : Int32).toInt = 300 := rfl; have := fb_rng (p1); have := fb_rng (eI h 11 5); omega) ?_
        unfold f_X6_stepAt_2_31
        exact ok_some ⟨rfl, trivial⟩
theorem u_X6_clauseField_2 (h : HS) (p1 : Int32) (p2 : Int32) (hI : IC h) : ok (f_X6_clauseField_2 h p1 p2) (fun a => a.2 = h ∧ True) := by
  unfold f_X6_clauseField_2
  refine ok_if (fun c1 => ?_) (fun c1 => ?_)
  · unfold f_X6_clauseField_2_19
    exact ok_some ⟨rfl, trivial⟩
  · refine ok_if (fun c2 => ?_) (fun c2 => ?_)
    · unfold f_X6_clauseField_2_19
      exact ok_some ⟨rfl, trivial⟩
    · refine ok_if (fun c3 => ?_) (fun c3 => ?_)
      · unfold f_X6_clauseField_2_19
        exact ok_some ⟨rfl, trivial⟩
      · refine ok_if (fun c4 => ?_) (fun c4 => ?_)
        · refine ok_chk (by have := gi_of_nlt c1; have := gi_of_nle c2; have := gi_of_nlt c3; have := gi_of_lt c4; have : (0 : Int32).toInt = 0 := rfl; have : (24 : Int32).toInt = 24 := rfl; have : (4 : Int32).toInt = 4 := rfl; have := fb_rng (p1); have := fb_rng (p2); (try have := fb_mulK (x := p1) (y := 4) (k := 4) rfl (by omega) (by omega)); (try have := fb_addI (x := (p1 * 4)) (y := p2) (by omega) (by omega)); omega) ?_
          exact ok_some ⟨rfl, trivial⟩
        · unfold f_X6_clauseField_2_19
          exact ok_some ⟨rfl, trivial⟩
theorem u_X6_setClause_2 (h : HS) (p1 : Int32) (p2 : Int32) (p3 : Int32) (hI : IC h) : ok (f_X6_setClause_2 h p1 p2 p3) (fun a => SC h a ∧ True) := by
  unfold f_X6_setClause_2
  refine ok_if (fun c1 => ?_) (fun c1 => ?_)
  · unfold f_X6_setClause_2_30
    exact ok_some ⟨(SC_refl hI), trivial⟩
  · refine ok_if (fun c2 => ?_) (fun c2 => ?_)
    · unfold f_X6_setClause_2_30
      exact ok_some ⟨(SC_refl hI), trivial⟩
    · refine ok_if (fun c3 => ?_) (fun c3 => ?_)
      · unfold f_X6_setClause_2_30
        exact ok_some ⟨(SC_refl hI), trivial⟩
      · refine ok_if (fun c4 => ?_) (fun c4 => ?_)
        · unfold f_X6_setClause_2_30
          exact ok_some ⟨(SC_refl hI), trivial⟩
        · refine ok_chk (by have := gi_of_nlt c1; have := gi_of_nle c2; have := gi_of_nlt c3; have := gi_of_nle c4; have : (0 : Int32).toInt = 0 := rfl; have : (24 : Int32).toInt = 24 := rfl; have : (4 : Int32).toInt = 4 := rfl; have := fb_rng (p1); have := fb_rng (p2); (try have := fb_mulK (x := p1) (y := 4) (k := 4) rfl (by omega) (by omega)); (try have := fb_addI (x := (p1 * 4)) (y := p2) (by omega) (by omega)); omega) ?_
          unfold f_X6_setClause_2_30
          exact ok_some ⟨(SC_refl hI), trivial⟩
theorem u_X6_clear_3_12 {h0 : HS} : ∀ (n : Nat) (h : HS) (x1 : Int32), SC h0 h → 0 ≤ x1.toInt → 0 < n → (4 - (x1).toInt : Int) < (n : Int) → ok (f_X6_clear_3_12  n h x1) (fun a => SC h0 a ∧ True) := by
  intro n
  induction n with
  | zero =>
    intro h x1 hSC i0 hn hm
    exact absurd hn (by decide)
  | succ n ih_X6_clear_3_12 =>
    intro h x1 hSC i0 hn hm
    rw [f_X6_clear_3_12_s]
    refine ok_if (fun c1 => ?_) (fun c1 => ?_)
    · exact ok_some ⟨hSC, trivial⟩
    · refine ok_chk (by have := i0; have := hm; have := gi_of_nle c1; have : (4 : Int32).toInt = 4 := rfl; have := fb_rng (x1); omega) ?_
      refine ok_chk (by have := i0; have := hm; have := gi_of_nle c1; have : (4 : Int32).toInt = 4 := rfl; have := fb_rng (x1); omega) ?_
      exact ih_X6_clear_3_12 (sA (sA h 12 3 (upd (eA h 12 3) ((x1).toNatClampNeg) (-1))) 12 4 (upd (eA h 12 4) ((x1).toNatClampNeg) (-1))) (x1 + 1) hSC (by have := i0; have := hm; have := gi_of_nle c1; have : (1 : Int32).toInt = 1 := rfl; have : (4 : Int32).toInt = 4 := rfl; have := fb_rng (x1); (try have := fb_addI (x := x1) (y := 1) (by omega) (by omega)); omega) (by have := i0; have := hm; have := gi_of_nle c1; have : (1 : Int32).toInt = 1 := rfl; have : (4 : Int32).toInt = 4 := rfl; have := fb_rng (x1); (try have := fb_addI (x := x1) (y := 1) (by omega) (by omega)); omega) (by have := i0; have := hm; have := gi_of_nle c1; have : (1 : Int32).toInt = 1 := rfl; have : (4 : Int32).toInt = 4 := rfl; have := fb_rng (x1); (try have := fb_addI (x := x1) (y := 1) (by omega) (by omega)); omega)
theorem u_X6_clear_3 (h : HS) (hI : IC h) : ok (f_X6_clear_3 h) (fun a => SC h a ∧ True) := by
  unfold f_X6_clear_3
  exact u_X6_clear_3_12 (h0 := h) 8589934592 (sI (sI h 12 1 0) 12 5 0) 0 (st_12_5 (c := (sI h 12 1 0)) (x := 0) (SC_refl hI) (by have : (0 : Int32).toInt = 0 := rfl; omega) (by have : (0 : Int32).toInt = 0 := rfl; omega)) (by have : (0 : Int32).toInt = 0 := rfl; omega) (by decide) (by have : (0 : Int32).toInt = 0 := rfl; omega)
theorem u_X6_hasLaw_3 (h : HS) (p1 : Int32) (hI : IC h) : ok (f_X6_hasLaw_3 h p1) (fun a => a.2 = h ∧ (a.1 = 0 ∨ a.1 = 1)) := by
  unfold f_X6_hasLaw_3
  refine ok_if (fun c1 => ?_) (fun c1 => ?_)
  · unfold f_X6_hasLaw_3_23
    unfold f_X6_hasLaw_3_24
    refine ok_chk (Or.inl rfl) ?_
    exact ok_some ⟨rfl, (Or.inl rfl)⟩
  · refine ok_if (fun c3 => ?_) (fun c3 => ?_)
    · unfold f_X6_hasLaw_3_23
      unfold f_X6_hasLaw_3_24
      refine ok_chk (Or.inl rfl) ?_
      exact ok_some ⟨rfl, (Or.inl rfl)⟩
    · refine ok_chk (by have := gi_of_nlt c1; have := gi_of_nle c3; have : (0 : Int32).toInt = 0 := rfl; have : (4 : Int32).toInt = 4 := rfl; have := fb_rng (p1); omega) ?_
      refine ok_if (fun c6 => ?_) (fun c6 => ?_)
      · unfold f_X6_hasLaw_3_23
        unfold f_X6_hasLaw_3_24
        refine ok_chk (Or.inl rfl) ?_
        exact ok_some ⟨rfl, (Or.inl rfl)⟩
      · unfold f_X6_hasLaw_3_24
        refine ok_chk (Or.inr rfl) ?_
        exact ok_some ⟨rfl, (Or.inr rfl)⟩
theorem u_X6_beginLaw_3 (h : HS) (p1 : Int32) (hI : IC h) : ok (f_X6_beginLaw_3 h p1) (fun a => SC h a ∧ True) := by
  unfold f_X6_beginLaw_3
  refine ok_if (fun c1 => ?_) (fun c1 => ?_)
  · unfold f_X6_beginLaw_3_19
    exact ok_some ⟨(SC_refl hI), trivial⟩
  · refine ok_if (fun c2 => ?_) (fun c2 => ?_)
    · unfold f_X6_beginLaw_3_19
      exact ok_some ⟨(SC_refl hI), trivial⟩
    · refine ok_chk (by have := gi_of_nlt c1; have := gi_of_nle c2; have : (0 : Int32).toInt = 0 := rfl; have : (4 : Int32).toInt = 4 := rfl; have := fb_rng (p1); omega) ?_
      unfold f_X6_beginLaw_3_19
      exact ok_some ⟨(SC_refl hI), trivial⟩
theorem u_X6_closeLaw_3 (h : HS) (p1 : Int32) (hI : IC h) : ok (f_X6_closeLaw_3 h p1) (fun a => SC h a ∧ True) := by
  unfold f_X6_closeLaw_3
  refine ok_if (fun c1 => ?_) (fun c1 => ?_)
  · unfold f_X6_closeLaw_3_19
    exact ok_some ⟨(SC_refl hI), trivial⟩
  · refine ok_if (fun c2 => ?_) (fun c2 => ?_)
    · unfold f_X6_closeLaw_3_19
      exact ok_some ⟨(SC_refl hI), trivial⟩
    · refine ok_chk (by have := gi_of_nlt c1; have := gi_of_nle c2; have : (0 : Int32).toInt = 0 := rfl; have : (4 : Int32).toInt = 4 := rfl; have := fb_rng (p1); omega) ?_
      unfold f_X6_closeLaw_3_19
      exact ok_some ⟨(SC_refl hI), trivial⟩
theorem u_X6_firstStep_3 (h : HS) (p1 : Int32) (hI : IC h) : ok (f_X6_firstStep_3 h p1) (fun a => a.2 = h ∧ True) := by
  unfold f_X6_firstStep_3
  refine ok_if (fun c1 => ?_) (fun c1 => ?_)
  · unfold f_X6_firstStep_3_18
    unfold f_X6_firstStep_3_19
    exact ok_some ⟨rfl, trivial⟩
  · refine ok_if (fun c2 => ?_) (fun c2 => ?_)
    · unfold f_X6_firstStep_3_18
      unfold f_X6_firstStep_3_19
      exact ok_some ⟨rfl, trivial⟩
    · refine ok_chk (by have := gi_of_nlt c1; have := gi_of_nle c2; have : (0 : Int32).toInt = 0 := rfl; have : (4 : Int32).toInt = 4 := rfl; have := fb_rng (p1); omega) ?_
      unfold f_X6_firstStep_3_19
      exact ok_some ⟨rfl, trivial⟩
theorem u_X6_stepsEnd_3 (h : HS) (p1 : Int32) (hI : IC h) : ok (f_X6_stepsEnd_3 h p1) (fun a => a.2 = h ∧ True) := by
  unfold f_X6_stepsEnd_3
  refine ok_if (fun c1 => ?_) (fun c1 => ?_)
  · unfold f_X6_stepsEnd_3_18
    unfold f_X6_stepsEnd_3_19
    exact ok_some ⟨rfl, trivial⟩
  · refine ok_if (fun c2 => ?_) (fun c2 => ?_)
    · unfold f_X6_stepsEnd_3_18
      unfold f_X6_stepsEnd_3_19
      exact ok_some ⟨rfl, trivial⟩
    · refine ok_chk (by have := gi_of_nlt c1; have := gi_of_nle c2; have : (0 : Int32).toInt = 0 := rfl; have : (4 : Int32).toInt = 4 := rfl; have := fb_rng (p1); omega) ?_
      unfold f_X6_stepsEnd_3_19
      exact ok_some ⟨rfl, trivial⟩
theorem u_X6_addStep_3 (h : HS) (p1 : Int32) (hI : IC h) : ok (f_X6_addStep_3 h p1) (fun a => SC h a ∧ True) := by
  unfold f_X6_addStep_3
  refine ok_if (fun c1 => ?_) (fun c1 => ?_)
  · unfold f_X6_addStep_3_32
    exact ok_some ⟨(SC_refl hI), trivial⟩
  · refine ok_chk (by have := IC_n (SC_refl hI).1; have := gi_of_nle c1; have : (300 : Int32).toInt = 300 := rfl; have := fb_rng (eI h 12 5); omega) ?_
    unfold f_X6_addStep_3_32
    exact ok_some ⟨(st_12_5 (c := (sA h 12 2 (upd (eA h 12 2) (((eI h 12 5)).toNatClampNeg) p1))) (x := ((eI h 12 5) + 1)) (SC_refl hI) (by have := IC_n (SC_refl hI).1; have := gi_of_nle c1; have : (1 : Int32).toInt = 1 := rfl; have : (300 : Int32).toInt = 300 := rfl; have := fb_rng (eI h 12 5); (try have := fb_addI (x := (eI h 12 5)) (y := 1) (by omega) (by omega)); omega) (by have := IC_n (SC_refl hI).1; have := gi_of_nle c1; have : (1 : Int32).toInt = 1 := rfl; have : (300 : Int32).toInt = 300 := rfl; have := fb_rng (eI h 12 5); (try have := fb_addI (x := (eI h 12 5)) (y := 1) (by omega) (by omega)); omega)), trivial⟩
theorem u_X6_stepAt_3 (h : HS) (p1 : Int32) (hI : IC h) : ok (f_X6_stepAt_3 h p1) (fun a => a.2 = h ∧ True) := by
  unfold f_X6_stepAt_3
  refine ok_if (fun c1 => ?_) (fun c1 => ?_)
  · unfold f_X6_stepAt_3_30
    unfold f_X6_stepAt_3_31
    exact ok_some ⟨rfl, trivial⟩
  · refine ok_if (fun c2 => ?_) (fun c2 => ?_)
    · unfold f_X6_stepAt_3_30
      unfold f_X6_stepAt_3_31
      exact ok_some ⟨rfl, trivial⟩
    · refine ok_if (fun c3 => ?_) (fun c3 => ?_)
      · unfold f_X6_stepAt_3_30
        unfold f_X6_stepAt_3_31
        exact ok_some ⟨rfl, trivial⟩
      · refine ok_chk (by have := IC_n (SC_refl hI).1; have := gi_of_nlt c1; have := gi_of_nle c2; have := gi_of_nle c3; have : (0 : Int32).toInt = 0 := rfl; have : (300 : Int32).toInt = 300 := rfl; have := fb_rng (p1); have := fb_rng (eI h 12 5); omega) ?_
        unfold f_X6_stepAt_3_31
        exact ok_some ⟨rfl, trivial⟩
theorem u_X6_clauseField_3 (h : HS) (p1 : Int32) (p2 : Int32) (hI : IC h) : ok (f_X6_clauseField_3 h p1 p2) (fun a => a.2 = h ∧ True) := by
  unfold f_X6_clauseField_3
  refine ok_if (fun c1 => ?_) (fun c1 => ?_)
  · unfold f_X6_clauseField_3_19
    exact ok_some ⟨rfl, trivial⟩
  · refine ok_if (fun c2 => ?_) (fun c2 => ?_)
    · unfold f_X6_clauseField_3_19
      exact ok_some ⟨rfl, trivial⟩
    · refine ok_if (fun c3 => ?_) (fun c3 => ?_)
      · unfold f_X6_clauseField_3_19
        exact ok_some ⟨rfl, trivial⟩
      · refine ok_if (fun c4 => ?_) (fun c4 => ?_)
        · refine ok_chk (by have := gi_of_nlt c1; have := gi_of_nle c2; have := gi_of_nlt c3; have := gi_of_lt c4; have : (0 : Int32).toInt = 0 := rfl; have : (24 : Int32).toInt = 24 := rfl; have : (4 : Int32).toInt = 4 := rfl; have := fb_rng (p1); have := fb_rng (p2); (try have := fb_mulK (x := p1) (y := 4) (k := 4) rfl (by omega) (by omega)); (try have := fb_addI (x := (p1 * 4)) (y := p2) (by omega) (by omega)); omega) ?_
          exact ok_some ⟨rfl, trivial⟩
        · unfold f_X6_clauseField_3_19
          exact ok_some ⟨rfl, trivial⟩
theorem u_X6_setClause_3 (h : HS) (p1 : Int32) (p2 : Int32) (p3 : Int32) (hI : IC h) : ok (f_X6_setClause_3 h p1 p2 p3) (fun a => SC h a ∧ True) := by
  unfold f_X6_setClause_3
  refine ok_if (fun c1 => ?_) (fun c1 => ?_)
  · unfold f_X6_setClause_3_30
    exact ok_some ⟨(SC_refl hI), trivial⟩
  · refine ok_if (fun c2 => ?_) (fun c2 => ?_)
    · unfold f_X6_setClause_3_30
      exact ok_some ⟨(SC_refl hI), trivial⟩
    · refine ok_if (fun c3 => ?_) (fun c3 => ?_)
      · unfold f_X6_setClause_3_30
        exact ok_some ⟨(SC_refl hI), trivial⟩
      · refine ok_if (fun c4 => ?_) (fun c4 => ?_)
        · unfold f_X6_setClause_3_30
          exact ok_some ⟨(SC_refl hI), trivial⟩
        · refine ok_chk (by have := gi_of_nlt c1; have := gi_of_nle c2; have := gi_of_nlt c3; have := gi_of_nle c4; have : (0 : Int32).toInt = 0 := rfl; have : (24 : Int32).toInt = 24 := rfl; have : (4 : Int32).toInt = 4 := rfl; have := fb_rng (p1); have := fb_rng (p2); (try have := fb_mulK (x := p1) (y := 4) (k := 4) rfl (by omega) (by omega)); (try have := fb_addI (x := (p1 * 4)) (y := p2) (by omega) (by omega)); omega) ?_
          unfold f_X6_setClause_3_30
          exact ok_some ⟨(SC_refl hI), trivial⟩
