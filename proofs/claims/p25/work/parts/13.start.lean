theorem IC_0 : IC hC0 := by
  refine ⟨?_, ?_, ?_, ?_, ?_⟩
  · unfold IN; decide
  · intro g hg; exact (by decide : (0 : Int32).toInt ≤ 99)
  · intro s hs g hg; exact (by decide : (0 : Int32).toInt ≤ 99)
  · intro g hg; exact (by decide : (0 : Int32).toInt ≤ 99)
  · intro s hs g hg; exact (by decide : (0 : Int32).toInt ≤ 99)
theorem row_0 : RO (eA hM00 0 0) := by
  show RO (upd (upd (fun _ => 0) 4 (-1)) 122 9)
  have z : ∀ j : Nat, ¬ j = 4 → ¬ j = 122 → upd (upd (fun _ => (0 : Int32)) 4 (-1)) 122 9 j = 0 := fun j h1 h2 => by unfold upd; rw [if_neg h2, if_neg h1]
  have gb : ∀ b : Nat, (∀ j : Nat, j < 90 → ¬ b + j = 4 ∧ ¬ b + j = 122) → GB (upd (upd (fun _ => (0 : Int32)) 4 (-1)) 122 9) b := by
    intro b hb g hg
    have e : ∀ c : Nat, c < 9 → upd (upd (fun _ => (0 : Int32)) 4 (-1)) 122 9 (b + 9 * g + c) = 0 := fun c hc => by
      have := hb (9 * g + c) (by omega)
      exact z _ (by omega) (by omega)
    rw [e 1 (by omega), e 2 (by omega), e 3 (by omega), e 5 (by omega)]
    decide
  exact ⟨by unfold RC; decide, gb 30 (fun j hj => by omega), fun s hs => gb _ (fun j hj => by omega)⟩
theorem made_0 : ∃ g1, f_X9_copies hM00 1 = some g1 ∧ Inv hC0 g1 := by
  obtain ⟨g1, e, k, k1, k2⟩ := u_X9_copies_1 hM00 (by unfold NM; decide) (fun t ht => ⟨by show 0 ≤ (0 : Int32).toInt ∧ (0 : Int32).toInt ≤ 24; decide, fun k hk => absurd hk (by show ¬ (k : Int) < (0 : Int32).toInt; have : (0 : Int32).toInt = 0 := rfl; omega)⟩) (fun k hk => ⟨by show 0 ≤ (0 : Int32).toInt ∧ (0 : Int32).toInt ≤ 9; decide, by show 0 ≤ (0 : Int32).toInt ∧ (0 : Int32).toInt ≤ 11; decide⟩) row_0
  have f := w_f_X9_copies _ _ _ e
  have y0 : (0 : Int32).toInt = 0 := rfl
  have A0 : eA hM00 0 0 = upd (upd (fun _ => 0) 4 (-1)) 122 9 := rfl
  have sr : SRel hC0 1 (eA hM00 0 0) := by
    rw [A0]
    refine ⟨⟨rfl, rfl, rfl, rfl, rfl, rfl, rfl, rfl, rfl⟩, fun i hi => ?_, fun i hi => ?_, by decide, fun j hj => ?_⟩
    · have hi : (i : Int) < 9 * (0 : Int32).toInt := hi
      omega
    · have hi : (i : Int) < 3 * (0 : Int32).toInt := hi
      omega
    · have hj : j < (0 : Int32).toInt.toNat := hj
      omega
  have rg : RG (eA hM00 0 0) := by
    rw [A0]
    refine ⟨by unfold RN; decide, fun m hm => ?_, ⟨by decide, by decide, fun q hq => ?_⟩, fun j hj => ?_⟩
    · have hm : (m : Int) < (0 : Int32).toInt := hm
      omega
    · have hq : (q : Int) < (0 : Int32).toInt := hq
      omega
    · have hj : (j : Int) < (0 : Int32).toInt := hj
      omega
  have n3 : eA hM00 0 0 3 = 0 := rfl
  refine ⟨g1, e, IC_0, k, ⟨((f.1 0 3 (by decide)).trans rfl).symm, fun j j0 j1 => ?_⟩, ⟨((f.1 0 4 (by decide)).trans rfl).symm, ((f.1 0 5 (by decide)).trans rfl).symm⟩, ⟨?_, ?_, ?_⟩, ⟨?_, ?_⟩, ?_⟩
  · have j1 : j < (0 : Int32).toInt := j1
    omega
  · rw [k1]; exact sr
  · rw [k1]; exact rg
  · rw [k1, n3]
    exact ⟨fun q => absurd q (by decide), fun q => absurd q (by decide), fun q => absurd q (by decide), fun q => absurd q (by decide)⟩
  · exact SR_copy (o := 1) (o' := 2) sr rg.1 k2 rfl rfl rfl rfl rfl rfl rfl rfl rfl rfl (fun _ _ => rfl) (fun _ _ => rfl) (fun _ _ => rfl)
  · exact RG_copy rg k2
  · rw [k1, k2 3 (by decide)]; exact Int.le_refl _
theorem gK_arr {args : Array Value} {s : State} {ty : FieldType} (h : (Cond.arrayClass ty).before args s = true) (hp : ∀ (U : State) (cA : ClassId), U.vm.findClass ("[" ++ ty.toString) = some cA → va_RA U cA ty) : ∃ cA : ClassId, ArrOfT s cA ty ∧ va_RA s cA ty := by
  obtain ⟨cA, k, comp, h1, h2, h3⟩ := Cond.arrayClass_spec h
  exact ⟨cA, fun n z => ⟨fun k h => (by cases h), k, h2, comp, h3⟩, hp _ _ h1⟩
theorem gK_arrq {args : Array Value} {s : State} {C : String} (h : (Cond.arrayOver (.object C)).before args s = true) : ∃ cA : ClassId, ArrOfT s cA (.object C) ∧ va_RA s cA (.object C) := by
  obtain ⟨comp, cA, k, h1, -, h2, h3, h4⟩ := Cond.arrayOver_spec h
  exact ⟨cA, fun n z => ⟨fun k h => (by cases h), k, h2, comp, h3⟩, k, comp, h2, h3, h1, h4⟩
theorem ei_X8_init : yX8_init.cls ≠ "java/lang/invoke/MethodHandle" ∧ yX8_init.cls ≠ "java/lang/invoke/VarHandle" ∧ (parseMethodDescriptor yX8_init.desc).map (fun d => d.parameters.length) = some 0 := by decide +kernel
theorem ei_X9_init : yX9_init.cls ≠ "java/lang/invoke/MethodHandle" ∧ yX9_init.cls ≠ "java/lang/invoke/VarHandle" ∧ (parseMethodDescriptor yX9_init.desc).map (fun d => d.parameters.length) = some 0 := by decide +kernel
theorem xw_l {α : Type} {ws ws' : List α} {k : Nat} {q : α} (e : ws[k]? = some q) : (ws ++ ws')[k]? = some q := by
  rw [List.getElem?_append_left (List.getElem?_eq_some_iff.mp e).1]; exact e
theorem xw_r {α : Type} {ws ws' : List α} {k : Nat} {q : α} (e : ws'[k]? = some q) : (ws ++ ws')[ws.length + k]? = some q := by
  rw [List.getElem?_append_right (Nat.le_add_right _ _), Nat.add_sub_cancel_left]; exact e
theorem xw_Pl {D : va_G} {cl : List vw_C} {ws ws' : va_W} {H : Heap} (h : va_P D cl (ws ++ ws') H) : va_P D cl ws H := fun k q e => h k q (xw_l e)
theorem xw_Pr {D : va_G} {cl : List vw_C} {ws ws' : va_W} {H : Heap} (h : va_P D cl (ws ++ ws') H) : va_P D cl ws' H := fun k q e => h (ws.length + k) q (xw_r e)
theorem xw_Dl {A : Nat → Prop} {ws ws' : va_W} (h : va_D A (ws ++ ws')) : va_D A ws := ⟨fun i j p q e1 e2 e => h.1 i j p q (xw_l e1) (xw_l e2) e, fun k q e => h.2 k q (xw_l e)⟩
theorem xw_Dr {A : Nat → Prop} {ws ws' : va_W} (h : va_D A (ws ++ ws')) : va_D A ws' := ⟨fun i j p q e1 e2 e => Nat.add_left_cancel (h.1 (ws.length + i) (ws.length + j) p q (xw_r e1) (xw_r e2) e), fun k q e => h.2 (ws.length + k) q (xw_r e)⟩
set_option maxHeartbeats 16000000 in
set_option maxRecDepth 100000 in
theorem whole_start {p : Program} {e : Env} {s : State} {m : MethodId} {below : List Frame} {meth : Method} {c : Code} (l : Launch) {b L : Nat} {xs : Nat → Int32} (hL : L ≤ 3072) (C0 : lw_At p s m meth c b L xs) : W p l e room_1 s m #[Value.ref b] below meth c s.heap [] 0 0 (lw_Z below #[Value.ref b] s) (entryFrame m ([Value.ref b] : List Value).toArray 4) := by
  obtain ⟨hx, hb, hr, hml, hown, hts0, hX, hbl, hlocks, hgv⟩ := id C0
  have hts : ∀ w ∈ lwc, w.before #[Value.ref b] s = true := fun w h => hts0 w (lwc_in h)
  have hown : s.vm.findClass RL = some m.cls := hown
  obtain ⟨A, hAe⟩ : ∃ A : Nat → Prop, A = fun q : Nat => s.heap.size ≤ q := ⟨_, rfl⟩
  have hA : ∀ q : Nat, s.heap.size ≤ q → A q := fun q h => by rw [hAe]; exact h
  have hAs : ∀ q : Nat, A q → s.heap.size ≤ q := fun q h => by rw [hAe] at h; exact h
  obtain ⟨K, hEK⟩ := gEX_of (A := A) hts0 hgv (fun a ha h => Nat.lt_irrefl _ (Nat.lt_of_lt_of_le ha (hAs a h)))
  obtain ⟨g1, hF, hInv⟩ := made_0
  obtain ⟨k0, iS0, hKn0⟩ := u_known (C := RX0) (T := TX0) (N := 4) (n := 4) hts iX0 (hts _ m_940)
  obtain ⟨k1, iS1, hKn1⟩ := u_known (C := RX1) (T := TX1) (N := 4) (n := 4) hts iX1 (hts _ m_935)
  obtain ⟨k2, iS2, hKn2⟩ := u_known (C := RX2) (T := TX2) (N := 3) (n := 3) hts iX2 (hts _ m_931)
  obtain ⟨k3, iS3, hKn3⟩ := u_known (C := RX3) (T := TX3) (N := 16) (n := 16) hts iX3 (hts _ m_944)
  obtain ⟨k4, iS4, hKn4⟩ := u_known (C := RX4) (T := TX4) (N := 13) (n := 13) hts iX4 (hts _ m_919)
  obtain ⟨k5, iS5, hKn5⟩ := u_known (C := RX5) (T := TX5) (N := 2) (n := 2) hts iX5 (hts _ m_923)
  obtain ⟨k6, iS6, hKn6⟩ := u_known (C := RX6) (T := TX6) (N := 6) (n := 6) hts iX6 (hts _ m_914)
  obtain ⟨k7, iS7, hKn7⟩ := u_known (C := RX7) (T := TX7) (N := 5) (n := 5) hts iX7 (hts _ m_927)
  obtain ⟨k8, iS8, hKn8⟩ := u_known (C := RX8) (T := TX8) (N := 8) (n := 8) hts iX8 (hts _ m_1151)
  obtain ⟨k9, iS9, hKn9⟩ := u_known (C := RX9) (T := TX9) (N := 53) (n := 53) hts iX9 (hts _ m_1152)
  obtain ⟨G, hG9, hKc⟩ : ∃ G : va_G, G.2 99 = K ∧ ∀ (k : Nat) (q : vw_C), vwCl[k]? = some q → u_Kn s q.1 q.2.1 q.2.2 (G.1 k) (G.2 k) := by
    refine ⟨(fun k => [k0, k1, k2, k3, k4, k5, k6, k7, k8, k9].getD k k0, fun k => if k = 99 then K else [iS0, iS1, iS2, iS3, iS4, iS5, iS6, iS7, iS8, iS9].getD k iS0), rfl, ?_⟩
    intro k q hq
    match k, hq with
    | 0, hq => cases hq; exact hKn0
    | 1, hq => cases hq; exact hKn1
    | 2, hq => cases hq; exact hKn2
    | 3, hq => cases hq; exact hKn3
    | 4, hq => cases hq; exact hKn4
    | 5, hq => cases hq; exact hKn5
    | 6, hq => cases hq; exact hKn6
    | 7, hq => cases hq; exact hKn7
    | 8, hq => cases hq; exact hKn8
    | 9, hq => cases hq; exact hKn9
    | k + 10, hq => simp at hq
  obtain ⟨cI, hcI⟩ := gK_arr (hts _ m_903) (fun _ _ h => h)
  obtain ⟨cJ, hcJ⟩ := gK_arr (hts _ m_908) (fun _ _ h => h)
  obtain ⟨cZ, hcZ⟩ := gK_arr (hts _ m_910) (fun _ _ h => h)
  obtain ⟨cB, hcB⟩ := gK_arr (hts _ m_948) (fun _ _ h => h)
  obtain ⟨cT, hcT⟩ := gK_arrq (C := "GooseLetters$Text") (hts0 (.arrayOver (.object "GooseLetters$Text")) (nt_1 (List.mem_of_getElem? (i := 147) rfl)))
  have hK : va_K G vwCl (gT cI cJ cZ cB cT) s := by
    refine ⟨hKc, fun k q h => ?_⟩
    match k, h with
    | 0, h => cases h; exact hcI
    | 1, h => cases h; exact hcJ
    | 2, h => cases h; exact hcZ
    | 3, h => cases h; exact hcB
    | 4, h => cases h; exact hcT
    | k + 5, h => simp at h
  have hE : gEX G A s := hEK G hG9
  have hl := lv_entry ([.ref b]) (n := 4) (Nat.le_of_ble_eq_true rfl)
  rw [lg_entry_eq]
  generalize (lg_sl ([.ref b]) ++ List.replicate (4 - (lg_sl ([.ref b])).length) Slot.unset).toArray = ls at hl ⊢
  have hl : lv_has ls 4 [(0, .ref b)] := hl
  have hgo : ∀ H : Heap, va_P G vwCl [] H → va_D A [] → va_S A s.heap H [] → W p l e room_1 s m #[Value.ref b] below meth c H [] 0 0 (lw_Z below #[Value.ref b] s) (F0 m 0 ls []) := by
    intro H hP hD hS
    refine va_new (D := G) (ci := 8) (fs := [.null, .null, .null, .null, .null, .null, .null, .null]) (C := RX8) (T := TX8) (N := 8) hx hb hts iX8 tyX8 tyX8_ok hown (hts _ m_1153) (hts _ m_1151) (hts _ m_60) hK hP hD hS hA rfl (by decide +kernel) (Nat.le_of_ble_eq_true rfl) (Nat.le_of_ble_eq_true rfl) dL_law_0 (fun q1 H hP hD hS => ?_)
    have hP : va_P G vwCl [(q1, .inr (8, [.null, .null, .null, .null, .null, .null, .null, .null]))] H := hP
    have hD : va_D A [(q1, .inr (8, [.null, .null, .null, .null, .null, .null, .null, .null]))] := hD
    refine lv_dup hx hb dL_law_3 rfl ?_
    refine gw_callc (gw_runI (As := []) (rest := [.ref q1]) ⟨hx, hb, hml, hown, hts⟩ (c_X8_init l G cI cJ cZ cB cT q1 H.size) (gG_I m_1154) rfl (hts _ m_60) (hts _ m_1155) (hts _ m_1156) rfl ei_X8_init ⟨Nat.le_of_ble_eq_true rfl, Nat.le_of_ble_eq_true rfl⟩ hK hP hD [0] rfl (by decide) rfl (gK_and (gK_and (gK_nest _ _ _ _) (gK_and (gK_nest _ _ _ _) (gK_and (gK_nest _ _ _ _) (gK_and (gK_nest _ _ _ _) (gK_and (gK_nest _ _ _ _) (gK_nest _ _ _ _)))))) (gK_and (gK_nest _ _ _ _) (gK_over _))) ⟨⟨va_Nw.of rfl (hts0 (.methodLinkNest RX8 9 yX4_init "GooseLetters") (nt_1 (List.mem_of_getElem? (i := 27) rfl))), va_Nw.of rfl (hts0 (.methodLinkNest RX8 21 yX5_init "GooseLetters") (nt_1 (List.mem_of_getElem? (i := 87) rfl))), va_Nw.of rfl (hts0 (.methodLinkNest RX8 28 yX7_init "GooseLetters") (nt_1 (List.mem_of_getElem? (i := 102) rfl))), va_Nw.of rfl (hts0 (.methodLinkNest RX8 35 yX2_init "GooseLetters") (nt_1 (List.mem_of_getElem? (i := 124) rfl))), va_Nw.of rfl (hts0 (.methodLinkNest RX8 49 yX0_init "GooseLetters") (nt_1 (List.mem_of_getElem? (i := 189) rfl))), va_Nw.of rfl (hts0 (.methodLinkNest RX8 56 yX3_init "GooseLetters") (nt_1 (List.mem_of_getElem? (i := 211) rfl)))⟩, va_Nw.of rfl (hts0 (.methodLinkNest RX1 28 yX6_init "GooseLetters") (nt_1 (List.mem_of_getElem? (i := 149) rfl))), va_AO.of (hts0 (.arrayOver (.object "GooseLetters$Text")) (nt_1 (List.mem_of_getElem? (i := 147) rfl)))⟩ hE hS hA rfl hl.1 rfl (Nat.le_of_ble_eq_true rfl) dL_law_4 ⟨Nat.le_of_ble_eq_true rfl, Nat.le_of_ble_eq_true rfl⟩) hP hD hS hA [0] [] rfl rfl (by decide) (by decide) (fun q H locs hwq hP hD hS => ?_)
    have hP : va_P G vwCl (wC q cI cJ cZ cB cT hC0) H := hP
    have hD : va_D A (wC q cI cJ cZ cB cT hC0) := hD
    have hwq : q 0 = q1 := hwq
    subst hwq
    refine lv_astore_n (lv' := [(1, .ref (q 0)), (0, .ref b)]) hx hb dL_law_7 rfl hl (by decide) rfl (fun ls hl => ?_)
    refine va_new (D := G) (ci := 9) (fs := [.null, .null, .null, .int 0, .int 0, .int 0, .null, .null, .null, .null, .null, .null, .null, .null, .int 0, .int 0, .int 0, .int 0, .int 0, .int 0, .int 0, .int 0, .int 0, .null, .null, .int 0, .null, .null, .int 0, .int 0, .int 0, .null, .null, .null, .null, .null, .int 0, .null, .null, .null, .null, .null, .null, .null, .null, .null, .null, .int 0, .null, .null, .null, .null, .long 0]) (C := RX9) (T := TX9) (N := 53) hx hb hts iX9 tyX9 tyX9_ok hown (hts _ m_1157) (hts _ m_1152) (hts _ m_64) hK hP hD hS hA rfl (by decide +kernel) (Nat.le_of_ble_eq_true rfl) (Nat.le_of_ble_eq_true rfl) dL_law_8 (fun m0 H hP hD hS => ?_)
    refine lv_dup hx hb dL_law_11 rfl ?_
    refine gw_callc (gw_runI (As := []) (rest := [.ref m0]) ⟨hx, hb, hml, hown, hts⟩ (c_X9_init l G cI cJ cZ cB cT m0 g1 hF H.size) (gG_I m_1158) rfl (hts _ m_64) (hts _ m_1159) (hts _ m_1160) rfl ei_X9_init ⟨Nat.le_of_ble_eq_true rfl, Nat.le_of_ble_eq_true rfl⟩ hK hP hD [52] rfl (by decide) rfl gK_true trivial hE hS hA rfl hl.1 rfl (Nat.le_of_ble_eq_true rfl) dL_law_12 ⟨Nat.le_of_ble_eq_true rfl, Nat.le_of_ble_eq_true rfl⟩) hP hD hS hA [52] [0, 1, 2, 3, 4, 5, 6, 7, 8, 9, 10, 11, 12, 13, 14, 15, 16, 17, 18, 19, 20, 21, 22, 23, 24, 25, 26, 27, 28, 29, 30, 31, 32, 33, 34, 35, 36, 37, 38, 39, 40, 41, 42, 43, 44, 45, 46, 47, 48, 49, 50, 51] rfl rfl (by decide +kernel) (by decide +kernel) (fun r H locs hwr hP hD hS => ?_)
    have hP2 : va_P G vwCl ((wC q cI cJ cZ cB cT hC0) ++ (wM m0 r cI cJ cZ cB cT g1)) H := hP
    have hD2 : va_D A ((wC q cI cJ cZ cB cT hC0) ++ (wM m0 r cI cJ cZ cB cT g1)) := hD
    have hPm : va_P G vwCl (wM m0 r cI cJ cZ cB cT g1) H := xw_Pr hP2
    have hDm : va_D A (wM m0 r cI cJ cZ cB cT g1) := xw_Dr hD2
    have hPc : va_P G vwCl (wC q cI cJ cZ cB cT hC0) H := xw_Pl hP2
    have hDc : va_D A (wC q cI cJ cZ cB cT hC0) := xw_Dl hD2
    have lC : ((wC q cI cJ cZ cB cT hC0)).length = 52 := rfl
    have hab : gApart (wC q cI cJ cZ cB cT hC0) (wM m0 r cI cJ cZ cB cT g1) := by
      intro i j p q' hi hj e
      have hi2 := (List.getElem?_eq_some_iff.mp hi).1
      have e1 : ((wC q cI cJ cZ cB cT hC0) ++ (wM m0 r cI cJ cZ cB cT g1))[i]? = some p := by rw [List.getElem?_append_left hi2]; exact hi
      have e2 : ((wC q cI cJ cZ cB cT hC0) ++ (wM m0 r cI cJ cZ cB cT g1))[52 + j]? = some q' := by
        rw [List.getElem?_append_right (by rw [lC]; omega), lC, Nat.add_sub_cancel_left]; exact hj
      have e3 := hD2.1 i (52 + j) p q' e1 e2 e
      rw [lC] at hi2
      omega
    refine lv_astore_n (lv' := [(2, .ref m0), (1, .ref (q 0)), (0, .ref b)]) hx hb dL_law_15 rfl hl (by decide) rfl (fun ls hl => ?_)
    refine lv_iconst (v := 0) hx hb dL_law_16 (by decide) ?_
    refine lv_istore_n (lv' := [(3, .int 0), (2, .ref m0), (1, .ref (q 0)), (0, .ref b)]) hx hb dL_law_17 rfl hl (by decide) rfl (fun ls hl => ?_)
    refine W.widen (k := 600000) (n := 7302249) (Nat.le_of_ble_eq_true rfl) (Nat.le_of_ble_eq_true rfl) ?_
    exact law_loop hL C0 hAs hA hK hE (q := q) (r := r) (m0 := m0) law_step (L + 1) 0 (Nat.zero_le L) (by omega) hC0 g1 hInv H _ ls hPc hDc hPm hDm hab hS (lv_sub hl [3, 2, 1, 0] rfl)
  exact hgo s.heap (fun k q h => by simp at h) ⟨fun i j p q h => by simp at h, fun k q h => by simp at h⟩ va_S.rf
