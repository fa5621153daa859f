set_option maxHeartbeats 4000000 in
set_option maxRecDepth 100000 in
theorem law_loop {p : Program} {l : Launch} {e : Env} {s : State} {m : MethodId} {below : List Frame} {meth : Method} {c : Code} {G : va_G} {cI cJ cZ cB cT : ClassId} {b L : Nat} {xs : Nat → Int32} {A : Nat → Prop} {Inv : HS → HS → Prop} (hL : L ≤ 3072) (C0 : lw_At p s m meth c b L xs) (hAs : ∀ q, A q → s.heap.size ≤ q) (hA : ∀ q, s.heap.size ≤ q → A q) (hK : va_K G vwCl (gT cI cJ cZ cB cT) s) (hE : gEX G A s) {q r : Nat → Nat} {m0 : Nat} (hst : LawStep (fun k => k = 8) Inv) : ∀ (n i : Nat), i ≤ L → L < i + n → ∀ (h g : HS), Inv h g → ∀ (H : Heap) (locs : List Loc) (ls : Array Slot), va_P G vwCl (wC q cI cJ cZ cB cT h) H → va_D A (wC q cI cJ cZ cB cT h) → va_P G vwCl (wM m0 r cI cJ cZ cB cT g) H → va_D A (wM m0 r cI cJ cZ cB cT g) → gApart (wC q cI cJ cZ cB cT h) (wM m0 r cI cJ cZ cB cT g) → va_S A s.heap H locs → lv_has ls 4 [(0, .ref b), (1, .ref (q 0)), (2, .ref m0), (3, .int (nI i))] → W p l e room_1 s m #[Value.ref b] below meth c H locs 600000 7302249 (lw_Z below #[Value.ref b] s) (F0 m 18 ls []) := by
  intro n
  induction n with
  | zero =>
    intro i h1 h2
    exact absurd h2 (by omega)
  | succ n ih =>
    intro i hiL hin h g hI H locs ls hP hD hPm hDm hab hS hl
    obtain ⟨hx, hb, hr, hml, hown, hts, hX, hbl, hlocks, hgv⟩ := id C0
    have hts : ∀ w ∈ lwc, w.before #[Value.ref b] s = true := fun w h => hts w (lwc_in h)
    have hown : s.vm.findClass RL = some m.cls := hown
    have hbA : ¬ A b := fun h => Nat.lt_irrefl _ (Nat.lt_of_lt_of_le hbl (hAs b h))
    have hsub : (Int32.ofNat L - 6).toInt = (L : Int) - 6 := pk_sub_toInt (a := L) (b := 6) (by omega) (by decide)
    have hti := nI_toInt (n := i) (by omega)
    have hback : ∀ (h g : HS), i + 6 ≤ L → Inv h g → ∀ (H : Heap) (locs : List Loc) (ls : Array Slot), va_P G vwCl (wC q cI cJ cZ cB cT h) H → va_D A (wC q cI cJ cZ cB cT h) → va_P G vwCl (wM m0 r cI cJ cZ cB cT g) H → va_D A (wM m0 r cI cJ cZ cB cT g) → gApart (wC q cI cJ cZ cB cT h) (wM m0 r cI cJ cZ cB cT g) → va_S A s.heap H locs → lv_has ls 4 [(0, .ref b), (1, .ref (q 0)), (2, .ref m0), (3, .int (nI i))] → W p l e room_1 s m #[Value.ref b] below meth c H locs 600000 7302249 (lw_Z below #[Value.ref b] s) (F0 m 1013 ls []) := by
      intro h g hi6 hI H locs ls hP hD hPm hDm hab hS hl
      refine lv_iinc (v := nI (i + 6)) (lv' := [(3, .int (nI (i + 6))), (0, .ref b), (1, .ref (q 0)), (2, .ref m0)]) hx hb dL_law_1013 hl (k := 3) rfl (nI_add i 6) (by decide) rfl (fun ls hl => ?_)
      refine lv_goto (tgt := 18) hx hb dL_law_1016 (by decide) ?_
      exact ih (i + 6) hi6 (by omega) h g hI H _ ls hP hD hPm hDm hab hS (lv_sub hl [1, 2, 3, 0] rfl)
    refine lv_iload_n hx hb dL_law_18 rfl (lv_at hl 3 rfl) ?_
    refine lv_aload_n hx hb dL_law_19 rfl (lv_at hl 0 rfl) ?_
    refine va_slen hx hb hX hbl hbA hS dL_law_20 ?_
    refine lv_bipush (v := 6) hx hb dL_law_21 (by decide) ?_
    refine lv_isub hx hb dL_law_23 ?_
    refine lv_icmp_gt (tgt := 1019) hx hb dL_law_24 (by decide) (fun _ => ?_) (fun c1 => ?_)
    · refine lv_iconst (v := 1) hx hb dL_law_1019 (by decide) ?_
      refine va_forget (fun q hq => hAs _ (hS.2.2 q hq)) ?_
      exact lw_ret hx hb hr hlocks dL_law_1020
    · have hi6 : i + 6 ≤ L := by
        have := gi_of_nlt c1
        omega
      refine lv_aload_n hx hb dL_law_27 rfl (lv_at hl 0 rfl) ?_
      refine lv_iload_n hx hb dL_law_28 rfl (lv_at hl 3 rfl) ?_
      refine gw_sld hx hb hX hbl hbA hS i rfl (by omega) (by omega) dL_law_29 ?_
      refine lv_bipush (v := 31) hx hb dL_law_30 (by decide) ?_
      refine lv_iand hx hb dL_law_32 ?_
      obtain ⟨j, hj, ej⟩ := pk_andE (xs i) (m := 31) 5 (by decide)
      refine gw_topi ej ?_
      rcases j32 j (by omega) with rfl | rfl | rfl | rfl | rfl | rfl | rfl | rfl | rfl | rfl | rfl | rfl | rfl | rfl | rfl | rfl | rfl | rfl | rfl | rfl | rfl | rfl | rfl | rfl | rfl | rfl | rfl | rfl | rfl | rfl | rfl | rfl
      · refine lv_tableIn (tgt := 164) (off := 131) hx hb dL_law_33 (by decide +kernel) (by decide +kernel) (by decide +kernel) (by decide +kernel) ?_
        exact law_case0 hL C0 hAs hA hK hE (q := q) (r := r) (m0 := m0) hst hi6 (fun h g => hback h g hi6) hI hP hD hPm hDm hab hS hl
      · refine lv_tableIn (tgt := 207) (off := 174) hx hb dL_law_33 (by decide +kernel) (by decide +kernel) (by decide +kernel) (by decide +kernel) ?_
        exact law_case1 hL C0 hAs hA hK hE (q := q) (r := r) (m0 := m0) hst hi6 (fun h g => hback h g hi6) hI hP hD hPm hDm hab hS hl
      · refine lv_tableIn (tgt := 240) (off := 207) hx hb dL_law_33 (by decide +kernel) (by decide +kernel) (by decide +kernel) (by decide +kernel) ?_
        exact law_case2 hL C0 hAs hA hK hE (q := q) (r := r) (m0 := m0) hst hi6 (fun h g => hback h g hi6) hI hP hD hPm hDm hab hS hl
      · refine lv_tableIn (tgt := 273) (off := 240) hx hb dL_law_33 (by decide +kernel) (by decide +kernel) (by decide +kernel) (by decide +kernel) ?_
        exact law_case3 hL C0 hAs hA hK hE (q := q) (r := r) (m0 := m0) hst hi6 (fun h g => hback h g hi6) hI hP hD hPm hDm hab hS hl
      · refine lv_tableIn (tgt := 296) (off := 263) hx hb dL_law_33 (by decide +kernel) (by decide +kernel) (by decide +kernel) (by decide +kernel) ?_
        exact law_case4 hL C0 hAs hA hK hE (q := q) (r := r) (m0 := m0) hst hi6 (fun h g => hback h g hi6) hI hP hD hPm hDm hab hS hl
      · refine lv_tableIn (tgt := 339) (off := 306) hx hb dL_law_33 (by decide +kernel) (by decide +kernel) (by decide +kernel) (by decide +kernel) ?_
        exact law_case5 hL C0 hAs hA hK hE (q := q) (r := r) (m0 := m0) hst hi6 (fun h g => hback h g hi6) hI hP hD hPm hDm hab hS hl
      · refine lv_tableIn (tgt := 372) (off := 339) hx hb dL_law_33 (by decide +kernel) (by decide +kernel) (by decide +kernel) (by decide +kernel) ?_
        exact law_case6 hL C0 hAs hA hK hE (q := q) (r := r) (m0 := m0) hst hi6 (fun h g => hback h g hi6) hI hP hD hPm hDm hab hS hl
      · refine lv_tableIn (tgt := 395) (off := 362) hx hb dL_law_33 (by decide +kernel) (by decide +kernel) (by decide +kernel) (by decide +kernel) ?_
        exact law_case7 hL C0 hAs hA hK hE (q := q) (r := r) (m0 := m0) hst hi6 (fun h g => hback h g hi6) hI hP hD hPm hDm hab hS hl
      · refine lv_tableIn (tgt := 418) (off := 385) hx hb dL_law_33 (by decide +kernel) (by decide +kernel) (by decide +kernel) (by decide +kernel) ?_
        exact law_case8 hL C0 hAs hA hK hE (q := q) (r := r) (m0 := m0) hst hi6 (fun h g => hback h g hi6) hI hP hD hPm hDm hab hS hl
      · refine lv_tableIn (tgt := 441) (off := 408) hx hb dL_law_33 (by decide +kernel) (by decide +kernel) (by decide +kernel) (by decide +kernel) ?_
        exact law_case9 hL C0 hAs hA hK hE (q := q) (r := r) (m0 := m0) hst hi6 (fun h g => hback h g hi6) hI hP hD hPm hDm hab hS hl
      · refine lv_tableIn (tgt := 464) (off := 431) hx hb dL_law_33 (by decide +kernel) (by decide +kernel) (by decide +kernel) (by decide +kernel) ?_
        exact law_case10 hL C0 hAs hA hK hE (q := q) (r := r) (m0 := m0) hst hi6 (fun h g => hback h g hi6) hI hP hD hPm hDm hab hS hl
      · refine lv_tableIn (tgt := 527) (off := 494) hx hb dL_law_33 (by decide +kernel) (by decide +kernel) (by decide +kernel) (by decide +kernel) ?_
        exact law_case11 hL C0 hAs hA hK hE (q := q) (r := r) (m0 := m0) hst hi6 (fun h g => hback h g hi6) hI hP hD hPm hDm hab hS hl
      · refine lv_tableIn (tgt := 550) (off := 517) hx hb dL_law_33 (by decide +kernel) (by decide +kernel) (by decide +kernel) (by decide +kernel) ?_
        exact law_case12 hL C0 hAs hA hK hE (q := q) (r := r) (m0 := m0) hst hi6 (fun h g => hback h g hi6) hI hP hD hPm hDm hab hS hl
      · refine lv_tableIn (tgt := 563) (off := 530) hx hb dL_law_33 (by decide +kernel) (by decide +kernel) (by decide +kernel) (by decide +kernel) ?_
        exact law_case13 hL C0 hAs hA hK hE (q := q) (r := r) (m0 := m0) hst hi6 (fun h g => hback h g hi6) hI hP hD hPm hDm hab hS hl
      · refine lv_tableIn (tgt := 586) (off := 553) hx hb dL_law_33 (by decide +kernel) (by decide +kernel) (by decide +kernel) (by decide +kernel) ?_
        exact law_case14 hL C0 hAs hA hK hE (q := q) (r := r) (m0 := m0) hst hi6 (fun h g => hback h g hi6) hI hP hD hPm hDm hab hS hl
      · refine lv_tableIn (tgt := 609) (off := 576) hx hb dL_law_33 (by decide +kernel) (by decide +kernel) (by decide +kernel) (by decide +kernel) ?_
        exact law_case15 hL C0 hAs hA hK hE (q := q) (r := r) (m0 := m0) hst hi6 (fun h g => hback h g hi6) hI hP hD hPm hDm hab hS hl
      · refine lv_tableIn (tgt := 632) (off := 599) hx hb dL_law_33 (by decide +kernel) (by decide +kernel) (by decide +kernel) (by decide +kernel) ?_
        exact law_case16 hL C0 hAs hA hK hE (q := q) (r := r) (m0 := m0) hst hi6 (fun h g => hback h g hi6) hI hP hD hPm hDm hab hS hl
      · refine lv_tableIn (tgt := 645) (off := 612) hx hb dL_law_33 (by decide +kernel) (by decide +kernel) (by decide +kernel) (by decide +kernel) ?_
        exact law_case17 hL C0 hAs hA hK hE (q := q) (r := r) (m0 := m0) hst hi6 (fun h g => hback h g hi6) hI hP hD hPm hDm hab hS hl
      · refine lv_tableIn (tgt := 678) (off := 645) hx hb dL_law_33 (by decide +kernel) (by decide +kernel) (by decide +kernel) (by decide +kernel) ?_
        exact law_case18 hL C0 hAs hA hK hE (q := q) (r := r) (m0 := m0) hst hi6 (fun h g => hback h g hi6) hI hP hD hPm hDm hab hS hl
      · refine lv_tableIn (tgt := 721) (off := 688) hx hb dL_law_33 (by decide +kernel) (by decide +kernel) (by decide +kernel) (by decide +kernel) ?_
        exact law_case19 hL C0 hAs hA hK hE (q := q) (r := r) (m0 := m0) hst hi6 (fun h g => hback h g hi6) hI hP hD hPm hDm hab hS hl
      · refine lv_tableIn (tgt := 754) (off := 721) hx hb dL_law_33 (by decide +kernel) (by decide +kernel) (by decide +kernel) (by decide +kernel) ?_
        exact law_case20 hL C0 hAs hA hK hE (q := q) (r := r) (m0 := m0) hst hi6 (fun h g => hback h g hi6) hI hP hD hPm hDm hab hS hl
      · refine lv_tableIn (tgt := 803) (off := 770) hx hb dL_law_33 (by decide +kernel) (by decide +kernel) (by decide +kernel) (by decide +kernel) ?_
        exact law_case21 hL C0 hAs hA hK hE (q := q) (r := r) (m0 := m0) hst hi6 (fun h g => hback h g hi6) hI hP hD hPm hDm hab hS hl
      · refine lv_tableIn (tgt := 826) (off := 793) hx hb dL_law_33 (by decide +kernel) (by decide +kernel) (by decide +kernel) (by decide +kernel) ?_
        exact law_case22 hL C0 hAs hA hK hE (q := q) (r := r) (m0 := m0) hst hi6 (fun h g => hback h g hi6) hI hP hD hPm hDm hab hS hl
      · refine lv_tableIn (tgt := 849) (off := 816) hx hb dL_law_33 (by decide +kernel) (by decide +kernel) (by decide +kernel) (by decide +kernel) ?_
        exact law_case23 hL C0 hAs hA hK hE (q := q) (r := r) (m0 := m0) hst hi6 (fun h g => hback h g hi6) hI hP hD hPm hDm hab hS hl
      · refine lv_tableIn (tgt := 908) (off := 875) hx hb dL_law_33 (by decide +kernel) (by decide +kernel) (by decide +kernel) (by decide +kernel) ?_
        exact law_case24 hL C0 hAs hA hK hE (q := q) (r := r) (m0 := m0) hst hi6 (fun h g => hback h g hi6) hI hP hD hPm hDm hab hS hl
      · refine lv_tableIn (tgt := 951) (off := 918) hx hb dL_law_33 (by decide +kernel) (by decide +kernel) (by decide +kernel) (by decide +kernel) ?_
        exact law_case25 hL C0 hAs hA hK hE (q := q) (r := r) (m0 := m0) hst hi6 (fun h g => hback h g hi6) hI hP hD hPm hDm hab hS hl
      · refine lv_tableIn (tgt := 964) (off := 931) hx hb dL_law_33 (by decide +kernel) (by decide +kernel) (by decide +kernel) (by decide +kernel) ?_
        exact law_case26 hL C0 hAs hA hK hE (q := q) (r := r) (m0 := m0) hst hi6 (fun h g => hback h g hi6) hI hP hD hPm hDm hab hS hl
      · refine lv_tableIn (tgt := 977) (off := 944) hx hb dL_law_33 (by decide +kernel) (by decide +kernel) (by decide +kernel) (by decide +kernel) ?_
        exact law_case27 hL C0 hAs hA hK hE (q := q) (r := r) (m0 := m0) hst hi6 (fun h g => hback h g hi6) hI hP hD hPm hDm hab hS hl
      · refine lv_tableIn (tgt := 990) (off := 957) hx hb dL_law_33 (by decide +kernel) (by decide +kernel) (by decide +kernel) (by decide +kernel) ?_
        exact law_case28 hL C0 hAs hA hK hE (q := q) (r := r) (m0 := m0) hst hi6 (fun h g => hback h g hi6) hI hP hD hPm hDm hab hS hl
      · refine lv_tableOut (tgt := 1013) hx hb dL_law_33 (by decide +kernel) (by decide +kernel) ?_
        exact hback h g hi6 hI H _ ls hP hD hPm hDm hab hS hl
      · refine lv_tableOut (tgt := 1013) hx hb dL_law_33 (by decide +kernel) (by decide +kernel) ?_
        exact hback h g hi6 hI H _ ls hP hD hPm hDm hab hS hl
      · refine lv_tableOut (tgt := 1013) hx hb dL_law_33 (by decide +kernel) (by decide +kernel) ?_
        exact hback h g hi6 hI H _ ls hP hD hPm hDm hab hS hl
