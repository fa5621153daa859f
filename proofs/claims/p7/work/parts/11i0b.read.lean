theorem one_0 {B : Int → Int} {L : Int} {P : Nat → Int} {d : Nat} {n : Nat} (ih1 : OneS_0 B L P d n) (ih2 : LevS_0 B L P d n) : OneS_0 B L P d (n + 1) := by
  have z1 : (1 : Int32).toInt = 1 := rfl
  have z2 : (2 : Int32).toInt = 2 := rfl
  have z3 : (3 : Int32).toInt = 3 := rfl
  have z5 : (5 : Int32).toInt = 5 := rfl
  have z6 : (6 : Int32).toInt = 6 := rfl
  have z7 : (7 : Int32).toInt = 7 := rfl
  have z10 : (10 : Int32).toInt = 10 := rfl
  have z12 : (12 : Int32).toInt = 12 := rfl
  have z13 : (13 : Int32).toInt = 13 := rfl
  have z14 : (14 : Int32).toInt = 14 := rfl
  have z29 : (29 : Int32).toInt = 29 := rfl
  have z35 : (35 : Int32).toInt = 35 := rfl
  have z37 : (37 : Int32).toInt = 37 := rfl
  have z40 : (40 : Int32).toInt = 40 := rfl
  have z41 : (41 : Int32).toInt = 41 := rfl
  have z45 : (45 : Int32).toInt = 45 := rfl
  have z0 : (0 : Int32).toInt = 0 := rfl
  have z9999 : (9999 : Int32).toInt = 9999 := rfl
  have z10000 : (10000 : Int32).toInt = 10000 := rfl
  intro h h' g N r op e x st fr et
  obtain ⟨t, f0, g0, hop, hop2, wf, b0, sb, lk1, lk2⟩ := id x
  obtain ⟨N1, g1, eb, et⟩ := (mp_turn et g0).2.1 st
  replace e : f_X2_readOne_0_b (fun h p1 p2 => G_read_0 n 0 h p1 p2) (fun h p1 => G_read_0 n 1 h p1 0) (fun h p1 => G_read_0 n 2 h p1 0) h op = some h' := e
  unfold f_X2_readOne_0_b at e
  obtain ⟨r1, h1, e1, e⟩ := ob2_some e
  obtain ⟨q1, q2⟩ := TT_kind t e1
  obtain rfl : h = h1 := q1.symm
  replace q2 : r1.toInt = kd h := q2
  unfold f_X9_begins at eb
  by_cases k2 : kd h = 2
  · obtain ⟨so, nr⟩ := TK_num t k2
    rw [if_pos (gi_eq (by omega))] at e
    rw [if_pos (gi_eq (by omega))] at eb
    obtain ⟨h6, e6, e⟩ := ob1_some e
    unfold f_X2_readOne_0_121 at e
    cases e
    unfold f_X2_readValue_0 at e6
    obtain ⟨r3, h3, e3, e6⟩ := ob2_some e6
    obtain ⟨q3, q4⟩ := TT_value t e3
    obtain rfl : h = h3 := q3.symm
    replace q4 : r3.toInt = vl h := q4
    by_cases c : r3 ≤ 9999
    · rw [if_pos c] at e6
      have dc := gi_of_le c
      obtain ⟨r5, h5, e5, e6⟩ := ob2_some e6
      obtain ⟨q5, q6⟩ := TT_value t e5
      obtain rfl : h = h5 := q5.symm
      replace q6 : r5.toInt = vl h := q6
      obtain ⟨h7, e7, e6⟩ := ob1_some e6
      obtain ⟨h8, e8, e6⟩ := ob1_some e6
      cases e6
      have nr2 : vl h = (eI g 0 18).toInt ∧ 0 ≤ (eI g 0 18).toInt ∧ (eI g 0 18).toInt ≤ 9999 := by unfold NR at nr; omega
      rw [if_pos (gi_le (by omega))] at eb
      obtain ⟨g8, b8, eb⟩ := ob1_some eb
      obtain ⟨g9, b9, eb⟩ := ob1_some eb
      obtain ⟨g10, b10, eb⟩ := ob1_some eb
      unfold f_X9_begins_154 at eb
      cases eb
      unfold f_X9_oneIsOver at b10
      exact Or.inr ⟨N1, _, g9, _, b10, et, leaf_0 x (by omega) e7 e8 b8 b9 (Or.inl ⟨by omega, by omega, rfl, by omega⟩)⟩
    · rw [if_neg c] at e6
      have dc := gi_of_nle c
      obtain ⟨h7, e7, e6⟩ := ob1_some e6
      cases e6
      rw [if_neg (fun q => by have := gi_of_le q; unfold NR at nr; omega)] at eb
      obtain ⟨g8, b8, eb⟩ := ob1_some eb
      cases eb
      exact Or.inl (bad_here t f0 g0 e7 b8 (by decide) et)
  · have tn := TK_not t k2
    rw [if_neg (fun q => by have := gi_of_eq q; omega)] at e
    by_cases kn : 29 ≤ kd h
    · have ko : 16 ≤ kd h ∧ kd h ≤ 37 ∧ (eI g 0 17).toInt = 1 ∧ (eI g 0 18).toInt = kd h - 16 := by
        rcases tn with q | q | q | q
        · omega
        · exact q
        · omega
        · have := q.2; unfold SG at this; omega
      rw [if_neg (fun q => by have := gi_of_lt q; omega), if_neg (fun q => by have := gi_of_lt q; omega)] at e
      obtain ⟨h6, e6, e⟩ := ob1_some e
      unfold f_X2_readOne_0_121 at e
      cases e
      rw [if_neg (fun q => by have := gi_of_eq q; omega), if_pos (gi_eq (by omega)), if_neg (fun q => by have := gi_of_le q; omega)] at eb
      have v1 := fb_subI (x := eI g 0 18) (y := 12) (by omega) (by omega)
      have v2 := fb_subI (x := eI g 0 18 - 12) (y := 1) (by omega) (by omega)
      unfold f_X2_readName_0 at e6
      obtain ⟨r3, h3, e3, e6⟩ := ob2_some e6
      obtain ⟨q3, q4⟩ := TT_kind t e3
      obtain rfl : h = h3 := q3.symm
      replace q4 : r3.toInt = kd h := q4
      have good : f_X2_readName_0_31 h = some h' → f_X9_begins_92 g (eI g 0 18 - 12 - 1) = some g1 → BAD r h' g ∨ ∃ (N' m : Nat) (g1 g' : HS), f_X9_oneIsOver_0 m g1 = some g' ∧ f_X9_text_74 N' g' = some r ∧ RES B L P 9 d h g h' g1 [] := by
        intro e6 eb
        unfold f_X2_readName_0_31 at e6
        obtain ⟨r5, h5, e5, e6⟩ := ob2_some e6
        obtain ⟨q5, q6⟩ := TT_kind t e5
        obtain rfl : h = h5 := q5.symm
        replace q6 : r5.toInt = kd h := q6
        obtain ⟨h7, e7, e6⟩ := ob1_some e6
        obtain ⟨h8, e8, e6⟩ := ob1_some e6
        cases e6
        unfold f_X9_begins_92 at eb
        obtain ⟨g8, b8, eb⟩ := ob1_some eb
        obtain ⟨g9, b9, eb⟩ := ob1_some eb
        obtain ⟨g10, b10, eb⟩ := ob1_some eb
        unfold f_X9_begins_154 at eb
        cases eb
        unfold f_X9_oneIsOver at b10
        have u1 := fb_addI (x := 10000) (y := r5) (by omega) (by omega)
        have u2 := fb_subI (x := 10000 + r5) (y := 29) (by omega) (by omega)
        exact Or.inr ⟨N1, _, g9, _, b10, et, leaf_0 x (by omega) e7 e8 b8 b9 (Or.inr (Or.inl ⟨by omega, by omega, rfl, by omega⟩))⟩
      by_cases c35 : r3 < 35
      · rw [if_pos c35] at e6
        have d35 := gi_of_lt c35
        rw [if_pos (gi_le (by omega))] at eb
        exact good e6 eb
      · rw [if_neg c35] at e6
        have d35 := gi_of_nlt c35
        rw [if_neg (fun q => by have := gi_of_le q; omega)] at eb
        by_cases c0 : eI h 5 2 = 0
        · rw [if_pos c0] at e6
          rw [if_pos (gi_le (by rw [lk1, c0]; omega))] at eb
          exact good e6 eb
        · rw [if_neg c0] at e6
          by_cases c1 : eI h 5 2 = 1
          · rw [if_pos c1] at e6
            rw [if_pos (gi_le (by rw [lk1, c1]; exact Int.le_refl _))] at eb
            exact good e6 eb
          · rw [if_neg c1] at e6
            have d0 := gi_of_ne c0
            have d1 := gi_of_ne c1
            rw [if_neg (fun q => by have := gi_of_le q; rw [lk1] at this; omega)] at eb
            obtain ⟨h5, e5, e6⟩ := ob1_some e6
            cases e6
            obtain ⟨g5, b5, eb⟩ := ob1_some eb
            cases eb
            exact Or.inl (bad_here t f0 g0 e5 b5 (by decide) et)
    · rw [if_pos (gi_lt (by omega))] at e
      unfold f_X2_readOne_0_44 at e
      have eb : f_X9_begins_111 g = some g1 := by
        rcases tn with q | q | q | q
        · rw [if_neg (fun q => by have := gi_of_eq q; omega), if_neg (fun q => by have := gi_of_eq q; omega)] at eb
          exact eb
        · rw [if_neg (fun q => by have := gi_of_eq q; omega), if_pos (gi_eq (by omega)), if_pos (gi_le (by omega))] at eb
          exact eb
        · rw [if_neg (fun q => by have := gi_of_eq q; omega), if_neg (fun q => by have := gi_of_eq q; omega)] at eb
          exact eb
        · rw [if_neg (fun q => by have := gi_of_eq q; omega), if_neg (fun q => by have := gi_of_eq q; omega)] at eb
          exact eb
      unfold f_X9_begins_111 f_X9_begins_154 at eb
      obtain ⟨r12, g12, b12, eb⟩ := ob2_some eb
      obtain ⟨w1, w2⟩ := mp_isSign b12
      obtain rfl : g = g12 := w1.symm
      replace w2 : (r12 = 0 ∧ ¬ ((eI g 0 17).toInt = 3 ∧ (eI g 0 18).toInt = 40)) ∨ (r12 = 1 ∧ (eI g 0 17).toInt = 3 ∧ (eI g 0 18).toInt = 40) := w2
      have hop' : (eI g 0 21).toInt = op.toInt := hop
      by_cases k13 : kd h = 13
      · have so : (eI g 0 17).toInt = 3 ∧ (eI g 0 18).toInt = 40 := by
          rcases tn with q | q | q | q
          · omega
          · omega
          · omega
          · have := q.2; unfold SG at this; omega
        rw [if_pos (gi_eq (by omega))] at e
        rcases w2 with ⟨-, w2⟩ | ⟨rfl, -⟩
        · exact absurd so w2
        rw [if_neg (by decide)] at eb
        obtain ⟨r14, h14, e14, e⟩ := ob2_some e
        obtain ⟨r18, g18, b18, eb⟩ := ob2_some eb
        obtain rfl : g18 = g1 := Option.some.inj eb
        rcases opens_both (by decide) x (by omega) e14 b18 with ⟨y1, y2, y3⟩ | ⟨y1, y2, y3, y4, y5, y6, y7, y8, y9⟩
        · replace y1 : r14 = 0 := y1
          rw [if_pos y1] at e
          unfold f_X2_readOne_0_121 at e
          cases e
          exact Or.inl (bad_here t f0 g0 y2 y3 (by decide) et)
        · replace y1 : r14 = 1 := y1
          replace y3 : at_ h14 = at_ h + 1 := y3
          replace y4 : eI h14 9 5 = eI h 9 5 ∧ eA h14 9 2 = eA h 9 2 ∧ eI h14 5 1 = eI h 5 1 := y4
          replace y5 : eI g18 0 22 = eI g 0 22 + 1 := y5
          replace y6 : (eI g18 0 22).toInt = (eI g 0 22).toInt + 1 := y6
          replace y7 : eA g18 0 23 = upd (eA g 0 23) (eI g 0 22).toInt.toNat 6 := y7
          replace y8 : eI g18 0 21 = eI g 0 21 + 1 := y8
          replace y9 : Fr [(0, 0, 15), (0, 0, 16), (0, 0, 17), (0, 0, 18), (0, 0, 21), (0, 0, 22), (1, 0, 23)] g g18 := y9
          rw [if_neg (by rw [y1]; decide)] at e
          obtain ⟨h16, e16, e⟩ := ob1_some e
          obtain ⟨h17, e17, e⟩ := ob1_some e
          unfold f_X2_readOne_0_121 at e
          cases e
          have y2' : PRE B L P 9 d (op + 1).toInt h14 g18 := y2
          have top : (eA g18 0 23 ((eI g18 0 22).toInt.toNat - 1)).toInt = 6 := by
            rw [y7, y6, show ((eI g 0 22).toInt + 1).toNat - 1 = (eI g 0 22).toInt.toNat by omega]
            unfold upd
            rw [if_pos rfl]; rfl
          have stp : STOP (eA g18 0 26) (eA g18 0 27) (eI g18 0 22).toInt (rl (3 : Int32).toInt) (eI g18 0 25).toInt.toNat := STOP_new wf (y9.1 0 25 (by decide)) (fun i _ => by rw [y9.2.1 0 26 (by decide), y9.2.1 0 27 (by decide)]; exact ⟨rfl, rfl⟩) y6
          rcases ih2 3 h14 h16 g18 N1 r (op + 1) e16 (by omega) (by omega) y2' (Or.inr ⟨by omega, by rw [y9.1 0 28 (by decide)]; exact st⟩) (by omega) (by omega) (by omega) stp et with bad | ⟨N2, g2, ps, et2, R, s2, rks, nop⟩
          · refine Or.inl (BAD_left (BAD_fr (S := []) bad ?_ (by decide) (by decide)) (Fr_mono (by decide) y9))
            unfold f_X2_expect at e17
            rw [if_neg bad.1] at e17
            cases e17
            exact Fr_refl _ _
          · obtain ⟨r1', r2', r3', ⟨r4, r5, r6, r6'⟩, ⟨r7, r8, r8'⟩, r9, r10, r11⟩ := id R
            have s2' : (eI g2 0 28).toInt = 2 := by omega
            obtain ⟨N3, g3, b3, et3⟩ := (mp_turn et2 r3').2.2.1 s2'
            have tk2 := TT_tk r1'
            have nop3 := nop.1 (by omega)
            have sp := lv_spec (kd h16)
            have off : ¬ ((eI g2 0 17).toInt = 3 ∧ ((eI g2 0 18).toInt = 43 ∨ (eI g2 0 18).toInt = 45 ∨ (eI g2 0 18).toInt = 42 ∨ (eI g2 0 18).toInt = 47)) := by
              intro q
              rcases tk2 with u | u | u | u | u
              · omega
              · omega
              · omega
              · omega
              · have := u.2; unfold SG at this; omega
            have b3 := mp_goes_off b3 off
            have top2 : (eA g2 0 23 ((eI g2 0 22).toInt.toNat - 1)).toInt = 6 := by
              rw [r4, r6 _ (by omega)]; exact top
            unfold f_X9_goesOn_65 at b3
            rw [if_pos (gi_eq (by omega))] at b3
            obtain ⟨r8s, g8, b8, b3⟩ := ob2_some b3
            obtain ⟨v1, v2⟩ := mp_isSign b8
            obtain rfl : g2 = g8 := v1.symm
            unfold f_X2_expect f_X2_expect_29 at e17
            rw [if_pos r2'] at e17
            obtain ⟨rk1, hk, ek, e17⟩ := ob2_some e17
            obtain ⟨u1, u2⟩ := TT_kind r1' ek
            obtain rfl : h16 = hk := u1.symm
            replace u2 : rk1.toInt = kd h16 := u2
            have same : (eI g2 0 17).toInt = 3 ∧ (eI g2 0 18).toInt = 41 ↔ kd h16 = 14 := by
              rcases tk2 with u | u | u | u | u
              · omega
              · omega
              · omega
              · omega
              · have := u.2; unfold SG at this; omega
            rcases v2 with ⟨v2, v3⟩ | ⟨v2, v3⟩
            · replace v2 : r8s = 0 := v2
              rw [if_pos v2] at b3
              have b3 := mp_goes_else b3 (by omega) (by omega) (by omega)
              rw [if_neg (fun q => by have := gi_of_eq q; exact v3 (same.mpr (by omega)))] at e17
              obtain ⟨h4, e4, e17⟩ := ob1_some e17
              cases e17
              exact Or.inl (BAD_left (bad_here r1' r2' r3' e4 b3 (by decide) et3) (Fr_trans (Fr_mono (by decide) y9) r11.1))
            · replace v2 : r8s = 1 := v2
              rw [if_neg (by rw [v2]; decide)] at b3
              have k14 := same.mp v3
              rw [if_pos (gi_eq (by omega))] at e17
              obtain ⟨h5, e5, e17⟩ := ob1_some e17
              cases e17
              obtain ⟨g10, b10, b3⟩ := ob1_some b3
              obtain ⟨g11, b11, b3⟩ := ob1_some b3
              obtain ⟨g12, b12, b3⟩ := ob1_some b3
              unfold f_X9_goesOn_250 at b3
              cases b3
              unfold f_X9_works at b10
              unfold f_X9_oneIsOver at b12
              have w18 : 0 ≤ (eI g18 0 25).toInt := y2'.2.2.2.2.2.1.2.1
              obtain ⟨m1, ccf, m5⟩ := RES_flush (x1 := 3) R w18 rks stp b10
              have ccl := CC_left ccf y4.1 y4.2.1 (y9.1 0 36 (by decide)) (y9.2.1 0 37 (by decide)) (y9.2.1 0 38 (by decide))
              have fg : Fr [(0, 0, 22), (0, 0, 21), (0, 0, 25), (0, 0, 36), (1, 0, 37), (1, 0, 38)] g2 (sI (sI g10 0 22 (eI g10 0 22 - 1)) 0 21 (eI g10 0 21 - 1)) := Fr_sI (by decide) (Fr_sI (by decide) (Fr_mono (by decide) m5))
              obtain ⟨t2, eh, ea⟩ := TT_adv r1' (by omega) e5 fg (by decide) (by decide) (by decide) b11
              have fn := w_f_X9_next _ _ b11
              subst eh
              have i22 : eI g10 0 22 = eI g2 0 22 := m5.1 0 22 (by decide)
              have i21 : eI g10 0 21 = eI g2 0 21 := m5.1 0 21 (by decide)
              have i23 : eA g10 0 23 = eA g2 0 23 := m5.2.1 0 23 (by decide)
              refine Or.inr ⟨N3, _, g11, _, b12, et3, t2, r2', ?_, ⟨?_, ?_, fun i hi => ?_, fun i hi => ?_⟩, WW0 ?_ (fun i hi => ?_), ?_, ?_, Fr_trans (Fr_mono (by decide) y9) (Fr_trans r11.1 (Fr_trans (Fr_mono (by decide) fg) (Fr_mono (by decide) fn))), r11.2.trans y4.2.2⟩
              · rw [fn.1 0 19 (by decide)]
                show eI g10 0 19 = 0
                rw [m5.1 0 19 (by decide)]; exact r3'
              · rw [fn.1 0 22 (by decide)]
                show eI g10 0 22 - 1 = eI g 0 22
                rw [i22, r4, y5, i32_ps]
              · rw [fn.1 0 21 (by decide)]
                show eI g10 0 21 - 1 = eI g 0 21
                rw [i21, r5, y8, i32_ps]
              · rw [fn.2.1 0 23 (by decide)]
                show eA g10 0 23 i = eA g 0 23 i
                rw [i23, r6 i (by omega), y7]
                unfold upd
                rw [if_neg (by omega)]
              · rw [fn.2.1 0 24 (by decide)]
                show eA g10 0 24 i = eA g 0 24 i
                rw [m5.2.1 0 24 (by decide), r6' i (by omega), y9.2.1 0 24 (by decide)]
              · rw [fn.1 0 25 (by decide)]
                show (eI g10 0 25).toInt = (eI g 0 25).toInt
                rw [m1, y9.1 0 25 (by decide)]
              · rw [fn.2.1 0 26 (by decide), fn.2.1 0 27 (by decide)]
                show eA g10 0 26 i = eA g 0 26 i ∧ eA g10 0 27 i = eA g 0 27 i
                have a := r8 i (by rw [y9.1 0 25 (by decide)]; exact hi)
                rw [m5.2.1 0 26 (by decide), m5.2.1 0 27 (by decide), a.1, a.2, y9.2.1 0 26 (by decide), y9.2.1 0 27 (by decide)]
                exact ⟨rfl, rfl⟩
              · exact CC_same ccl rfl rfl (fn.1 0 36 (by decide)) (fn.2.1 0 37 (by decide)) (fn.2.1 0 38 (by decide))
              · rw [ea]
                show (eI h16 9 5).toInt - (eI h 9 5).toInt ≤ at_ h16 + 1 - at_ h
                rw [y4.1] at r10
                omega
      · rw [if_neg (fun q => by have := gi_of_eq q; omega)] at e
        have so : ¬ ((eI g 0 17).toInt = 3 ∧ (eI g 0 18).toInt = 40) := by
          intro w
          rcases tn with q | q | q | q
          · omega
          · omega
          · omega
          · have := q.2; unfold SG at this; omega
        rcases w2 with ⟨rfl, -⟩ | ⟨-, w2⟩
        · rw [if_pos rfl] at eb
          obtain ⟨r14, g14, b14, eb⟩ := ob2_some eb
          obtain ⟨w3, w4⟩ := mp_isSign b14
          obtain rfl : g = g14 := w3.symm
          replace w4 : (r14 = 0 ∧ ¬ ((eI g 0 17).toInt = 3 ∧ (eI g 0 18).toInt = 45)) ∨ (r14 = 1 ∧ (eI g 0 17).toInt = 3 ∧ (eI g 0 18).toInt = 45) := w4
          have same : ((eI g 0 17).toInt = 3 ∧ (eI g 0 18).toInt = 45) ↔ kd h = 10 := by
            rcases tn with q | q | q | q
            · omega
            · omega
            · omega
            · have := q.2; unfold SG at this; omega
          rcases w4 with ⟨rfl, w4⟩ | ⟨rfl, w4⟩
          · rw [if_pos rfl] at eb
            rw [if_neg (fun q => by have := gi_of_eq q; exact w4 (same.mpr (by omega)))] at e
            obtain ⟨h9, e9, e⟩ := ob1_some e
            unfold f_X2_readOne_0_121 at e
            cases e
            obtain ⟨g16, b16, eb⟩ := ob1_some eb
            cases eb
            exact Or.inl (bad_here t f0 g0 e9 b16 (by decide) et)
          · rw [if_neg (by decide)] at eb
            have k10 := same.mp w4
            rw [if_pos (gi_eq (by omega))] at e
            obtain ⟨r10, h10, e10, e⟩ := ob2_some e
            obtain ⟨r17, g17, b17, eb⟩ := ob2_some eb
            obtain rfl : g17 = g1 := Option.some.inj eb
            rcases opens_both (by decide) x (by omega) e10 b17 with ⟨y1, y2, y3⟩ | ⟨y1, y2, y3, y4, y5, y6, y7, y8, y9⟩
            · replace y1 : r10 = 0 := y1
              rw [if_pos y1] at e
              unfold f_X2_readOne_0_121 at e
              cases e
              exact Or.inl (bad_here t f0 g0 y2 y3 (by decide) et)
            · replace y1 : r10 = 1 := y1
              replace y6 : (eI g17 0 22).toInt = (eI g 0 22).toInt + 1 := y6
              replace y7 : eA g17 0 23 = upd (eA g 0 23) (eI g 0 22).toInt.toNat 7 := y7
              replace y9 : Fr [(0, 0, 15), (0, 0, 16), (0, 0, 17), (0, 0, 18), (0, 0, 21), (0, 0, 22), (1, 0, 23)] g g17 := y9
              rw [if_neg (by rw [y1]; decide)] at e
              obtain ⟨h12, e12, e⟩ := ob1_some e
              obtain ⟨h13, e13, e⟩ := ob1_some e
              unfold f_X2_readOne_0_121 at e
              cases e
              rcases ih1 h10 h12 g17 N1 r (op + 1) e12 y2 (by rw [y9.1 0 28 (by decide)]; exact st) (by omega) et with bad | ⟨N2, m, g2, g3, eo, et2, R⟩
              · exact Or.inl (BAD_left (BAD_fr bad (w_f_X6_addStep_0 h12 _ _ e13) (by decide) (by decide)) (Fr_mono (by decide) y9))
              · have top : (eA g2 0 23 ((eI g2 0 22).toInt.toNat - 1)).toInt = 7 := by
                  rw [R.2.2.2.1.1, R.2.2.2.1.2.2.1 _ (by rw [y6]; omega), y7, y6, show ((eI g 0 22).toInt + 1).toNat - 1 = (eI g 0 22).toInt.toNat by omega]
                  unfold upd
                  rw [if_pos rfl]; rfl
                rcases mp_one eo with ⟨q, -⟩ | ⟨-, m2, g4, e4, eo2⟩
                · exact absurd top q
                · exact Or.inr ⟨N2, m2, g4, g3, eo2, et2, over_0 (by rw [hop]; exact x) y3 y4 y5 y6 y7 y8 y9 R e13 e4 ⟨by decide, by unfold OPR; decide⟩⟩
        · exact absurd w2 so
