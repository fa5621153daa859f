theorem ask_0 {B : Int → Int} {L : Int} {P : Nat → Int} {d : Nat} {n : Nat} (ih1 : AskS_0 B L P d n) (ih2 : LevS_0 B L P d n) : AskS_0 B L P d (n + 1) := by
  have z0 : (0 : Int32).toInt = 0 := rfl
  have z1 : (1 : Int32).toInt = 1 := rfl
  have z3 : (3 : Int32).toInt = 3 := rfl
  have z4 : (4 : Int32).toInt = 4 := rfl
  have z5 : (5 : Int32).toInt = 5 := rfl
  have z6 : (6 : Int32).toInt = 6 := rfl
  have z8 : (8 : Int32).toInt = 8 := rfl
  have z12 : (12 : Int32).toInt = 12 := rfl
  have z28 : (28 : Int32).toInt = 28 := rfl
  have z20000 : (20000 : Int32).toInt = 20000 := rfl
  have r3 : rl (3 : Int32).toInt = (3 : Int32).toInt := rfl
  intro h h' g N r op e x st fr et
  obtain ⟨t, f0, g0, hop, hop2, wf, b0, sb, lk1, lk2⟩ := id x
  obtain ⟨N1, g1, eb, et⟩ := (mp_turn et g0).1 st
  replace e : f_X2_readAsk_0_b (fun h p1 p2 => G_read_0 n 0 h p1 p2) (fun h p1 => G_read_0 n 1 h p1 0) (fun h p1 => G_read_0 n 2 h p1 0) h op = some h' := e
  unfold f_X2_readAsk_0_b at e
  obtain ⟨r1, h1, e1, e⟩ := ob2_some e
  obtain ⟨q1, q2⟩ := TT_kind t e1
  obtain rfl : h = h1 := q1.symm
  replace q2 : r1.toInt = kd h := q2
  unfold f_X9_asks at eb
  obtain ⟨rw_, gw, bw, eb⟩ := ob2_some eb
  obtain ⟨w1, w2⟩ := mp_isWord bw
  obtain rfl : g = gw := w1.symm
  replace w2 : (rw_ = 0 ∧ ¬ ((eI g 0 17).toInt = 1 ∧ (eI g 0 18).toInt = 12)) ∨ (rw_ = 1 ∧ (eI g 0 17).toInt = 1 ∧ (eI g 0 18).toInt = 12) := w2
  have same : ((eI g 0 17).toInt = 1 ∧ (eI g 0 18).toInt = 12) ↔ kd h = 28 := by
    have tk := TT_tk t
    rcases tk with u | u | u | u | u
    · omega
    · omega
    · omega
    · omega
    · have := u.2; unfold SG at this; omega
  rcases w2 with ⟨rfl, w2⟩ | ⟨rfl, w2⟩
  · -- a question
    rw [if_pos rfl] at eb
    rw [if_neg (fun q => by have := gi_of_eq q; exact w2 (same.mpr (by omega)))] at e
    obtain ⟨g3, b3, eb⟩ := ob1_some eb
    unfold f_X9_asks_28 at eb
    cases eb
    obtain ⟨⟨o1, o2⟩, eg3⟩ := mp_opensFrame b3
    subst eg3
    obtain ⟨h3, e3, e⟩ := ob1_some e
    have a22 := fb_addI (x := eI g 0 22) (y := 1) (by omega) (by omega)
    have fA : Fr [(0, 0, 22), (1, 0, 23), (0, 0, 28)] g (sI (sI (sA g 0 23 (upd (eA g 0 23) (eI g 0 22).toInt.toNat 4)) 0 22 (eI g 0 22 + 1)) 0 28 1) := Fr_sI (by decide) (Fr_sI (by decide) (Fr_sA (by decide) (Fr_refl _ _)))
    generalize hgA : (sI (sI (sA g 0 23 (upd (eA g 0 23) (eI g 0 22).toInt.toNat 4)) 0 22 (eI g 0 22 + 1)) 0 28 1) = gA at et fA
    have A22 : eI gA 0 22 = eI g 0 22 + 1 := by rw [← hgA]; rfl
    have A23 : eA gA 0 23 = upd (eA g 0 23) (eI g 0 22).toInt.toNat 4 := by rw [← hgA]; rfl
    have A28 : eI gA 0 28 = 1 := by rw [← hgA]; rfl
    have J22 : (eI gA 0 22).toInt = (eI g 0 22).toInt + 1 := by rw [A22]; omega
    have pA : PRE B L P 9 d op.toInt h gA := by
      refine ⟨TT_g t fA (by decide) (by decide) (by decide) (by decide) (by decide) (by decide), f0, (fA.1 0 19 (by decide)).trans g0, by rw [fA.1 0 21 (by decide)]; exact hop, hop2, ⟨by omega, by rw [fA.1 0 25 (by decide)]; exact wf.2.1, fun i hi => ?_⟩, by rw [fA.1 0 36 (by decide)]; exact b0, sb, by rw [fA.1 0 30 (by decide)]; exact lk1, lk2⟩
      rw [fA.1 0 25 (by decide)] at hi
      rw [fA.2.1 0 27 (by decide)]
      have := wf.2.2 i hi
      omega
    have topA : (eA gA 0 23 ((eI gA 0 22).toInt.toNat - 1)).toInt = 4 := by
      rw [A23, J22, show ((eI g 0 22).toInt + 1).toNat - 1 = (eI g 0 22).toInt.toNat by omega]
      unfold upd
      rw [if_pos rfl]; rfl
    have stp : STOP (eA gA 0 26) (eA gA 0 27) (eI gA 0 22).toInt (rl (3 : Int32).toInt) (eI gA 0 25).toInt.toNat := STOP_new wf (fA.1 0 25 (by decide)) (fun i _ => by rw [fA.2.1 0 26 (by decide), fA.2.1 0 27 (by decide)]; exact ⟨rfl, rfl⟩) J22
    have fail3 : ¬ eI h3 5 0 = 0 → h' = h3 := by
      intro nf
      obtain ⟨r4, h4, e4, e⟩ := ob2_some e
      have k4 : h4 = h3 := cp_kind_same e4
      obtain rfl : h3 = h4 := k4.symm
      have go : ∀ y : HS, f_X2_readAsk_0_68 (fun h p1 p2 => G_read_0 n 0 h p1 p2) (fun h p1 => G_read_0 n 1 h p1 0) (fun h p1 => G_read_0 n 2 h p1 0) h3 op r4 = some y → y = h3 := by
        intro y ey
        unfold f_X2_readAsk_0_68 f_X2_readAsk_0_97 at ey
        rw [if_neg nf] at ey
        cases ey; rfl
      have go2 : ∀ y : HS, f_X2_readAsk_0_62 (fun h p1 p2 => G_read_0 n 0 h p1 p2) (fun h p1 => G_read_0 n 1 h p1 0) (fun h p1 => G_read_0 n 2 h p1 0) h3 op r4 = some y → y = h3 := by
        intro y ey
        unfold f_X2_readAsk_0_62 at ey
        obtain ⟨h5, e5, ey⟩ := ob1_some ey
        obtain rfl : h3 = h5 := (cp_fail_no e5 nf).symm
        exact go y ey
      by_cases c3 : r4 < 3
      · rw [if_pos c3] at e; exact go2 _ e
      · rw [if_neg c3] at e
        by_cases c8 : r4 ≤ 8
        · rw [if_pos c8] at e; exact go _ e
        · rw [if_neg c8] at e; exact go2 _ e
    rcases ih2 3 h h3 gA N1 r op e3 (by omega) (by omega) pA (Or.inr ⟨by omega, by rw [A28]; rfl⟩) (by omega) (by omega) (by omega) stp et with bad | ⟨N2, g2, ps, et2, R, s2, rks, nop⟩
    · rw [fail3 bad.1]
      exact Or.inl (BAD_left bad (Fr_mono (by decide) fA))
    · obtain ⟨x1, x2, x3, ⟨x4, x5, x6, x6'⟩, ⟨x7, x8, x8'⟩, x9, x10, x11⟩ := id R
      obtain ⟨r4, h4, e4, e⟩ := ob2_some e
      obtain ⟨u1, u2⟩ := TT_kind x1 e4
      obtain rfl : h3 = h4 := u1.symm
      replace u2 : r4.toInt = kd h3 := u2
      have s2' : (eI g2 0 28).toInt = 2 := by omega
      obtain ⟨N3, g3, b3, et3⟩ := (mp_turn et2 x3).2.2.1 s2'
      have tk2 := TT_tk x1
      have nop3 := nop.1 (by omega)
      have sp := lv_spec (kd h3)
      have off : ¬ ((eI g2 0 17).toInt = 3 ∧ ((eI g2 0 18).toInt = 43 ∨ (eI g2 0 18).toInt = 45 ∨ (eI g2 0 18).toInt = 42 ∨ (eI g2 0 18).toInt = 47)) := by
        intro q
        rcases tk2 with u | u | u | u | u
        · omega
        · omega
        · omega
        · omega
        · have := u.2; unfold SG at this; omega
      have b3 := mp_goes_off b3 off
      have top2 : (eA g2 0 23 ((eI g2 0 22).toInt.toNat - 1)).toInt = 4 := by
        rw [x4, x6 _ (by omega)]; exact topA
      unfold f_X9_goesOn_65 at b3
      rw [if_neg (fun q => by have := gi_of_eq q; omega)] at b3
      unfold f_X9_goesOn_116 at b3
      rw [if_pos (gi_eq (by omega))] at b3
      have no : ¬ (3 ≤ kd h3 ∧ kd h3 ≤ 8) → f_X9_goesOn_181 g2 (eA g2 0 23 ((eI g2 0 22).toInt.toNat - 1)) = some g3 → BAD r h' g := by
        intro nk b3
        unfold f_X9_goesOn_181 at b3
        rw [if_neg (fun q => by have := gi_of_eq q; omega), if_neg (fun q => by have := gi_of_eq q; omega)] at b3
        unfold f_X9_goesOn_245 f_X9_goesOn_250 at b3
        obtain ⟨g5, b5, b3⟩ := ob1_some b3
        cases b3
        have e62 : f_X2_readAsk_0_62 (fun h p1 p2 => G_read_0 n 0 h p1 p2) (fun h p1 => G_read_0 n 1 h p1 0) (fun h p1 => G_read_0 n 2 h p1 0) h3 op r4 = some h' := by
          by_cases c3 : r4 < 3
          · rw [if_pos c3] at e; exact e
          · rw [if_neg c3] at e
            have d3 := gi_of_nlt c3
            rw [if_neg (fun q => by have := gi_of_le q; omega)] at e
            exact e
        unfold f_X2_readAsk_0_62 at e62
        obtain ⟨h5, e5, e62⟩ := ob1_some e62
        have bd := bad_here x1 x2 x3 e5 b5 (by decide) et3
        unfold f_X2_readAsk_0_68 f_X2_readAsk_0_97 at e62
        rw [if_neg bd.1] at e62
        cases e62
        exact BAD_left bd (Fr_trans (Fr_mono (by decide) fA) x11.1)
      by_cases s3 : eI g2 0 17 = 3
      · rw [if_pos s3] at b3
        have d3 := gi_of_eq s3
        obtain ⟨r16, b16, b3⟩ := ob1_some b3
        have k16 := mp_isAsking b16
        have same2 : ((eI g2 0 18).toInt = 60 ∨ (eI g2 0 18).toInt = 62 ∨ (eI g2 0 18).toInt = 61 ∨ (eI g2 0 18).toInt = 35 ∨ (eI g2 0 18).toInt = 300 ∨ (eI g2 0 18).toInt = 301) ↔ (3 ≤ kd h3 ∧ kd h3 ≤ 8) := by
          rcases tk2 with u | u | u | u | u
          · omega
          · omega
          · omega
          · omega
          · have := u.2; unfold SG at this; omega
        rcases k16 with ⟨rfl, k16⟩ | ⟨rfl, k16⟩
        · rw [if_pos rfl] at b3
          exact Or.inl (no (fun q => k16 (same2.mpr q)) b3)
        · rw [if_neg (by decide)] at b3
          have kk := same2.mp k16
          have ops : OPK (20000 + r4).toInt (eI g2 0 18).toInt := by
            have u1 := fb_addI (x := 20000) (y := r4) (by omega) (by omega)
            rcases tk2 with u | u | u | u | u
            · omega
            · omega
            · omega
            · omega
            · rw [u1, z20000, show r4.toInt = kd h3 from u2]
              exact OPK_of (SG_OPR u.2 (by omega)) (by omega)
          have e68 : f_X2_readAsk_0_68 (fun h p1 p2 => G_read_0 n 0 h p1 p2) (fun h p1 => G_read_0 n 1 h p1 0) (fun h p1 => G_read_0 n 2 h p1 0) h3 op r4 = some h' := by
            rw [if_neg (fun q => by have := gi_of_lt q; omega), if_pos (gi_le (by omega))] at e
            exact e
          unfold f_X2_readAsk_0_68 f_X2_readAsk_0_97 at e68
          rw [if_pos x2] at e68
          obtain ⟨h13, e13, e68⟩ := ob1_some e68
          obtain ⟨h14, e14, e68⟩ := ob1_some e68
          obtain ⟨h15, e15, e68⟩ := ob1_some e68
          cases e68
          obtain ⟨g18, b18, b3⟩ := ob1_some b3
          obtain ⟨-, b3⟩ := ob_if b3
          obtain ⟨-, b3⟩ := ob_if b3
          obtain ⟨g21, b21, b3⟩ := ob1_some b3
          unfold f_X9_goesOn_250 at b3
          cases b3
          unfold f_X9_works at b18
          have wA : 0 ≤ (eI gA 0 25).toInt := pA.2.2.2.2.2.1.2.1
          obtain ⟨m1, ccf, m5⟩ := RES_flush (x1 := 3) R wA rks stp b18
          have i22 : eI g18 0 22 = eI gA 0 22 := (m5.1 0 22 (by decide)).trans x4
          have i18 : eI g18 0 18 = eI g2 0 18 := m5.1 0 18 (by decide)
          have s22 := fb_subI (x := eI g18 0 22) (y := 1) (by rw [i22]; omega) (by rw [i22]; omega)
          have ix1 : (eI g18 0 22).toNatClampNeg = (eI g 0 22).toInt.toNat + 1 := by rw [Int32.toNatClampNeg, i22]; omega
          have ix2 : (eI g18 0 22 - 1).toNatClampNeg = (eI g 0 22).toInt.toNat := by rw [Int32.toNatClampNeg]; rw [i22] at s22; rw [i22]; omega
          rw [ix1, ix2] at b21
          have fB : Fr [(0, 0, 25), (0, 0, 36), (1, 0, 37), (1, 0, 38), (1, 0, 24), (1, 0, 23)] g2 (sA (sA g18 0 24 (upd (eA g18 0 24) ((eI g 0 22).toInt.toNat + 1) (eI g18 0 18))) 0 23 (upd (eA g18 0 23) (eI g 0 22).toInt.toNat 5)) := Fr_sA (by decide) (Fr_sA (by decide) (Fr_mono (by decide) m5))
          obtain ⟨t13, eh, ea⟩ := TT_adv x1 (by omega) e13 fB (by decide) (by decide) (by decide) b21
          have fn := w_f_X9_next _ _ b21
          subst eh
          have fC : Fr [(0, 0, 28)] g21 (sI g21 0 28 1) := Fr_sI (by decide) (Fr_refl _ _)
          generalize hgC : sI g21 0 28 1 = gC at et3 fC
          have C28 : eI gC 0 28 = 1 := by rw [← hgC]; rfl
          have C22 : eI gC 0 22 = eI gA 0 22 := by
            rw [fC.1 0 22 (by decide), fn.1 0 22 (by decide)]; exact i22
          have C23 : eA gC 0 23 = upd (eA g18 0 23) (eI g 0 22).toInt.toNat 5 := by
            rw [fC.2.1 0 23 (by decide), fn.2.1 0 23 (by decide)]; rfl
          have C24 : eA gC 0 24 = upd (eA g18 0 24) ((eI g 0 22).toInt.toNat + 1) (eI g18 0 18) := by
            rw [fC.2.1 0 24 (by decide), fn.2.1 0 24 (by decide)]; rfl
          have C25 : (eI gC 0 25).toInt = (eI gA 0 25).toInt := by
            rw [fC.1 0 25 (by decide), fn.1 0 25 (by decide)]; exact m1
          have C26 : eA gC 0 26 = eA g2 0 26 := by
            rw [fC.2.1 0 26 (by decide), fn.2.1 0 26 (by decide)]; exact m5.2.1 0 26 (by decide)
          have C27 : eA gC 0 27 = eA g2 0 27 := by
            rw [fC.2.1 0 27 (by decide), fn.2.1 0 27 (by decide)]; exact m5.2.1 0 27 (by decide)
          have C36 : eI gC 0 36 = eI g18 0 36 := by
            rw [fC.1 0 36 (by decide), fn.1 0 36 (by decide)]; rfl
          have C37 : eA gC 0 37 = eA g18 0 37 := by
            rw [fC.2.1 0 37 (by decide), fn.2.1 0 37 (by decide)]; rfl
          have C38 : eA gC 0 38 = eA g18 0 38 := by
            rw [fC.2.1 0 38 (by decide), fn.2.1 0 38 (by decide)]; rfl
          have C21 : eI gC 0 21 = eI gA 0 21 := by
            rw [fC.1 0 21 (by decide), fn.1 0 21 (by decide)]; exact (m5.1 0 21 (by decide)).trans x5
          have C19 : eI gC 0 19 = 0 := by
            rw [fC.1 0 19 (by decide), fn.1 0 19 (by decide)]; exact (m5.1 0 19 (by decide)).trans x3
          have C30 : eI gC 0 30 = eI gA 0 30 := by
            rw [fC.1 0 30 (by decide), fn.1 0 30 (by decide)]; exact (m5.1 0 30 (by decide)).trans (x11.1.1 0 30 (by decide))
          have ccA : CC 9 d h gA (sI h3 4 4 (eI h3 4 4 + 1)) gC [] := CC_same ccf rfl rfl C36 C37 C38
          have l0 : (([] : List Int).length : Int) = 0 := rfl
          have c34 := ccA.2.2.2.1
          have c33 := ccA.2.2.1
          have frh : Fr S_read_0 h h3 := w_G_read_0 _ _ _ _ _ _ e3
          have h52 : eI h3 5 2 = eI h 5 2 := frh.1 5 2 (by decide)
          have pC : PRE B L P 9 d op.toInt (sI h3 4 4 (eI h3 4 4 + 1)) gC := by
            refine ⟨TT_g t13 fC (by decide) (by decide) (by decide) (by decide) (by decide) (by decide), x2, C19, by rw [C21]; exact pA.2.2.2.1, hop2, ⟨by rw [C22]; omega, by omega, fun i hi => ?_⟩, by omega, ⟨?_, ?_⟩, ?_, ?_⟩
            · rw [C27, C22, (x8 i (by omega)).2]
              exact pA.2.2.2.2.2.1.2.2 i (by omega)
            · omega
            · rw [ea]
              show (eI h3 9 5).toInt ≤ at_ h3 + 1
              omega
            · show eI gC 0 30 = eI h3 5 2
              rw [C30, h52]; exact pA.2.2.2.2.2.2.2.2.1
            · show 0 ≤ (eI h3 5 2).toInt
              rw [h52]; exact lk2
          have topC : (eA gC 0 23 ((eI gC 0 22).toInt.toNat - 1)).toInt = 5 := by
            rw [C23, C22, J22, show ((eI g 0 22).toInt + 1).toNat - 1 = (eI g 0 22).toInt.toNat by omega]
            unfold upd
            rw [if_pos rfl]; rfl
          have stpC : STOP (eA gC 0 26) (eA gC 0 27) (eI gC 0 22).toInt (rl (3 : Int32).toInt) (eI gC 0 25).toInt.toNat := by
            rw [C22, C25, C26, C27]
            rcases stp with q | ⟨k, q1, q2⟩
            · exact Or.inl q
            · have a := x8 k (by omega)
              refine Or.inr ⟨k, q1, ?_⟩
              rw [a.1, a.2]
              exact q2
          have frC : Fr SPR g gC := Fr_trans (Fr_mono (by decide) fA) (Fr_trans x11.1 (Fr_trans (Fr_mono (by decide) fB) (Fr_trans (Fr_mono (by decide) fn) (Fr_mono (by decide) fC))))
          rcases ih2 3 _ h14 gC N3 r op e14 (by omega) (by omega) pC (Or.inr ⟨by omega, by rw [C28]; rfl⟩) (by rw [C22]; omega) (by omega) (by omega) stpC et3 with bad | ⟨N4, g4, ps4, et4, R4, s4, rks4, nop4⟩
          · exact Or.inl (BAD_left (BAD_fr bad (w_f_X6_addStep_0 h14 _ _ e15) (by decide) (by decide)) frC)
          · obtain ⟨y1, y2, y3, ⟨y4, y5, y6, y6'⟩, ⟨y7, y8, y8'⟩, y9, y10, y11⟩ := id R4
            have s4' : (eI g4 0 28).toInt = 2 := by omega
            obtain ⟨N5, g5, b5, et5⟩ := (mp_turn et4 y3).2.2.1 s4'
            have tk4 := TT_tk y1
            have nop5 := nop4.1 (by omega)
            have sp4 := lv_spec (kd h14)
            have off4 : ¬ ((eI g4 0 17).toInt = 3 ∧ ((eI g4 0 18).toInt = 43 ∨ (eI g4 0 18).toInt = 45 ∨ (eI g4 0 18).toInt = 42 ∨ (eI g4 0 18).toInt = 47)) := by
              intro q
              rcases tk4 with u | u | u | u | u
              · omega
              · omega
              · omega
              · omega
              · have := u.2; unfold SG at this; omega
            have b5 := mp_goes_off b5 off4
            have top4 : (eA g4 0 23 ((eI g4 0 22).toInt.toNat - 1)).toInt = 5 := by
              rw [y4, y6 _ (by rw [C22]; omega)]; exact topC
            unfold f_X9_goesOn_65 at b5
            rw [if_neg (fun q => by have := gi_of_eq q; omega)] at b5
            unfold f_X9_goesOn_116 at b5
            rw [if_neg (fun q => by have := gi_of_eq q; omega)] at b5
            unfold f_X9_goesOn_181 at b5
            rw [if_pos (gi_eq (by omega))] at b5
            obtain ⟨g27, b27, b5⟩ := ob1_some b5
            obtain ⟨-, b5⟩ := ob_if b5
            obtain ⟨g29, b29, b5⟩ := ob1_some b5
            obtain ⟨g30, b30, b5⟩ := ob1_some b5
            unfold f_X9_goesOn_250 at b5
            cases b5
            unfold f_X9_works at b27
            unfold f_X9_askIsOver at b30
            obtain ⟨n1, ccg, n5⟩ := RES_flush (x1 := 3) R4 (by omega) rks4 stpC b27
            have k22 : eI g27 0 22 = eI gA 0 22 := ((n5.1 0 22 (by decide)).trans y4).trans C22
            have how : eA g27 0 24 ((eI g27 0 22).toNatClampNeg) = eI g2 0 18 := by
              rw [n5.2.1 0 24 (by decide), Int32.toNatClampNeg, k22, show (eI gA 0 22).toInt.toNat = (eI g 0 22).toInt.toNat + 1 by omega, y6' _ (by rw [C22]; omega), C24]
              unfold upd
              rw [if_pos rfl, i18]
            rw [how] at b29
            obtain ⟨⟨q1, q2⟩, eg29⟩ := mp_emits b29
            replace q1 : 0 ≤ (eI g27 0 36).toInt := q1
            replace q2 : (eI g27 0 36).toInt < 400 := q2
            have ccB : CC 9 d h gA h14 g27 [] := CC_trans ccA ccg
            have tl := TT_at y1
            have at3 : at_ (sI h3 4 4 (eI h3 4 4 + 1)) = at_ h3 + 1 := ea
            have scC : (eI (sI h3 4 4 (eI h3 4 4 + 1)) 9 5).toInt = (eI h3 9 5).toInt := rfl
            have c43 := ccB.2.2.1
            have eh15 := cp_addStep_0 e15 (by omega) (by omega)
            subst eh15
            have a1 := fb_addI (x := eI h14 9 5) (y := 1) (by omega) (by omega)
            have a2 := fb_addI (x := eI g27 0 36) (y := 1) (by omega) (by omega)
            have fD : Fr [(0, 0, 22), (1, 0, 37), (1, 0, 38), (0, 0, 36)] g27 g29 := by
              rw [eg29]
              exact Fr_sI (by decide) (Fr_sA (by decide) (Fr_sA (by decide) (Fr_sI (by decide) (Fr_refl _ _))))
            have D22 : eI g29 0 22 = eI g27 0 22 - 1 := by rw [eg29]; rfl
            have fh : Fr [(1, 9, 2), (0, 9, 5)] h14 (sI (sA h14 9 2 (upd (eA h14 9 2) (eI h14 9 5).toInt.toNat (20000 + r4))) 9 5 (eI h14 9 5 + 1)) := Fr_sI (by decide) (Fr_sA (by decide) (Fr_refl _ _))
            refine Or.inr ⟨N5, _, g29, _, b30, et5, TT_g (TT_h (TT_g y1 n5 (by decide) (by decide) (by decide) (by decide) (by decide) (by decide)) fh (by decide) (by decide) (by decide) (by decide) (by decide)) fD (by decide) (by decide) (by decide) (by decide) (by decide) (by decide), y2, ?_, ⟨?_, ?_, fun i hi => ?_, fun i hi => ?_⟩, WW0 ?_ (fun i hi => ?_), ?_, ?_, Fr_trans frC (Fr_trans y11.1 (Fr_trans (Fr_mono (by decide) n5) (Fr_mono (by decide) fD))), y11.2.trans x11.2⟩
            · rw [fD.1 0 19 (by decide), n5.1 0 19 (by decide)]; exact y3
            · rw [D22, k22, A22, i32_ps]
            · rw [fD.1 0 21 (by decide), n5.1 0 21 (by decide), y5, C21, fA.1 0 21 (by decide)]
            · rw [fD.2.1 0 23 (by decide), n5.2.1 0 23 (by decide), y6 i (by rw [C22]; omega), C23]
              unfold upd
              rw [if_neg (by omega), m5.2.1 0 23 (by decide), x6 i (by omega), A23]
              unfold upd
              rw [if_neg (by omega)]
            · rw [fD.2.1 0 24 (by decide), n5.2.1 0 24 (by decide), y6' i (by rw [C22]; omega), C24]
              unfold upd
              rw [if_neg (by omega), m5.2.1 0 24 (by decide), x6' i (by omega), fA.2.1 0 24 (by decide)]
            · rw [fD.1 0 25 (by decide), n1, C25, fA.1 0 25 (by decide)]
            · have hi2 : (i : Int) < (eI gA 0 25).toInt := by rw [fA.1 0 25 (by decide)]; exact hi
              have k1 := y8 i (by omega)
              have k2 := x8 i hi2
              rw [fD.2.1 0 26 (by decide), fD.2.1 0 27 (by decide), n5.2.1 0 26 (by decide), n5.2.1 0 27 (by decide), k1.1, k1.2, C26, C27, k2.1, k2.2, fA.2.1 0 26 (by decide), fA.2.1 0 27 (by decide)]
              exact ⟨rfl, rfl⟩
            · have ccL := CC_left ccB rfl rfl (fA.1 0 36 (by decide)) (fA.2.1 0 37 (by decide)) (fA.2.1 0 38 (by decide))
              refine CC_emit ccL ?_ rfl ?_ (by rw [eg29]; rfl) (by rw [eg29]; rfl) (Or.inr (Or.inr ops))
              · show (eI h14 9 5 + 1).toInt = _; omega
              · rw [eg29]
                show (eI g27 0 36 + 1).toInt = _; omega
            · show (eI h14 9 5 + 1).toInt - (eI h 9 5).toInt ≤ at_ h14 - at_ h
              omega
      · rw [if_neg s3] at b3
        refine Or.inl (no (fun q => ?_) b3)
        have d3 := gi_of_ne s3
        rcases tk2 with u | u | u | u | u
        · omega
        · omega
        · omega
        · omega
        · have := u.2; omega
  · -- not
    rw [if_neg (by decide)] at eb
    have k28 := same.mp w2
    rw [if_pos (gi_eq (by omega))] at e
    obtain ⟨r7, h7, e7, e⟩ := ob2_some e
    obtain ⟨rb, gb, bb, eb⟩ := ob2_some eb
    unfold f_X9_asks_28 at eb
    obtain rfl : gb = g1 := Option.some.inj eb
    rcases opens_both (by decide) x (by omega) e7 bb with ⟨y1, y2, y3⟩ | ⟨y1, y2, y3, y4, y5, y6, y7, y8, y9⟩
    · replace y1 : r7 = 0 := y1
      rw [if_pos y1] at e
      unfold f_X2_readAsk_0_34 at e
      cases e
      exact Or.inl (bad_here t f0 g0 y2 y3 (by decide) et)
    · replace y1 : r7 = 1 := y1
      replace y6 : (eI gb 0 22).toInt = (eI g 0 22).toInt + 1 := y6
      replace y7 : eA gb 0 23 = upd (eA g 0 23) (eI g 0 22).toInt.toNat 3 := y7
      replace y9 : Fr [(0, 0, 15), (0, 0, 16), (0, 0, 17), (0, 0, 18), (0, 0, 21), (0, 0, 22), (1, 0, 23)] g gb := y9
      rw [if_neg (by rw [y1]; decide)] at e
      obtain ⟨h9, e9, e⟩ := ob1_some e
      obtain ⟨h10, e10, e⟩ := ob1_some e
      unfold f_X2_readAsk_0_34 at e
      cases e
      rcases ih1 h7 h9 gb N1 r (op + 1) e9 y2 (by rw [y9.1 0 28 (by decide)]; exact st) (by omega) et with bad | ⟨N2, m, g2, g3, eo, et2, R⟩
      · exact Or.inl (BAD_left (BAD_fr bad (w_f_X6_addStep_0 h9 _ _ e10) (by decide) (by decide)) (Fr_mono (by decide) y9))
      · have top : (eA g2 0 23 ((eI g2 0 22).toInt.toNat - 1)).toInt = 3 := by
          rw [R.2.2.2.1.1, R.2.2.2.1.2.2.1 _ (by rw [y6]; omega), y7, y6, show ((eI g 0 22).toInt + 1).toNat - 1 = (eI g 0 22).toInt.toNat by omega]
          unfold upd
          rw [if_pos rfl]; rfl
        rcases mp_ask eo with ⟨q, -⟩ | ⟨-, m2, g4, e4, eo2⟩
        · exact absurd top q
        · exact Or.inr ⟨N2, m2, g4, g3, eo2, et2, over_0 (by rw [hop]; exact x) y3 y4 y5 y6 y7 y8 y9 R e10 e4 ⟨by decide, by unfold OPR; decide⟩⟩
