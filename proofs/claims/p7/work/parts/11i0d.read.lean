theorem rdloop_0 {B : Int → Int} {L : Int} {P : Nat → Int} {d : Nat} {n : Nat} (ih3 : LevS_0 B L P d n) {l op : Int32} (hl : 0 ≤ l.toInt ∧ l.toInt ≤ 4 ∧ ¬ l.toInt = 2) {h h' g : HS} {r : Int32 × HS} (x : PRE B L P 9 d op.toInt h g) (fr : 1 ≤ (eI g 0 22).toInt) (t7 : ¬ (eA g 0 23 ((eI g 0 22).toInt.toNat - 1)).toInt = 7) (t3 : ¬ (eA g 0 23 ((eI g 0 22).toInt.toNat - 1)).toInt = 3) (stp : STOP (eA g 0 26) (eA g 0 27) (eI g 0 22).toInt (rl l.toInt) (eI g 0 25).toInt.toNat) (h52 : eI h 5 2 = eI h 5 2) : ∀ (k : Nat) (h3 g3 : HS) (x5 : Int32) (N3 : Nat) (ps : List Int), f_X2_readLevel_0_42 (fun h p1 p2 => G_read_0 n 0 h p1 p2) (fun h p1 => G_read_0 n 1 h p1 0) (fun h p1 => G_read_0 n 2 h p1 0) k h3 l op x5 = some h' → RES B L P 9 d h g h3 g3 ps → Fr S_read_0 h h3 → ((l.toInt ≤ 2 ∧ (eI g3 0 28).toInt = 3) ∨ (3 ≤ l.toInt ∧ (eI g3 0 28).toInt = 2)) → (∀ p ∈ ps, rl l.toInt ≤ rnk p) → NOP (l.toInt + 1) (kd h3) → 0 ≤ x5.toInt → x5.toInt ≤ at_ h3 → f_X9_text_74 N3 g3 = some r → BAD r h' g ∨ ∃ (N' : Nat) (g' : HS) (ps : List Int), f_X9_text_74 N' g' = some r ∧ RES B L P 9 d h g h' g' ps ∧ ((l.toInt ≤ 2 ∧ (eI g' 0 28).toInt = 3) ∨ (3 ≤ l.toInt ∧ (eI g' 0 28).toInt = 2)) ∧ (∀ p ∈ ps, rl l.toInt ≤ rnk p) ∧ NOP l.toInt (kd h') := by
  have z1 : (1 : Int32).toInt = 1 := rfl
  have z300 : (300 : Int32).toInt = 300 := rfl
  have z20000 : (20000 : Int32).toInt = 20000 := rfl
  have rs := rl_spec l.toInt
  have rs1 := rl_spec (l.toInt + 1)
  have al := fb_addI (x := l) (y := 1) (by omega) (by omega)
  obtain ⟨t, f0, g0, hop, hop2, wf, b0, sb, lk1, lk2⟩ := id x
  intro k
  induction k with
  | zero => intro h3 g3 x5 N3 ps e; cases e
  | succ k ihk =>
    intro h3 g3 x5 N3 ps e R fh st rks nop x50 x5a et
    obtain ⟨x1, x2, x3, ⟨x4, x5', x6, x6'⟩, ⟨x7, x8, x8'⟩, x9, x10, x11⟩ := id R
    rw [f_X2_readLevel_0_42_s] at e
    unfold f_X2_readLevel_0_105 at e
    have sp := lv_spec (kd h3)
    have stop : some h3 = some h' → ¬ lv (kd h3) = l.toInt → BAD r h' g ∨ ∃ (N' : Nat) (g' : HS) (ps : List Int), f_X9_text_74 N' g' = some r ∧ RES B L P 9 d h g h' g' ps ∧ ((l.toInt ≤ 2 ∧ (eI g' 0 28).toInt = 3) ∨ (3 ≤ l.toInt ∧ (eI g' 0 28).toInt = 2)) ∧ (∀ p ∈ ps, rl l.toInt ≤ rnk p) ∧ NOP l.toInt (kd h') := by
      intro q nl
      cases q
      refine Or.inr ⟨N3, g3, ps, et, R, st, rks, ?_⟩
      unfold NOP at *
      omega
    by_cases c1 : (300 : Int32) ≤ x5
    · rw [if_pos c1] at e
      have d1 := gi_of_le c1
      have k0 : kd h3 = 0 := by
        apply Classical.byContradiction
        intro q
        have := TT_lt x1 q
        omega
      exact stop e (by omega)
    · rw [if_neg c1, if_pos x2] at e
      have d1 := gi_of_nle c1
      obtain ⟨r8, h8, e8, e⟩ := ob2_some e
      obtain ⟨u1, u2⟩ := TT_kind x1 e8
      obtain rfl : h3 = h8 := u1.symm
      replace u2 : r8.toInt = kd h3 := u2
      obtain ⟨r9, e9, e⟩ := ob1_some e
      have u9 := cp_levelOf e9
      rw [u2] at u9
      by_cases c9 : r9 = l
      · rw [if_pos c9] at e
        have d9 := gi_of_eq c9
        have hlv : lv (kd h3) = l.toInt := by omega
        obtain ⟨r11, h11, e11, e⟩ := ob2_some e
        obtain ⟨u3, u4⟩ := TT_kind x1 e11
        obtain rfl : h3 = h11 := u3.symm
        replace u4 : r11.toInt = kd h3 := u4
        obtain ⟨h12, e12, e⟩ := ob1_some e
        obtain ⟨h13, e13, e⟩ := ob1_some e
        obtain ⟨h14, e14, e⟩ := ob1_some e
        obtain ⟨N4, g5, p, st5, b5, et5, ops, rkp, hst⟩ := mp_op x1 x3 et hlv (by omega)
        unfold f_X9_waitsFor at b5
        obtain ⟨rr, br, b5⟩ := ob1_some b5
        have kr := mp_rank br
        obtain ⟨g4, b4, b5⟩ := ob1_some b5
        unfold f_X9_works at b4
        obtain ⟨m1, ccf, m5⟩ := RES_flush R wf.2.1 (x1 := rr) (fun q hq => by rw [kr, rkp]; exact rks q hq) (by rw [kr, rkp]; exact stp) b4
        obtain ⟨w25, b5⟩ := ob_if b5
        obtain ⟨-, b5⟩ := ob_if b5
        obtain ⟨g5', b6, b5⟩ := ob1_some b5
        obtain rfl : g5' = g5 := Option.some.inj b5
        have i4 : (eI g4 0 25).toNatClampNeg = (eI g 0 25).toInt.toNat := by rw [Int32.toNatClampNeg, m1]
        rw [i4] at b6
        have fB : Fr [(0, 0, 25), (0, 0, 36), (1, 0, 37), (1, 0, 38), (1, 0, 26), (1, 0, 27)] g3 (sI (sA (sA g4 0 26 (upd (eA g4 0 26) (eI g 0 25).toInt.toNat p)) 0 27 (upd (eA g4 0 27) (eI g 0 25).toInt.toNat (eI g4 0 22))) 0 25 (eI g4 0 25 + 1)) := Fr_sI (by decide) (Fr_sA (by decide) (Fr_sA (by decide) (Fr_mono (by decide) m5)))
        obtain ⟨t12, eh, ea⟩ := TT_adv x1 (by omega) e12 fB (by decide) (by decide) (by decide) b6
        have fn := w_f_X9_next _ _ b6
        have fC : Fr [(0, 0, 28)] g5' (sI g5' 0 28 st5) := Fr_sI (by decide) (Fr_refl _ _)
        generalize hgC : sI g5' 0 28 st5 = gC at et5 fC
        have C28 : eI gC 0 28 = st5 := by rw [← hgC]; rfl
        have a25 := fb_addI (x := eI g4 0 25) (y := 1) (by omega) (by omega)
        have C25 : (eI gC 0 25).toInt = (eI g 0 25).toInt + 1 := by
          rw [fC.1 0 25 (by decide), fn.1 0 25 (by decide)]
          show (eI g4 0 25 + 1).toInt = _
          omega
        have C22 : eI gC 0 22 = eI g 0 22 := by
          rw [fC.1 0 22 (by decide), fn.1 0 22 (by decide)]; exact (m5.1 0 22 (by decide)).trans x4
        have C21 : eI gC 0 21 = eI g 0 21 := by
          rw [fC.1 0 21 (by decide), fn.1 0 21 (by decide)]; exact (m5.1 0 21 (by decide)).trans x5'
        have C23 : eA gC 0 23 = eA g3 0 23 := by
          rw [fC.2.1 0 23 (by decide), fn.2.1 0 23 (by decide)]; exact m5.2.1 0 23 (by decide)
        have C24 : eA gC 0 24 = eA g3 0 24 := by
          rw [fC.2.1 0 24 (by decide), fn.2.1 0 24 (by decide)]; exact m5.2.1 0 24 (by decide)
        have C26 : eA gC 0 26 = upd (eA g3 0 26) (eI g 0 25).toInt.toNat p := by
          rw [fC.2.1 0 26 (by decide), fn.2.1 0 26 (by decide), ← m5.2.1 0 26 (by decide)]; rfl
        have C27 : eA gC 0 27 = upd (eA g3 0 27) (eI g 0 25).toInt.toNat (eI g 0 22) := by
          rw [fC.2.1 0 27 (by decide), fn.2.1 0 27 (by decide), ← m5.2.1 0 27 (by decide), ← x4, ← m5.1 0 22 (by decide)]; rfl
        have C36 : eI gC 0 36 = eI g4 0 36 := by
          rw [fC.1 0 36 (by decide), fn.1 0 36 (by decide)]; rfl
        have C37 : eA gC 0 37 = eA g4 0 37 := by
          rw [fC.2.1 0 37 (by decide), fn.2.1 0 37 (by decide)]; rfl
        have C38 : eA gC 0 38 = eA g4 0 38 := by
          rw [fC.2.1 0 38 (by decide), fn.2.1 0 38 (by decide)]; rfl
        have C19 : eI gC 0 19 = 0 := by
          rw [fC.1 0 19 (by decide), fn.1 0 19 (by decide)]; exact (m5.1 0 19 (by decide)).trans x3
        have C30 : eI gC 0 30 = eI g 0 30 := by
          rw [fC.1 0 30 (by decide), fn.1 0 30 (by decide)]; exact (m5.1 0 30 (by decide)).trans (x11.1.1 0 30 (by decide))
        have hs12 : eI h12 9 5 = eI h3 9 5 ∧ eA h12 9 2 = eA h3 9 2 ∧ eI h12 5 0 = eI h3 5 0 ∧ eI h12 5 2 = eI h3 5 2 := by
          subst eh; exact ⟨rfl, rfl, rfl, rfl⟩
        have ccA : CC 9 d h g h12 gC [] := CC_same ccf hs12.1 hs12.2.1 C36 C37 C38
        have l0 : (([] : List Int).length : Int) = 0 := rfl
        have c34 := ccA.2.2.2.1
        have c33 := ccA.2.2.1
        have sc12 : (eI h12 9 5).toInt = (eI h3 9 5).toInt := by rw [hs12.1]
        have h52' : eI h3 5 2 = eI h 5 2 := fh.1 5 2 (by decide)
        have pC : PRE B L P 9 d op.toInt h12 gC := by
          refine ⟨TT_g t12 fC (by decide) (by decide) (by decide) (by decide) (by decide) (by decide), hs12.2.2.1.trans x2, C19, by rw [C21]; exact hop, hop2, ⟨by rw [C22]; omega, by have := wf.2.1; omega, fun i hi => ?_⟩, by omega, ⟨by omega, by omega⟩, ?_, ?_⟩
          · rw [C27, C22]
            unfold upd
            by_cases ci : i = (eI g 0 25).toInt.toNat
            · rw [if_pos ci]; exact Int.le_refl _
            · rw [if_neg ci, (x8 i (by omega)).2]
              exact wf.2.2 i (by omega)
          · rw [C30, hs12.2.2.2, h52']; exact lk1
          · rw [hs12.2.2.2, h52']; exact lk2
        have topC : eA gC 0 23 ((eI gC 0 22).toInt.toNat - 1) = eA g 0 23 ((eI g 0 22).toInt.toNat - 1) := by
          rw [C23, C22]; exact x6 _ (by omega)
        have stpC : STOP (eA gC 0 26) (eA gC 0 27) (eI gC 0 22).toInt (rl (l + 1).toInt) (eI gC 0 25).toInt.toNat := by
          refine Or.inr ⟨(eI g 0 25).toInt.toNat, by have := wf.2.1; omega, Or.inr ?_⟩
          rw [C26]
          unfold upd
          rw [if_pos rfl, rkp, show (l + 1).toInt = l.toInt + 1 by omega]
          omega
        have frC : Fr SPR g gC := Fr_trans x11.1 (Fr_trans (Fr_mono (by decide) fB) (Fr_trans (Fr_mono (by decide) fn) (Fr_mono (by decide) fC)))
        rcases ih3 (l + 1) h12 h13 gC N4 r op e13 (by omega) (by omega) pC (by rw [C28]; omega) (by rw [C22]; exact fr) (by rw [topC]; exact t7) (by rw [topC]; exact t3) stpC et5 with bad | ⟨N6, g7, ps5, et7, R5, st7, rks7, nop7⟩
        · have bad2 := BAD_fr bad (w_f_X6_addStep_0 h13 _ _ e14) (by decide) (by decide)
          have eh' : h' = h14 := by
            cases k with
            | zero => cases e
            | succ k =>
              rw [f_X2_readLevel_0_42_s] at e
              unfold f_X2_readLevel_0_105 at e
              by_cases c : (300 : Int32) ≤ x5 + 1
              · rw [if_pos c] at e; cases e; rfl
              · rw [if_neg c, if_neg bad2.1] at e; cases e; rfl
          rw [eh']
          exact Or.inl (BAD_left bad2 frC)
        · obtain ⟨y1, y2, y3, ⟨y4, y5, y6, y6'⟩, ⟨y7, y8, y8'⟩, y9, y10, y11⟩ := id R5
          have ccB : CC 9 d h g h13 g7 ps5 := CC_trans ccA y9
          have c43 := y9.2.2.1
          have c44 := ccB.2.2.1
          have tl := TT_at y1
          have eh14 := cp_addStep_0 e14 (by omega) (by omega)
          have a1 := fb_addI (x := eI h13 9 5) (y := 1) (by omega) (by omega)
          have fh14 : Fr [(1, 9, 2), (0, 9, 5)] h13 h14 := by
            rw [eh14]; exact Fr_sI (by decide) (Fr_sA (by decide) (Fr_refl _ _))
          have sc14 : (eI h14 9 5).toInt = (eI h13 9 5).toInt + 1 := by
            rw [eh14]; show (eI h13 9 5 + 1).toInt = _; omega
          have st14 : eA h14 9 2 = upd (eA h13 9 2) (eI h13 9 5).toInt.toNat (20000 + r11) := by rw [eh14]; rfl
          have at14 : at_ h14 = at_ h13 := by rw [eh14]; rfl
          have kd14 : kd h14 = kd h13 := by rw [eh14]; rfl
          have u5 := fb_addI (x := 20000) (y := r11) (by omega) (by omega)
          have ax5 := fb_addI (x := x5) (y := 1) (by omega) (by omega)
          have ln : ((ps5 ++ [p.toInt]).length : Int) = (ps5.length : Int) + 1 := by rw [List.length_append]; rfl
          have w0 := wf.2.1
          refine ihk h14 g7 (x5 + 1) N6 (ps5 ++ [p.toInt]) e ⟨TT_h y1 fh14 (by decide) (by decide) (by decide) (by decide) (by decide), (fh14.1 5 0 (by decide)).trans y2, y3, ⟨y4.trans C22, y5.trans C21, fun i hi => ?_, fun i hi => ?_⟩, ⟨by omega, fun i hi => ?_, ?_⟩, CC_push ccB sc14 st14 (by rw [show (20000 + r11).toInt = 20000 + kd h3 by omega]; exact ops), by omega, Fr_trans frC y11.1, ?_⟩ ?_ (by omega) ?_ ?_ (by omega) (by omega) et7
          · rw [y6 i (by rw [C22]; exact hi), C23]; exact x6 i hi
          · rw [y6' i (by rw [C22]; exact hi), C24]; exact x6' i hi
          · have k1 := y8 i (by omega)
            have k2 := x8 i hi
            rw [k1.1, k1.2, C26, C27]
            unfold upd
            rw [if_neg (by omega), if_neg (by omega)]
            exact k2
          · have k1 := y8 (eI g 0 25).toInt.toNat (by omega)
            have e7 : (eI g7 0 25).toInt.toNat = (eI g 0 25).toInt.toNat + 1 + ps5.length := by omega
            rw [e7]
            rw [e7, C22] at y8'
            refine WD_snoc ps5 _ y8' ?_ ?_
            · rw [k1.1, C26]
              unfold upd
              rw [if_pos rfl]
            · rw [k1.2, C27]
              unfold upd
              rw [if_pos rfl]
          · rw [fh14.1 5 1 (by decide), y11.2, eh]
            exact x11.2
          · have f12 : Fr S_read_0 h3 h12 := by
              subst eh; exact Fr_sI (by decide) (Fr_refl _ _)
            exact Fr_trans fh (Fr_trans f12 (Fr_trans (w_G_read_0 _ _ _ _ _ _ e13) (Fr_mono (by decide) fh14)))
          · intro q hq
            rcases List.mem_append.mp hq with hq | hq
            · have := rks7 q hq
              rw [show (l + 1).toInt = l.toInt + 1 by omega] at this
              omega
            · have : q = p.toInt := by simpa using hq
              rw [this, rkp]; exact Int.le_refl _
          · rw [kd14, ← show (l + 1).toInt = l.toInt + 1 by omega]; exact nop7
      · rw [if_neg c9] at e
        exact stop e (fun q => c9 (gi_eq (by omega)))
