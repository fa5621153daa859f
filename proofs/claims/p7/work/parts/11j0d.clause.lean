theorem deed_0 {B : Int → Int} {L : Int} {P : Nat → Int} {h h' h7 h8 h10 g g1 : HS} {N : Nat} {r : Int32 × HS} {r1 : Int32} (bg : BEG B L P 9 h g) (hr1 : r1.toInt = kd h) (k0 : 20 ≤ kd h) (k1 : kd h ≤ 23) (cc : (eI h 9 1).toInt < 24) (e7 : f_X6_setClause_0 (sI h 5 2 (r1 - 16)) (eI h 9 1) 0 r1 = some h7) (e8 : f_X7_advance h7 = some h8) (e10 : f_X2_readDeed_0 h8 r1 = some h10) (e : f_X2_readClause_0_141 h10 = some h') (b : f_X9_clause_73 (sI g 0 30 (eI g 0 18)) = some g1) (et : f_X9_text_74 N g1 = some r) : BADC r h' g ∨ NXT_0 B L P r h h' g := by
  have z0 : (0 : Int32).toInt = 0 := rfl
  have z1 : (1 : Int32).toInt = 1 := rfl
  have z3 : (3 : Int32).toInt = 3 := rfl
  have z4 : (4 : Int32).toInt = 4 := rfl
  have z5 : (5 : Int32).toInt = 5 := rfl
  have z7 : (7 : Int32).toInt = 7 := rfl
  have z20 : (20 : Int32).toInt = 20 := rfl
  have z21 : (21 : Int32).toInt = 21 := rfl
  have z23 : (23 : Int32).toInt = 23 := rfl
  obtain ⟨bt, bf, bw, b21, b22, b25, b28, bpl, tx1, ⟨tx2, tx3⟩, tx4, tx5, tx6, tx7, tx8⟩ := id bg
  have eh7 := cp_setClause_0 e7 tx2 (by omega) (by decide) (by decide)
  have f7 : Fr [(0, 5, 2), (1, 9, 0)] h h7 := by rw [eh7]; exact Fr_sA (by decide) (Fr_sI (by decide) (Fr_refl _ _))
  have t7 := TT_h bt f7 (by decide) (by decide) (by decide) (by decide) (by decide)
  have kd7 : kd h7 = kd h := by rw [eh7]; rfl
  have at7 : at_ h7 = at_ h := by rw [eh7]; rfl
  unfold f_X9_clause_73 at b
  rw [if_pos (show eI (sI g 0 30 (eI g 0 18)) 0 19 ≤ 0 by show eI g 0 19 ≤ 0; rw [bw]; decide)] at b
  obtain ⟨-, b⟩ := ob_if b
  obtain ⟨-, b⟩ := ob_if b
  obtain ⟨-, b⟩ := ob_if b
  obtain ⟨-, b⟩ := ob_if b
  obtain ⟨-, b⟩ := ob_if b
  obtain ⟨g16, b16, b⟩ := ob1_some b
  have f15 : Fr [(0, 0, 30), (1, 0, 31), (1, 0, 32), (1, 0, 33), (1, 0, 34), (1, 0, 35)] g _ := Fr_sA (v := upd (eA (sI g 0 30 (eI g 0 18)) 0 35) ((eI (sI g 0 30 (eI g 0 18)) 0 29).toNatClampNeg) (-1)) (o := 0) (k := 35) (by decide) (Fr_sA (v := upd (eA (sI g 0 30 (eI g 0 18)) 0 34) ((eI (sI g 0 30 (eI g 0 18)) 0 29).toNatClampNeg) (-1)) (o := 0) (k := 34) (by decide) (Fr_sA (v := upd (eA (sI g 0 30 (eI g 0 18)) 0 33) ((eI (sI g 0 30 (eI g 0 18)) 0 29).toNatClampNeg) (-1)) (o := 0) (k := 33) (by decide) (Fr_sA (v := upd (eA (sI g 0 30 (eI g 0 18)) 0 32) ((eI (sI g 0 30 (eI g 0 18)) 0 29).toNatClampNeg) (eI (sI g 0 30 (eI g 0 18)) 0 36)) (o := 0) (k := 32) (by decide) (Fr_sA (v := upd (eA (sI g 0 30 (eI g 0 18)) 0 31) ((eI (sI g 0 30 (eI g 0 18)) 0 29).toNatClampNeg) (eI (sI g 0 30 (eI g 0 18)) 0 30)) (o := 0) (k := 31) (by decide) (Fr_sI (v := eI g 0 18) (o := 0) (k := 30) (by decide) (Fr_refl _ g))))))
  obtain ⟨t8, eh8, ea8⟩ := TT_adv t7 (by omega) e8 f15 (by decide) (by decide) (by decide) b16
  have fn := w_f_X9_next _ _ b16
  have so : (eI g 0 17).toInt = 1 ∧ (eI g 0 18).toInt = kd h - 16 := by
    have tk := TT_tk bt
    rcases tk with u | u | u | u | u
    · omega
    · omega
    · omega
    · omega
    · have := u.2; unfold SG at this; omega
  have ecc : (eI g 0 29).toNatClampNeg = (eI h 9 1).toInt.toNat := by rw [Int32.toNatClampNeg]; omega
  have K30 : eI g16 0 30 = eI g 0 18 := fn.1 0 30 (by decide)
  have K29 : eI g16 0 29 = eI g 0 29 := fn.1 0 29 (by decide)
  have M31 : eA g16 0 31 = upd (eA g 0 31) (eI h 9 1).toInt.toNat (eI g 0 18) := by rw [fn.2.1 0 31 (by decide), ← ecc]; rfl
  have M32 : eA g16 0 32 = upd (eA g 0 32) (eI h 9 1).toInt.toNat (eI g 0 36) := by rw [fn.2.1 0 32 (by decide), ← ecc]; rfl
  have M33 : eA g16 0 33 = upd (eA g 0 33) (eI h 9 1).toInt.toNat (-1) := by rw [fn.2.1 0 33 (by decide), ← ecc]; rfl
  have M34 : eA g16 0 34 = upd (eA g 0 34) (eI h 9 1).toInt.toNat (-1) := by rw [fn.2.1 0 34 (by decide), ← ecc]; rfl
  have M35 : eA g16 0 35 = upd (eA g 0 35) (eI h 9 1).toInt.toNat (-1) := by rw [fn.2.1 0 35 (by decide), ← ecc]; rfl
  rw [K30, if_pos (gi_lt (by omega))] at b
  have f8 : Fr [(0, 4, 4)] h7 h8 := by rw [eh8]; exact Fr_sI (by decide) (Fr_refl _ _)
  have fc8 : Fr [(0, 4, 4), (0, 5, 0), (0, 5, 1), (0, 5, 2), (1, 9, 0)] h h8 := Fr_trans (Fr_mono (by decide) f7) (Fr_mono (by decide) f8)
  have H1 : eI h8 9 1 = eI h 9 1 := fc8.1 9 1 (by decide)
  have C8 : eA h8 9 0 = upd (eA h 9 0) (4 * (eI h 9 1).toInt.toNat) r1 := by rw [f8.2.1 9 0 (by decide), eh7]; rfl
  have fm16 : Fr [(0, 0, 15), (0, 0, 16), (0, 0, 17), (0, 0, 18), (0, 0, 19), (0, 0, 20), (0, 0, 30), (1, 0, 31), (1, 0, 32), (1, 0, 33), (1, 0, 34), (1, 0, 35)] g g16 := Fr_trans (Fr_mono (by decide) f15) (Fr_mono (by decide) fn)
  have ds8 : DS B L P (at_ h) h8 g16 := Or.inl ⟨t8, ((f8.1 5 0 (by decide)).trans (f7.1 5 0 (by decide))).trans bf, (fn.1 0 19 (by decide)).trans bw, by omega, ((f8.1 5 1 (by decide)).trans (f7.1 5 1 (by decide))).trans bpl.1, (fn.1 0 20 (by decide)).trans bpl.2⟩
  have dd : (((eI h 9 1).toInt.toNat : Nat) : Int) = (eI h 9 1).toInt := by omega
  -- the first number
  have first : ∀ (lo hi : Int32) (h2 : HS) (z : Int32 × HS), f_X2_readNumber_0 h8 1 lo hi = some h2 → f_X9_number g16 lo hi = some z → hi.toInt ≤ 99 → DS B L P (at_ h) h2 (sA z.2 0 33 (upd (eA z.2 0 33) (eI h 9 1).toInt.toNat z.1)) ∧ (eI h2 5 0 = 0 → eA h2 9 0 (4 * (eI h 9 1).toInt.toNat + 1) = z.1) ∧ (∀ i : Nat, i < 4 * (eI h 9 1).toInt.toNat → eA h2 9 0 i = eA h 9 0 i) ∧ eA h2 9 0 (4 * (eI h 9 1).toInt.toNat) = r1 ∧ Fr [(0, 4, 4), (0, 5, 0), (0, 5, 1), (0, 5, 2), (1, 9, 0)] h h2 ∧ Fr [(0, 0, 15), (0, 0, 16), (0, 0, 17), (0, 0, 18), (0, 0, 19), (0, 0, 20)] g16 z.2 := by
    intro lo hi h2 z e2 n2 hh
    obtain ⟨y1, y2, y3⟩ := ds_number_0 ds8 e2 n2 (by rw [H1]; exact tx2) (by rw [H1]; exact cc) (by decide) (by decide) hh
    rw [H1] at y2 y3
    have fz : Fr S_X9_number g16 z.2 := w_f_X9_number _ _ _ _ n2
    have fr2 := w_f_X2_readNumber_0 _ _ _ _ _ e2
    refine ⟨DS_g y1 (Fr_sA (S := [(1, 0, 33)]) (by decide) (Fr_refl _ _)) (by decide) (by decide) (by decide) (by decide) (by decide) (by decide) (by decide) (by decide), y2, fun i hi => ?_, ?_, Fr_trans fc8 (Fr_mono (by decide) fr2), Fr_mono (by decide) fz⟩
    · rw [y3 i (fun q => by have q : i = 4 * (eI h 9 1).toInt.toNat + 1 := q; omega), C8]
      unfold upd
      rw [if_neg (by omega)]
    · rw [y3 _ (fun q => by have q : 4 * (eI h 9 1).toInt.toNat = 4 * (eI h 9 1).toInt.toNat + 1 := q; omega), C8]
      unfold upd
      rw [if_pos rfl]
  have pass : ∀ (lo hi : Int32) (z : Int32 × HS), f_X2_readNumber_0 h8 1 lo hi = some h10 → f_X9_number g16 lo hi = some z → hi.toInt ≤ 99 → f_X9_clause_218 z.2 z.1 (eI g16 0 29) = some g1 → 6 ≤ (eI g 0 18).toInt → BADC r h' g ∨ NXT_0 B L P r h h' g := by
    intro lo hi z e2 n2 hh b hk
    obtain ⟨y1, y2, y3, y4, y5, y6⟩ := first lo hi h10 z e2 n2 hh
    unfold f_X9_clause_218 at b
    obtain ⟨-, b⟩ := ob_if b
    have k30 : eI z.2 0 30 = eI g 0 18 := (y6.1 0 30 (by decide)).trans K30
    rw [k30, if_neg (fun q => by have := gi_of_eq q; omega), if_neg (fun q => by have := gi_of_eq q; omega), K29, ecc] at b
    refine deedend_0 (d := (eI h 9 1).toInt.toNat) (w := eI g 0 18) (x1 := r1) bg ⟨by omega, by omega⟩ cc dd y5 (Fr_sA (by decide) (Fr_trans fm16 (Fr_mono (by decide) y6))) ?_ (fun c hc => ?_) y3 y4 (by omega) y1 (fun q => ⟨?_, fun q => by omega, fun q => by omega⟩) e b et
    · show eA z.2 0 31 = _
      rw [y6.2.1 0 31 (by decide)]; exact M31
    · show eA z.2 0 32 c = _ ∧ upd (eA z.2 0 33) _ z.1 c = _ ∧ eA z.2 0 34 c = _ ∧ eA z.2 0 35 c = _
      rw [y6.2.1 0 32 (by decide), y6.2.1 0 33 (by decide), y6.2.1 0 34 (by decide), y6.2.1 0 35 (by decide), M32, M33, M34, M35]
      unfold upd
      rw [if_neg hc, if_neg hc, if_neg hc, if_neg hc, if_neg hc]
      exact ⟨rfl, rfl, rfl, rfl⟩
    · rw [y2 q]
      show z.1 = upd (eA z.2 0 33) _ z.1 _
      unfold upd
      rw [if_pos rfl]
  unfold f_X2_readDeed_0 f_X2_readDeed_0_90 at e10
  by_cases c23 : kd h = 23
  · rw [if_pos (gi_eq (by omega))] at e10
    obtain ⟨h11, e11, e10⟩ := ob1_some e10
    cases e10
    rw [if_pos (gi_eq (by omega))] at b
    obtain ⟨ra, g20, n20, b⟩ := ob2_some b
    exact pass 1 99 (ra, g20) e11 n20 (by decide) b (by omega)
  · rw [if_neg (fun q => by have := gi_of_eq q; omega)] at e10
    rw [if_neg (fun q => by have := gi_of_eq q; omega)] at b
    obtain ⟨h2, e2, e10⟩ := ob1_some e10
    obtain ⟨ra, g19, n19, b⟩ := ob2_some b
    by_cases c22 : kd h = 22
    · rw [if_neg (fun q => by have := gi_of_eq q; omega), if_neg (fun q => by have := gi_of_eq q; omega)] at e10
      cases e10
      exact pass 0 9 (ra, g19) e2 n19 (by decide) b (by omega)
    · obtain ⟨y1, y2, y3, y4, y5, y6⟩ := first 0 9 h2 (ra, g19) e2 n19 (by decide)
      replace y6 : Fr [(0, 0, 15), (0, 0, 16), (0, 0, 17), (0, 0, 18), (0, 0, 19), (0, 0, 20)] g16 g19 := y6
      unfold f_X9_clause_218 at b
      obtain ⟨-, b⟩ := ob_if b
      have k30 : eI g19 0 30 = eI g 0 18 := (y6.1 0 30 (by decide)).trans K30
      have k29 : eI g19 0 29 = eI g 0 29 := (y6.1 0 29 (by decide)).trans K29
      rw [k30, K29, ecc] at b
      have hh2 : eI h2 9 1 = eI h 9 1 := y5.1 9 1 (by decide)
      generalize hgA : (sA g19 0 33 (upd (eA g19 0 33) (eI h 9 1).toInt.toNat ra)) = gA at b y1
      have fA : Fr [(1, 0, 33)] g19 gA := by rw [← hgA]; exact Fr_sA (by decide) (Fr_refl _ _)
      have A33 : eA gA 0 33 = upd (eA g19 0 33) (eI h 9 1).toInt.toNat ra := by rw [← hgA]; rfl
      -- the second number
      have second : ∀ (k w lo hi : Int32) (h5 h6 g25 : HS) (z : Int32 × HS), f_X2_expect h2 k = some h5 → f_X9_wants gA w = some g25 → k.toInt = 16 + w.toInt → (0 ≤ w.toInt ∧ w.toInt ≤ 21) → f_X2_readNumber_0 h5 2 lo hi = some h6 → f_X9_number g25 lo hi = some z → hi.toInt ≤ 99 → eI g25 0 29 = eI g 0 29 ∧ DS B L P (at_ h) h6 (sA z.2 0 34 (upd (eA z.2 0 34) (eI h 9 1).toInt.toNat z.1)) ∧ (eI h6 5 0 = 0 → eI h2 5 0 = 0 ∧ eA h6 9 0 (4 * (eI h 9 1).toInt.toNat + 2) = z.1) ∧ (∀ i : Nat, ¬ i = 4 * (eI h 9 1).toInt.toNat + 2 → eA h6 9 0 i = eA h2 9 0 i) ∧ Fr [(0, 4, 4), (0, 5, 0), (0, 5, 1), (0, 5, 2), (1, 9, 0)] h h6 ∧ Fr [(0, 0, 15), (0, 0, 16), (0, 0, 17), (0, 0, 18), (0, 0, 19), (0, 0, 20)] gA z.2 := by
        intro k w lo hi h5 h6 g25 z ex ew hk hw e6 n6 hh
        have d5 := ds_expect y1 ex ew hk hw
        have fx := w_f_X2_expect _ _ _ ex
        have fw : Fr S_X9_wants gA g25 := w_f_X9_wants _ _ _ ew
        have hh5 : eI h5 9 1 = eI h 9 1 := (fx.1 9 1 (by decide)).trans hh2
        obtain ⟨v1, v2, v3⟩ := ds_number_0 d5 e6 n6 (by rw [hh5]; exact tx2) (by rw [hh5]; exact cc) (by decide) (by decide) hh
        rw [hh5] at v2 v3
        have fz : Fr S_X9_number g25 z.2 := w_f_X9_number _ _ _ _ n6
        have fr6 := w_f_X2_readNumber_0 _ _ _ _ _ e6
        refine ⟨?_, DS_g v1 (Fr_sA (S := [(1, 0, 34)]) (by decide) (Fr_refl _ _)) (by decide) (by decide) (by decide) (by decide) (by decide) (by decide) (by decide) (by decide), fun q => ⟨?_, v2 q⟩, fun i hi => ?_, Fr_trans y5 (Fr_trans (Fr_mono (by decide) fx) (Fr_mono (by decide) fr6)), Fr_trans (Fr_mono (by decide) fw) (Fr_mono (by decide) fz)⟩
        · rw [fw.1 0 29 (by decide), fA.1 0 29 (by decide)]; exact k29
        · apply Classical.byContradiction
          intro nq
          have e5 : h5 = h2 := by
            unfold f_X2_expect at ex
            rw [if_neg nq] at ex
            cases ex; rfl
          subst e5
          have e66 : h6 = h5 := by
            unfold f_X2_readNumber_0 at e6
            rw [if_neg nq] at e6
            cases e6; rfl
          rw [e66] at q
          exact nq q
        · rw [v3 i hi, fx.2.1 9 0 (by decide)]
      by_cases c20 : kd h = 20
      · rw [if_pos (gi_eq (by omega))] at e10
        rw [if_pos (gi_eq (by omega))] at b
        obtain ⟨h7', e7', e10⟩ := ob1_some e10
        obtain ⟨h8', e8', e10⟩ := ob1_some e10
        obtain ⟨h9', e9', e10⟩ := ob1_some e10
        obtain ⟨h10', e10', e10⟩ := ob1_some e10
        obtain rfl : h10' = h10 := Option.some.inj e10
        obtain ⟨g28, b28', b⟩ := ob1_some b
        obtain ⟨rb, g29, b29', b⟩ := ob2_some b
        obtain ⟨-, b⟩ := ob_if b
        obtain ⟨s0, s1, s2, s3, s4, s5⟩ := second 24 8 0 5 h7' h8' g28 (rb, g29) e7' b28' (by decide) (by decide) e8' b29' (by decide)
        replace s5 : Fr [(0, 0, 15), (0, 0, 16), (0, 0, 17), (0, 0, 18), (0, 0, 19), (0, 0, 20)] gA g29 := s5
        rw [s0, ecc] at b
        obtain ⟨g31, b31', b⟩ := ob1_some b
        obtain ⟨rc, g32, b32', b⟩ := ob2_some b
        obtain ⟨-, b⟩ := ob_if b
        generalize hgB : (sA g29 0 34 (upd (eA g29 0 34) (eI h 9 1).toInt.toNat rb)) = gB at b31'
        have s1 : DS B L P (at_ h) h8' gB := by rw [← hgB]; exact s1
        have fB : Fr [(1, 0, 34)] g29 gB := by rw [← hgB]; exact Fr_sA (by decide) (Fr_refl _ _)
        have B34 : eA gB 0 34 = upd (eA g29 0 34) (eI h 9 1).toInt.toNat rb := by rw [← hgB]; rfl
        have d9 := ds_expect s1 e9' b31' (by decide) (by decide)
        have fx9 := w_f_X2_expect _ _ _ e9'
        have fw9 : Fr S_X9_wants gB g31 := w_f_X9_wants _ _ _ b31'
        have hh8 : eI h8' 9 1 = eI h 9 1 := s4.1 9 1 (by decide)
        have hh9 : eI h9' 9 1 = eI h 9 1 := (fx9.1 9 1 (by decide)).trans hh8
        obtain ⟨v1, v2, v3⟩ := ds_number_0 d9 e10' b32' (by rw [hh9]; exact tx2) (by rw [hh9]; exact cc) (by decide) (by decide) (by decide)
        rw [hh9] at v2 v3
        replace v2 : eI h10' 5 0 = 0 → eA h10' 9 0 (4 * (eI h 9 1).toInt.toNat + 3) = rc := v2
        replace v3 : ∀ i : Nat, ¬ i = 4 * (eI h 9 1).toInt.toNat + 3 → eA h10' 9 0 i = eA h9' 9 0 i := v3
        have fz : Fr S_X9_number g31 g32 := w_f_X9_number _ _ _ _ b32'
        have fr10 := w_f_X2_readNumber_0 _ _ _ _ _ e10'
        have k31 : eI g31 0 29 = eI g 0 29 := by
          rw [fw9.1 0 29 (by decide), fB.1 0 29 (by decide), s5.1 0 29 (by decide), fA.1 0 29 (by decide)]; exact k29
        rw [k31, ecc] at b
        have e0 : ∀ i : Nat, ¬ i = 4 * (eI h 9 1).toInt.toNat + 3 → ¬ i = 4 * (eI h 9 1).toInt.toNat + 2 → eA h10' 9 0 i = eA h2 9 0 i := by
          intro i q1 q2
          rw [v3 i q1, fx9.2.1 9 0 (by decide), s3 i q2]
        have fall : Fr [(0, 0, 15), (0, 0, 16), (0, 0, 17), (0, 0, 18), (0, 0, 19), (0, 0, 20)] gB g32 := Fr_trans (Fr_mono (by decide) fw9) (Fr_mono (by decide) fz)
        refine deedend_0 (d := (eI h 9 1).toInt.toNat) (w := eI g 0 18) (x1 := r1) bg ⟨by omega, by omega⟩ cc dd (Fr_trans s4 (Fr_trans (Fr_mono (by decide) fx9) (Fr_mono (by decide) fr10))) (Fr_sA (by decide) (Fr_trans fm16 (Fr_trans (Fr_mono (by decide) y6) (Fr_trans (Fr_mono (by decide) fA) (Fr_trans (Fr_mono (by decide) s5) (Fr_trans (Fr_mono (by decide) fB) (Fr_mono (by decide) fall))))))) ?_ (fun c hc => ?_) (fun i hi => ?_) ?_ (by omega) (DS_g v1 (Fr_sA (S := [(1, 0, 35)]) (by decide) (Fr_refl _ _)) (by decide) (by decide) (by decide) (by decide) (by decide) (by decide) (by decide) (by decide)) (fun q => ?_) e b et
        · show eA g32 0 31 = _
          rw [fall.2.1 0 31 (by decide), fB.2.1 0 31 (by decide), s5.2.1 0 31 (by decide), fA.2.1 0 31 (by decide), y6.2.1 0 31 (by decide)]; exact M31
        · show eA g32 0 32 c = _ ∧ eA g32 0 33 c = _ ∧ eA g32 0 34 c = _ ∧ upd (eA g32 0 35) _ rc c = _
          rw [fall.2.1 0 32 (by decide), fB.2.1 0 32 (by decide), s5.2.1 0 32 (by decide), fA.2.1 0 32 (by decide), y6.2.1 0 32 (by decide), fall.2.1 0 33 (by decide), fB.2.1 0 33 (by decide), s5.2.1 0 33 (by decide), A33, y6.2.1 0 33 (by decide), fall.2.1 0 34 (by decide), B34, s5.2.1 0 34 (by decide), fA.2.1 0 34 (by decide), y6.2.1 0 34 (by decide), fall.2.1 0 35 (by decide), fB.2.1 0 35 (by decide), s5.2.1 0 35 (by decide), fA.2.1 0 35 (by decide), y6.2.1 0 35 (by decide), M32, M33, M34, M35]
          unfold upd
          rw [if_neg hc, if_neg hc, if_neg hc, if_neg hc, if_neg hc, if_neg hc, if_neg hc]
          exact ⟨rfl, rfl, rfl, rfl⟩
        · rw [e0 i (by omega) (by omega)]; exact y3 i hi
        · rw [e0 _ (by omega) (by omega)]; exact y4
        · have p9 : eI h8' 5 0 = 0 := by
            apply Classical.byContradiction
            intro nq
            have e5 : h9' = h8' := by
              have ex := e9'
              unfold f_X2_expect at ex
              rw [if_neg nq] at ex
              cases ex; rfl
            have e66 : h10' = h9' := by
              have ey := e10'
              unfold f_X2_readNumber_0 at ey
              rw [if_neg (by rw [e5]; exact nq)] at ey
              cases ey; rfl
            rw [e66, e5] at q
            exact nq q
          have p2 := s2 p9
          refine ⟨?_, fun _ => ?_, fun _ => ?_⟩
          · show _ = eA g32 0 33 _
            rw [e0 _ (by omega) (by omega), y2 p2.1, fall.2.1 0 33 (by decide), fB.2.1 0 33 (by decide), s5.2.1 0 33 (by decide), A33]
            unfold upd
            rw [if_pos rfl]
          · show _ = eA g32 0 34 _
            rw [v3 _ (by omega), fx9.2.1 9 0 (by decide), p2.2, fall.2.1 0 34 (by decide), B34]
            unfold upd
            rw [if_pos rfl]
          · show _ = upd (eA g32 0 35) _ rc _
            rw [v2 q]
            unfold upd
            rw [if_pos rfl]
      · rw [if_neg (fun q => by have := gi_of_eq q; omega), if_pos (gi_eq (by omega))] at e10
        rw [if_neg (fun q => by have := gi_of_eq q; omega), if_pos (gi_eq (by omega))] at b
        obtain ⟨h5', e5', e10⟩ := ob1_some e10
        obtain ⟨h6', e6', e10⟩ := ob1_some e10
        obtain rfl : h6' = h10 := Option.some.inj e10
        obtain ⟨g25, b25', b⟩ := ob1_some b
        obtain ⟨rb, g26, b26', b⟩ := ob2_some b
        obtain ⟨-, b⟩ := ob_if b
        obtain ⟨s0, s1, s2, s3, s4, s5⟩ := second 25 9 0 3 h5' h6' g25 (rb, g26) e5' b25' (by decide) (by decide) e6' b26' (by decide)
        replace s5 : Fr [(0, 0, 15), (0, 0, 16), (0, 0, 17), (0, 0, 18), (0, 0, 19), (0, 0, 20)] gA g26 := s5
        rw [s0, ecc] at b
        refine deedend_0 (d := (eI h 9 1).toInt.toNat) (w := eI g 0 18) (x1 := r1) bg ⟨by omega, by omega⟩ cc dd s4 (Fr_sA (by decide) (Fr_trans fm16 (Fr_trans (Fr_mono (by decide) y6) (Fr_trans (Fr_mono (by decide) fA) (Fr_mono (by decide) s5))))) ?_ (fun c hc => ?_) (fun i hi => ?_) ?_ (by omega) s1 (fun q => ?_) e b et
        · show eA g26 0 31 = _
          rw [s5.2.1 0 31 (by decide), fA.2.1 0 31 (by decide), y6.2.1 0 31 (by decide)]; exact M31
        · show eA g26 0 32 c = _ ∧ eA g26 0 33 c = _ ∧ upd (eA g26 0 34) _ rb c = _ ∧ eA g26 0 35 c = _
          rw [s5.2.1 0 32 (by decide), fA.2.1 0 32 (by decide), y6.2.1 0 32 (by decide), s5.2.1 0 33 (by decide), A33, y6.2.1 0 33 (by decide), s5.2.1 0 34 (by decide), fA.2.1 0 34 (by decide), y6.2.1 0 34 (by decide), s5.2.1 0 35 (by decide), fA.2.1 0 35 (by decide), y6.2.1 0 35 (by decide), M32, M33, M34, M35]
          unfold upd
          rw [if_neg hc, if_neg hc, if_neg hc, if_neg hc, if_neg hc, if_neg hc]
          exact ⟨rfl, rfl, rfl, rfl⟩
        · rw [s3 i (by omega)]; exact y3 i hi
        · rw [s3 _ (by omega)]; exact y4
        · have p2 := s2 q
          refine ⟨?_, fun _ => ?_, fun w4 => by omega⟩
          · show _ = eA g26 0 33 _
            rw [s3 _ (by omega), y2 p2.1, s5.2.1 0 33 (by decide), A33]
            unfold upd
            rw [if_pos rfl]
          · show _ = upd (eA g26 0 34) _ rb _
            rw [p2.2]
            unfold upd
            rw [if_pos rfl]
