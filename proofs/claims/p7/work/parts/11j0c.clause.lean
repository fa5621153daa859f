theorem ds_number_0 {B : Int → Int} {L : Int} {P : Nat → Int} {a : Int} {h h' g : HS} {f lo hi : Int32} {z : Int32 × HS} (ds : DS B L P a h g) (e : f_X2_readNumber_0 h f lo hi = some h') (n : f_X9_number g lo hi = some z) (c0 : 0 ≤ (eI h 9 1).toInt) (c1 : (eI h 9 1).toInt < 24) (f0 : 0 ≤ f.toInt) (f1 : f.toInt < 4) (h0 : hi.toInt ≤ 99) : DS B L P a h' z.2 ∧ (eI h' 5 0 = 0 → eA h' 9 0 (4 * (eI h 9 1).toInt.toNat + f.toInt.toNat) = z.1) ∧ (∀ i : Nat, ¬ i = 4 * (eI h 9 1).toInt.toNat + f.toInt.toNat → eA h' 9 0 i = eA h 9 0 i) := by
  have z0 : (0 : Int32).toInt = 0 := rfl
  have z2 : (2 : Int32).toInt = 2 := rfl
  unfold f_X2_readNumber_0 f_X2_readNumber_0_69 at e
  unfold f_X9_number f_X9_number_15 at n
  rcases ds with ⟨t, p0, g0, ha⟩ | ⟨p0, g0, g1, g2⟩
  · rw [if_pos p0] at e
    rw [if_neg (fun q => by have := gi_of_lt q; rw [g0] at this; omega)] at n
    obtain ⟨r2, h2, e2, e⟩ := ob2_some e
    obtain ⟨u1, u2⟩ := TT_kind t e2
    obtain rfl : h = h2 := u1.symm
    replace u2 : r2.toInt = kd h := u2
    have bad : ∀ (w : Int32) (y : HS), f_X2_fail h w = some h' → f_X9_errs g w = some y → 0 < w.toInt → DS B L P a h' y ∧ (eI h' 5 0 = 0 → eA h' 9 0 (4 * (eI h 9 1).toInt.toNat + f.toInt.toNat) = z.1) ∧ (∀ i : Nat, ¬ i = 4 * (eI h 9 1).toInt.toNat + f.toInt.toNat → eA h' 9 0 i = eA h 9 0 i) := by
      intro w y ef en hw
      obtain ⟨rfl, rfl⟩ := TT_fail t p0 g0 ef en
      refine ⟨Or.inr ⟨fun q => ?_, hw, rfl, rfl⟩, fun q => ?_, fun i _ => rfl⟩
      · replace q : w = 0 := q
        rw [q] at hw; omega
      · replace q : w = 0 := q
        rw [q] at hw; omega
    by_cases k2 : kd h = 2
    · obtain ⟨so, nr⟩ := TK_num t k2
      rw [if_pos (gi_eq (by omega))] at e n
      obtain ⟨r4, h4, e4, e⟩ := ob2_some e
      obtain ⟨u3, u4⟩ := TT_value t e4
      obtain rfl : h = h4 := u3.symm
      replace u4 : r4.toInt = vl h := u4
      obtain ⟨r3, n3, n⟩ := ob1_some n
      have k3 := mx_in n3
      unfold NR at nr
      have b43 : f_X2_readNumber_0_43 h = some h' → (¬ (lo.toInt ≤ (eI g 0 18).toInt ∧ (eI g 0 18).toInt ≤ hi.toInt)) → DS B L P a h' z.2 ∧ (eI h' 5 0 = 0 → eA h' 9 0 (4 * (eI h 9 1).toInt.toNat + f.toInt.toNat) = z.1) ∧ (∀ i : Nat, ¬ i = 4 * (eI h 9 1).toInt.toNat + f.toInt.toNat → eA h' 9 0 i = eA h 9 0 i) := by
        intro e nn
        rcases k3 with ⟨rfl, k3⟩ | ⟨-, k3⟩
        · rw [if_pos rfl] at n
          unfold f_X2_readNumber_0_43 f_X2_readNumber_0_69 at e
          obtain ⟨h5, e5, e⟩ := ob1_some e
          cases e
          obtain ⟨g5, n5, n⟩ := ob1_some n
          cases n
          exact bad 2 g5 e5 n5 (by decide)
        · exact absurd k3 nn
      by_cases c4 : r4 < lo
      · rw [if_pos c4] at e
        have d4 := gi_of_lt c4
        exact b43 e (by omega)
      · rw [if_neg c4] at e
        have d4 := gi_of_nlt c4
        obtain ⟨r6, h6, e6, e⟩ := ob2_some e
        obtain ⟨u5, u6⟩ := TT_value t e6
        obtain rfl : h = h6 := u5.symm
        replace u6 : r6.toInt = vl h := u6
        by_cases c6 : r6 ≤ hi
        · rw [if_pos c6] at e
          have d6 := gi_of_le c6
          obtain ⟨r8, h8, e8, e⟩ := ob2_some e
          obtain ⟨u7, u8⟩ := TT_value t e8
          obtain rfl : h = h8 := u7.symm
          replace u8 : r8.toInt = vl h := u8
          obtain ⟨h9, e9, e⟩ := ob1_some e
          obtain ⟨h10, e10, e⟩ := ob1_some e
          obtain rfl : h10 = h' := Option.some.inj e
          rcases k3 with ⟨-, k3⟩ | ⟨rfl, k3⟩
          · exact absurd (by omega) k3
          · rw [if_neg (by decide)] at n
            obtain ⟨g5, n5, n⟩ := ob1_some n
            cases n
            have eh9 := cp_setClause_0 e9 c0 c1 f0 f1
            have f9 : Fr [(1, 9, 0)] h h9 := by rw [eh9]; exact Fr_sA (by decide) (Fr_refl _ _)
            have t9 := TT_h t f9 (by decide) (by decide) (by decide) (by decide) (by decide)
            obtain ⟨t10, eh10, ea⟩ := TT_adv t9 (by rw [eh9]; show ¬ kd h = 0; omega) e10 (Fr_refl [] g) (by decide) (by decide) (by decide) n5
            have fn := w_f_X9_next _ _ n5
            have f10 : Fr [(0, 4, 4)] h9 h10 := by rw [eh10]; exact Fr_sI (by decide) (Fr_refl _ _)
            have at9 : at_ h9 = at_ h := by rw [eh9]; rfl
            refine ⟨Or.inl ⟨t10, ?_, ?_, by have := ha.1; omega, by rw [f10.1 5 1 (by decide), f9.1 5 1 (by decide)]; exact ha.2.1, (fn.1 0 20 (by decide)).trans ha.2.2⟩, fun _ => ?_, fun i hi => ?_⟩
            · rw [f10.1 5 0 (by decide), f9.1 5 0 (by decide)]; exact p0
            · show eI g5 0 19 = 0
              rw [fn.1 0 19 (by decide)]; exact g0
            · show eA h10 9 0 _ = eI g 0 18
              rw [f10.2.1 9 0 (by decide), eh9]
              show upd (eA h 9 0) _ r8 _ = _
              unfold upd
              rw [if_pos rfl]
              exact gi_eq (by omega)
            · rw [f10.2.1 9 0 (by decide), eh9]
              show upd (eA h 9 0) _ r8 i = _
              unfold upd
              rw [if_neg hi]
        · rw [if_neg c6] at e
          have d6 := gi_of_nle c6
          exact b43 e (by omega)
    · rw [if_neg (fun q => by have := gi_of_eq q; omega)] at e
      have tn := TK_not t k2
      have so : ¬ (eI g 0 17).toInt = 2 := by
        rcases tn with q | q | q | q
        · omega
        · omega
        · omega
        · omega
      rw [if_neg (fun q => by have := gi_of_eq q; omega)] at n
      obtain ⟨h5, e5, e⟩ := ob1_some e
      cases e
      obtain ⟨g5, n5, n⟩ := ob1_some n
      cases n
      exact bad 1 g5 e5 n5 (by decide)
  · rw [if_neg p0] at e
    cases e
    rw [if_pos (gi_lt (by omega))] at n
    obtain ⟨g5, n5, n⟩ := ob1_some n
    cases n
    have eg : g5 = g := by
      unfold f_X9_errs f_X9_errs_20 at n5
      rw [if_neg (fun q => by rw [q] at g0; exact absurd g0 (by decide))] at n5
      cases n5; rfl
    refine ⟨Or.inr ?_, fun q => absurd q p0, fun i _ => rfl⟩
    show _ ∧ _ ∧ _ ∧ _
    rw [eg]
    exact ⟨p0, g0, g1, g2⟩
theorem deedend_0 {B : Int → Int} {L : Int} {P : Nat → Int} {d : Nat} {h g hD gD h' g1 : HS} {N : Nat} {r : Int32 × HS} {w x1 : Int32} (bg : BEG B L P 9 h g) (hw : 4 ≤ w.toInt ∧ w.toInt ≤ 7) (cc : (eI h 9 1).toInt < 24) (hd : (d : Int) = (eI h 9 1).toInt) (fc : Fr [(0, 4, 4), (0, 5, 0), (0, 5, 1), (0, 5, 2), (1, 9, 0)] h hD) (fm : Fr [(0, 0, 15), (0, 0, 16), (0, 0, 17), (0, 0, 18), (0, 0, 19), (0, 0, 20), (0, 0, 30), (1, 0, 31), (1, 0, 32), (1, 0, 33), (1, 0, 34), (1, 0, 35)] g gD) (m31 : eA gD 0 31 = upd (eA g 0 31) d w) (m3 : ∀ c : Nat, ¬ c = d → eA gD 0 32 c = eA g 0 32 c ∧ eA gD 0 33 c = eA g 0 33 c ∧ eA gD 0 34 c = eA g 0 34 c ∧ eA gD 0 35 c = eA g 0 35 c) (c0 : ∀ i : Nat, i < 4 * d → eA hD 9 0 i = eA h 9 0 i) (c1 : eA hD 9 0 (4 * d) = x1) (hx1 : x1.toInt = 16 + w.toInt) (ds : DS B L P (at_ h) hD gD) (v1 : eI hD 5 0 = 0 → eA hD 9 0 (4 * d + 1) = eA gD 0 33 d ∧ (w.toInt ≤ 5 → eA hD 9 0 (4 * d + 2) = eA gD 0 34 d) ∧ (w.toInt = 4 → eA hD 9 0 (4 * d + 3) = eA gD 0 35 d)) (e : f_X2_readClause_0_141 hD = some h') (b : f_X9_clause_301 gD = some g1) (et : f_X9_text_74 N g1 = some r) : BADC r h' g ∨ NXT_0 B L P r h h' g := by
  have z1 : (1 : Int32).toInt = 1 := rfl
  have z15 : (15 : Int32).toInt = 15 := rfl
  have z59 : (59 : Int32).toInt = 59 := rfl
  obtain ⟨bt, bf, bw, b21, b22, b25, b28, bpl, tx1, ⟨tx2, tx3⟩, tx4, tx5, tx6, tx7, tx8⟩ := id bg
  unfold f_X2_readClause_0_141 f_X2_readClause_0_158 at e
  obtain ⟨h16, e16, e⟩ := ob1_some e
  have eh' : h' = sI h16 9 1 (eI h16 9 1 + 1) := (Option.some.inj e).symm
  have f' : Fr [(0, 9, 1)] h16 h' := by rw [eh']; exact Fr_sI (by decide) (Fr_refl _ _)
  unfold f_X2_expect f_X2_expect_29 at e16
  unfold f_X9_clause_301 at b
  rcases ds with ⟨t, p0, g0, ha⟩ | ⟨p0, g0, q1, q2⟩
  · rw [if_pos p0] at e16
    rw [if_pos g0] at b
    obtain ⟨rr, hh, e16a, e16⟩ := ob2_some e16
    obtain ⟨u1, u2⟩ := TT_kind t e16a
    obtain rfl : hD = hh := u1.symm
    replace u2 : rr.toInt = kd hD := u2
    obtain ⟨r37, g37, b37, b⟩ := ob2_some b
    obtain ⟨y1, y2⟩ := mp_isSign b37
    obtain rfl : gD = g37 := y1.symm
    have tk := TT_tk t
    have same : (eI gD 0 17).toInt = 3 ∧ (eI gD 0 18).toInt = 59 ↔ kd hD = 15 := by
      rcases tk with u | u | u | u | u
      · omega
      · omega
      · omega
      · omega
      · have := u.2; unfold SG at this; omega
    rcases y2 with ⟨y2, y3⟩ | ⟨y2, y3⟩
    · replace y2 : r37 = 0 := y2
      rw [if_pos y2] at b
      obtain ⟨g39, b39, b⟩ := ob1_some b
      rw [if_neg (fun q => by have := gi_of_eq q; exact y3 (same.mpr (by omega)))] at e16
      obtain ⟨h4, e4, e16⟩ := ob1_some e16
      cases e16
      obtain ⟨rfl, rfl⟩ := TT_fail t p0 g0 e4 b39
      unfold f_X9_clause_322 f_X9_clause_333 at b
      rw [if_neg (show ¬ eI (sI (sI gD 0 19 1) 0 20 (eI gD 0 16)) 0 19 = 0 from (by decide : ¬ (1 : Int32) = 0))] at b
      cases b
      refine Or.inl ⟨?_, N, _, et, ?_, ?_, Fr_sI (by decide) (Fr_sI (by decide) (Fr_mono (by decide) fm)), (by decide : 0 < (1 : Int32).toInt)⟩
      · rw [f'.1 5 0 (by decide)]; exact (by decide : ¬ (1 : Int32) = 0)
      · rw [f'.1 5 0 (by decide)]; rfl
      · rw [f'.1 5 1 (by decide)]; rfl
    · replace y2 : r37 = 1 := y2
      rw [if_neg (by rw [y2]; decide)] at b
      have k15 := same.mp y3
      rw [if_pos (gi_eq (by omega))] at e16
      obtain ⟨h5, e5, e16⟩ := ob1_some e16
      obtain rfl : h5 = h16 := Option.some.inj e16
      unfold f_X9_clause_322 f_X9_clause_333 at b
      rw [if_pos g0] at b
      obtain ⟨g41, b41, b⟩ := ob1_some b
      cases b
      obtain ⟨ga, gb, gc, ba, bb, bc, eg3⟩ := mp_over b41
      subst eg3
      unfold f_X9_works at ba
      have w25 : (eI gD 0 25).toInt = 0 := by rw [fm.1 0 25 (by decide)]; exact b25
      obtain ⟨n1, n2, n3, n4, n5⟩ := mp_works (F := (eI gD 0 22).toInt) [] _ gD ga 0 ba w25 rfl trivial (fun p hp => absurd hp List.not_mem_nil) (Or.inl rfl)
      replace n2 : (eI ga 0 36).toInt = (eI gD 0 36).toInt + (0 : Int) := n2
      obtain ⟨⟨v1', v2'⟩, egb⟩ := mp_emits bb
      replace v1' : 0 ≤ (eI ga 0 36).toInt := v1'
      replace v2' : (eI ga 0 36).toInt < 400 := v2'
      replace egb : gb = sI (sA (sA (sI ga 0 22 0) 0 37 (upd (eA ga 0 37) (eI ga 0 36).toInt.toNat 408)) 0 38 (upd (eA ga 0 38) (eI ga 0 36).toInt.toNat 0)) 0 36 (eI ga 0 36 + 1) := egb
      have fB : Fr [(0, 0, 25), (0, 0, 36), (1, 0, 37), (1, 0, 38), (0, 0, 22), (0, 0, 29)] gD (sI gb 0 29 (eI gb 0 29 + 1)) := by
        rw [egb]
        exact Fr_sI (by decide) (Fr_sI (by decide) (Fr_sA (by decide) (Fr_sA (by decide) (Fr_sI (by decide) (Fr_mono (by decide) n5)))))
      obtain ⟨t5, eh5, ea5⟩ := TT_adv t (by omega) e5 fB (by decide) (by decide) (by decide) bc
      have fn := w_f_X9_next _ _ bc
      have f5 : Fr [(0, 4, 4)] hD h5 := by rw [eh5]; exact Fr_sI (by decide) (Fr_refl _ _)
      have fC : Fr [(0, 0, 28)] gc (sI gc 0 28 4) := Fr_sI (by decide) (Fr_refl _ _)
      have d36 : eI gD 0 36 = eI g 0 36 := fm.1 0 36 (by decide)
      have hb29 : eI gb 0 29 = eI g 0 29 := by
        rw [egb]
        show eI ga 0 29 = _
        rw [n5.1 0 29 (by decide), fm.1 0 29 (by decide)]
      have G29 : eI (sI gc 0 28 4) 0 29 = eI g 0 29 + 1 := by
        rw [fC.1 0 29 (by decide), fn.1 0 29 (by decide)]
        show eI gb 0 29 + 1 = _
        rw [hb29]
      have G36 : eI (sI gc 0 28 4) 0 36 = eI ga 0 36 + 1 := by
        rw [fC.1 0 36 (by decide), fn.1 0 36 (by decide), egb]; rfl
      have G37 : eA (sI gc 0 28 4) 0 37 = upd (eA ga 0 37) (eI ga 0 36).toInt.toNat 408 := by
        rw [fC.2.1 0 37 (by decide), fn.2.1 0 37 (by decide), egb]; rfl
      have G38 : eA (sI gc 0 28 4) 0 38 = upd (eA ga 0 38) (eI ga 0 36).toInt.toNat 0 := by
        rw [fC.2.1 0 38 (by decide), fn.2.1 0 38 (by decide), egb]; rfl
      have G31 : eA (sI gc 0 28 4) 0 31 = eA gD 0 31 := by rw [fC.2.1 0 31 (by decide), fn.2.1 0 31 (by decide), fB.2.1 0 31 (by decide)]
      have G32 : eA (sI gc 0 28 4) 0 32 = eA gD 0 32 := by rw [fC.2.1 0 32 (by decide), fn.2.1 0 32 (by decide), fB.2.1 0 32 (by decide)]
      have G33 : eA (sI gc 0 28 4) 0 33 = eA gD 0 33 := by rw [fC.2.1 0 33 (by decide), fn.2.1 0 33 (by decide), fB.2.1 0 33 (by decide)]
      have G34 : eA (sI gc 0 28 4) 0 34 = eA gD 0 34 := by rw [fC.2.1 0 34 (by decide), fn.2.1 0 34 (by decide), fB.2.1 0 34 (by decide)]
      have G35 : eA (sI gc 0 28 4) 0 35 = eA gD 0 35 := by rw [fC.2.1 0 35 (by decide), fn.2.1 0 35 (by decide), fB.2.1 0 35 (by decide)]
      have H1 : eI h' 9 1 = eI h 9 1 + 1 := by
        rw [eh']
        show eI h5 9 1 + 1 = _
        rw [f5.1 9 1 (by decide), fc.1 9 1 (by decide)]
      have H5 : eI h' 9 5 = eI h 9 5 := by
        rw [f'.1 9 5 (by decide), f5.1 9 5 (by decide), fc.1 9 5 (by decide)]
      have H0 : eA h' 9 0 = eA hD 9 0 := by rw [f'.2.1 9 0 (by decide), f5.2.1 9 0 (by decide)]
      have H2 : eA h' 9 2 = eA h 9 2 := by rw [f'.2.1 9 2 (by decide), f5.2.1 9 2 (by decide), fc.2.1 9 2 (by decide)]
      have H3 : eA h' 9 3 = eA h 9 3 := by rw [f'.2.1 9 3 (by decide), f5.2.1 9 3 (by decide), fc.2.1 9 3 (by decide)]
      have H4 : eA h' 9 4 = eA h 9 4 := by rw [f'.2.1 9 4 (by decide), f5.2.1 9 4 (by decide), fc.2.1 9 4 (by decide)]
      have Ha : at_ h' = at_ hD + 1 := by
        rw [← ea5, eh']; rfl
      have z1a := fb_addI (x := eI h 9 1) (y := 1) (by omega) (by omega)
      have z2a := fb_addI (x := eI g 0 29) (y := 1) (by omega) (by omega)
      have z3a := fb_addI (x := eI ga 0 36) (y := 1) (by omega) (by omega)
      rw [d36] at n2 n3
      have T5 : TT B L P h' (sI gc 0 28 4) := TT_h (TT_g t5 fC (by decide) (by decide) (by decide) (by decide) (by decide) (by decide)) f' (by decide) (by decide) (by decide) (by decide) (by decide)
      have vv := v1 p0
      have ha1 := ha.1
      refine Or.inr ⟨N, _, et, ⟨T5, ?_, ?_, ?_, ?_, ?_, rfl, ⟨by rw [f'.1 5 1 (by decide), f5.1 5 1 (by decide)]; exact ha.2.1, by rw [fC.1 0 20 (by decide), fn.1 0 20 (by decide), fB.1 0 20 (by decide)]; exact ha.2.2⟩, ?_, ⟨?_, ?_⟩, ?_, ?_, ?_, ?_, ?_⟩, by rw [H1]; omega, Fr_trans (Fr_mono (by decide) fm) (Fr_trans (Fr_mono (by decide) fB) (Fr_trans (Fr_mono (by decide) fn) (Fr_mono (by decide) fC)))⟩
      · rw [f'.1 5 0 (by decide), f5.1 5 0 (by decide)]; exact p0
      · rw [fC.1 0 19 (by decide), fn.1 0 19 (by decide), fB.1 0 19 (by decide)]; exact g0
      · rw [fC.1 0 21 (by decide), fn.1 0 21 (by decide), fB.1 0 21 (by decide), fm.1 0 21 (by decide)]; exact b21
      · rw [fC.1 0 22 (by decide), fn.1 0 22 (by decide), egb]; rfl
      · rw [fC.1 0 25 (by decide), fn.1 0 25 (by decide), egb]
        show (eI ga 0 25).toInt = 0
        omega
      · rw [H1, G29]; omega
      · rw [H1]; omega
      · rw [H1]; omega
      · rw [H5]; omega
      · rw [G36, H5, H1]; omega
      · rw [H5, Ha]; omega
      · intro c hc
        rw [H1] at hc
        by_cases cd : c = d
        · subst cd
          have W : (eA (sI gc 0 28 4) 0 31 c).toInt = w.toInt := by
            rw [G31, m31]
            unfold upd
            rw [if_pos rfl]
          unfold CLR
          rw [W, H0, G33, G34, G35]
          exact ⟨by omega, by omega, by rw [c1]; exact hx1, fun q => by omega, fun _ => vv⟩
        · have hc2 : (c : Int) < (eI h 9 1).toInt := by omega
          have mm := m3 c cd
          refine CLR_keep (n := (eI h 9 1).toInt) (s := (eI h 9 5).toInt) (r := (eI g 0 36).toInt) (tx7 c hc2) hc2 (fun i hi => ?_) (fun i hi => ?_) (fun v v4 hv => ?_) rfl (by rw [H5]; exact Int.le_refl _) (by omega) ?_ ?_ ?_ ?_ ?_ (fun i hi => ?_)
          · rw [H0]; exact c0 i (by omega)
          · rw [H2]
          · rw [H3, H4]; exact ⟨rfl, rfl⟩
          · rw [G31, m31]; unfold upd; rw [if_neg cd]
          · rw [G32]; exact mm.1
          · rw [G33]; exact mm.2.1
          · rw [G34]; exact mm.2.2.1
          · rw [G35]; exact mm.2.2.2
          · rw [G37, G38]
            unfold upd
            rw [if_neg (by omega), if_neg (by omega)]
            have := n3 i hi
            rw [this.1, this.2, fm.2.1 0 37 (by decide), fm.2.1 0 38 (by decide)]
            exact ⟨rfl, rfl⟩
      · intro v v4
        rw [H3, H1, G31, m31]
        rcases tx8 v v4 with ⟨y1, y2⟩ | ⟨y1, c, y2, y3⟩
        · refine Or.inl ⟨y1, fun c hc => ?_⟩
          unfold upd
          by_cases cd : c = d
          · rw [if_pos cd]; omega
          · rw [if_neg cd]; exact y2 c (by omega)
        · refine Or.inr ⟨y1, c, by omega, ?_⟩
          unfold upd
          rw [if_neg (by omega)]
          exact y3
  · rw [if_neg p0] at e16
    cases e16
    have w0 : ¬ eI gD 0 19 = 0 := fun q => by rw [q] at g0; exact absurd g0 (by decide)
    rw [if_neg w0] at b
    unfold f_X9_clause_322 f_X9_clause_333 at b
    rw [if_neg w0] at b
    cases b
    refine Or.inl ⟨?_, N, _, et, ?_, ?_, Fr_mono (by decide) fm, g0⟩
    · rw [f'.1 5 0 (by decide)]; exact p0
    · rw [f'.1 5 0 (by decide)]; exact q1
    · rw [f'.1 5 1 (by decide)]; exact q2
