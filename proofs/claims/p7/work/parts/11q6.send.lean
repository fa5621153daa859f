theorem j_send {h g : HS} {p m0 : Int32} {z w : Int32 × HS} (sr : SRel h 1 (eA g 0 0)) (rg : RG (eA g 0 0)) (e1 : f_X8_send h p m0 = some z) (e2 : f_X9_send g p m0 = some w) : DONE h g z w := by
  have y0 : (0 : Int32).toInt = 0 := rfl
  have y1 : (1 : Int32).toInt = 1 := rfl
  obtain ⟨⟨n1, n0, -⟩, mr, rw0, -⟩ := id rg
  have s3 : eI h 1 3 = eA g 0 0 1 := sr.1.1
  have s4 : eI h 1 4 = eA g 0 0 0 := sr.1.2.1
  -- what must hold that she goes
  have yes : ∀ (q m : Nat), p.toInt = (q : Int) → (q : Int) < (eA g 0 0 1).toInt → gc (eA g 0 0) 30 q 4 = 0 → gc (eA g 0 0) 30 q 8 = 0 → m0.toInt = (m : Int) → (m : Int) < (eA g 0 0 0).toInt → DONE h g z w := by
    intro q m q1 q2 q3 q8 m1 m2
    have c4 := sr_g sr q2 (show 4 < 9 by decide)
    have c8 := sr_g sr q2 (show 8 < 9 by decide)
    unfold f_X8_send at e1
    obtain ⟨r1, h1, a1, e1⟩ := ob2_some e1
    obtain ⟨k1, k2⟩ := cp_hasMarket a1 (by rw [s4]; exact n0.2)
    have k1 : h = h1 := k1.symm
    subst k1
    rw [s4] at k2
    rcases k2 with ⟨-, k3⟩ | ⟨k2, -⟩
    · exact absurd ⟨by omega, by omega⟩ k3
    have k2 : r1 = 1 := k2
    rw [if_neg (by rw [k2]; decide)] at e1
    obtain ⟨r3, h3, a3, e1⟩ := ob2_some e1
    obtain ⟨k4, k5⟩ := cp_isFree a3 (by rw [s3]; exact n1.2)
    have k4 : h = h3 := k4.symm
    subst k4
    rw [s3] at k5
    rcases k5 with ⟨k5, -⟩ | ⟨-, k6⟩
    rotate_left
    · exact absurd ⟨c4.trans q3, c8.trans q8⟩ (k6 q q1 q2)
    have k5 : r3 = 1 := k5
    rw [if_neg (by rw [k5]; decide)] at e1
    obtain ⟨h5, a5, e1⟩ := ob1_some e1
    unfold f_X9_send at e2
    obtain ⟨r2, g2, b2, e2⟩ := ob2_some e2
    obtain ⟨l1, l2⟩ := mp_isHome b2 n1
    have l1 : g = g2 := l1.symm
    subst l1
    rcases l2 with ⟨l2, -⟩ | ⟨-, l3⟩
    rotate_left
    · exact absurd q3 (l3 q q1 q2)
    have l2 : r2 = 1 := l2
    rw [if_neg (by rw [l2]; decide)] at e2
    obtain ⟨r4, g4, b4, e2⟩ := ob2_some e2
    obtain ⟨rfl, rfl⟩ := pr_inj (mp_ofGoose (q := q) (k := 8) b4 q1 rfl (by omega) (by decide))
    rw [if_neg (by rw [q8]; decide)] at e2
    obtain ⟨r6, g6, b6, e2⟩ := ob2_some e2
    obtain ⟨l4, l5⟩ := mp_isMarket b6 n0
    have l4 : g = g6 := l4.symm
    subst l4
    rcases l5 with ⟨-, l6⟩ | ⟨l5, -⟩
    · exact absurd ⟨by omega, by omega⟩ l6
    have l5 : r6 = 1 := l5
    rw [if_neg (by rw [l5]; decide)] at e2
    obtain ⟨g7, b7, e2⟩ := ob1_some e2
    obtain ⟨t1, t2, t3, t4, t5, t6⟩ := j_keep sr rg a5 b7
    have v1 : eA g7 0 0 1 = eA g 0 0 1 := t4 1 (by decide) (by decide)
    have v0 : eA g7 0 0 0 = eA g 0 0 0 := t4 0 (by decide) (by decide)
    have h13 : eI h5 1 3 = eA g7 0 0 1 := t1.1.1
    have h14 : eI h5 1 4 = eA g7 0 0 0 := t1.1.2.1
    have h17 : eI h5 1 7 = eA g7 0 0 121 := t1.1.2.2.2.2.1
    have q5 : (q : Int) < (eA g7 0 0 1).toInt := by rw [v1]; exact q2
    have m5 : (m : Int) < (eA g7 0 0 0).toInt := by rw [v0]; exact m2
    obtain ⟨r8, h8, a8, e1⟩ := ob2_some e1
    obtain ⟨rfl, rfl⟩ := pr_inj (cp_ofMarket (q := m) (k := 0) a8 m1 rfl (by rw [h14]; exact m5) (by rw [h14, v0]; exact n0.2) (by decide))
    obtain ⟨h9, a9, e1⟩ := ob1_some e1
    have E9 := cp_setGoose (q := q) (k := 4) a9 q1 rfl (by rw [h13]; exact q5) (by rw [h13, v1]; exact n1.2) (by decide)
    subst E9
    obtain ⟨h10, a10, e1⟩ := ob1_some e1
    have E10 := cp_setGoose (q := q) (k := 5) a10 q1 rfl (by show (q : Int) < (eI h5 1 3).toInt; rw [h13]; exact q5) (by show (eI h5 1 3).toInt ≤ 10; rw [h13, v1]; exact n1.2) (by decide)
    subst E10
    obtain ⟨h11, a11, e1⟩ := ob1_some e1
    have E11 := cp_setGoose (q := q) (k := 6) a11 q1 rfl (by show (q : Int) < (eI h5 1 3).toInt; rw [h13]; exact q5) (by show (eI h5 1 3).toInt ≤ 10; rw [h13, v1]; exact n1.2) (by decide)
    subst E11
    cases e1
    obtain ⟨g8, b8, e2⟩ := ob1_some e2
    have F8 := mp_puts (q := q) (k := 4) b8 q1 rfl (by omega) (by decide)
    subst F8
    obtain ⟨g9, b9, e2⟩ := ob1_some e2
    have F9 := mp_puts (q := q) (k := 5) b9 q1 rfl (by omega) (by decide)
    subst F9
    obtain ⟨-, e2⟩ := ob_if e2
    rw [mp_mk0 m1 (by omega)] at e2
    obtain ⟨g11, b11, e2⟩ := ob1_some e2
    have F11 := mp_puts (q := q) (k := 6) b11 q1 rfl (by omega) (by decide)
    subst F11
    obtain ⟨r12, g12, b12, e2⟩ := ob2_some e2
    obtain ⟨rfl, rfl⟩ := pr_inj (mp_ofGoose (q := q) (k := 6) b12 q1 rfl (by omega) (by decide))
    cases e2
    obtain ⟨X, hX⟩ : ∃ X : Nat → Int32, X = upd (upd (eA g7 0 0) (30 + (9 * q + 4)) 1) (30 + (9 * q + 5)) m0 := ⟨_, rfl⟩
    have X121 : X 121 = eA g7 0 0 121 := by rw [hX, ud_ne (by omega), ud_ne (by omega)]
    have Xm : X (10 + (3 * m + 0)) = eA g7 0 0 (10 + (3 * m + 0)) := by rw [hX, ud_ne (by omega), ud_ne (by omega)]
    have wm : eA h5 1 1 (3 * m + 0) = eA g7 0 0 (10 + (3 * m + 0)) := sr_m t1 m5 (show 0 < 3 by decide)
    have th : eI h5 1 7 + eA h5 1 1 (3 * m + 0) = X 121 + X (10 + (3 * m + 0)) := by rw [X121, Xm, h17, wm]
    have mrm := t2.2.1 m m5
    have dd : 0 ≤ (eA g7 0 0 121).toInt ∧ (eA g7 0 0 121).toInt ≤ 999 := t2.2.2.1.2.1
    have md := mrm.1
    have ts := fb_addI (x := X 121) (y := X (10 + (3 * m + 0))) (by rw [X121, Xm]; show _ ≤ (eA g7 0 0 121).toInt + (eA g7 0 0 (10 + 3 * m)).toInt; omega) (by rw [X121, Xm]; show (eA g7 0 0 121).toInt + (eA g7 0 0 (10 + 3 * m)).toInt < _; omega)
    rw [X121, Xm] at ts
    have ts : (eA g7 0 0 121 + eA g7 0 0 (10 + (3 * m + 0))).toInt = (eA g7 0 0 121).toInt + (eA g7 0 0 (10 + 3 * m)).toInt := ts
    have R := FIN (q := q) (h' := sA (sA (sA h5 1 0 (upd (eA h5 1 0) (9 * q + 4) 1)) 1 0 (upd (upd (eA h5 1 0) (9 * q + 4) 1) (9 * q + 5) m0)) 1 0 (upd (upd (upd (eA h5 1 0) (9 * q + 4) 1) (9 * q + 5) m0) (9 * q + 6) (eI h5 1 7 + eA h5 1 1 (3 * m + 0)))) (B := upd X (30 + (9 * q + 6)) (X 121 + X (10 + (3 * m + 0)))) t1 t2 t3 q5 (fun k hc _ => by rw [ud_ne (hc 6 (by decide)), hX, ud_ne (hc 5 (by decide)), ud_ne (hc 4 (by decide))]) (Fr_sA (by decide) (Fr_sA (by decide) (Fr_sA (by decide) (Fr_refl _ _)))) (by
      rw [← th, hX]
      exact GEE_upd (GEE_upd (GEE_upd t1.2.1 (by omega)) (by omega)) (by omega)) (by
      rw [ud_ne (by omega), hX, ud_ne (by omega), ud_ne (by omega)]
      exact t1.1.2.2.1) (by
      rw [ud_ne (by omega), hX, ud_ne (by omega), ud_ne (by omega)]
      exact t2.2.2.1.1) (fun gr5 => by
      unfold GR at gr5 ⊢
      rw [X121, Xm, hX]
      simp (disch := omega) only [gc_upd_ne, gc_upd_eq]
      rw [ts]
      omega)
    rw [hX] at R th
    refine ⟨?_, R.1, R.2.2⟩
    show eI h5 1 7 + eA h5 1 1 (3 * m + 0) = gc (upd _ (30 + (9 * q + 6)) _) 30 q 6
    rw [gc_upd_eq]
    exact th
  have no1 : (∀ (q m : Nat), p.toInt = (q : Int) → (q : Int) < (eA g 0 0 1).toInt → gc (eA g 0 0) 30 q 4 = 0 → gc (eA g 0 0) 30 q 8 = 0 → m0.toInt = (m : Int) → (m : Int) < (eA g 0 0 0).toInt → False) → DONE h g z w := by
    intro no
    have hz : z = (-1, h) := by
      unfold f_X8_send f_X8_send_22 at e1
      obtain ⟨r1, h1, a1, e1⟩ := ob2_some e1
      obtain ⟨k1, k2⟩ := cp_hasMarket a1 (by rw [s4]; exact n0.2)
      have k1 : h = h1 := k1.symm
      subst k1
      rw [s4] at k2
      rcases k2 with ⟨k2, -⟩ | ⟨k2, k3, k4⟩
      · have k2 : r1 = 0 := k2
        rw [if_pos k2] at e1
        exact (Option.some.inj e1).symm
      · have k2 : r1 = 1 := k2
        rw [if_neg (by rw [k2]; decide)] at e1
        obtain ⟨r3, h3, a3, e1⟩ := ob2_some e1
        obtain ⟨k5, k6⟩ := cp_isFree a3 (by rw [s3]; exact n1.2)
        have k5 : h = h3 := k5.symm
        subst k5
        rw [s3] at k6
        rcases k6 with ⟨-, q, q1, q2, q3, q4⟩ | ⟨k6, -⟩
        · exact (no q m0.toInt.toNat q1 q2 ((sr_g sr q2 (show 4 < 9 by decide)).symm.trans q3) ((sr_g sr q2 (show 8 < 9 by decide)).symm.trans q4) (by omega) (by omega)).elim
        · have k6 : r3 = 0 := k6
          rw [if_pos k6] at e1
          exact (Option.some.inj e1).symm
    have hw : w = (-1, g) := by
      unfold f_X9_send f_X9_send_27 at e2
      obtain ⟨r2, g2, b2, e2⟩ := ob2_some e2
      obtain ⟨l1, l2⟩ := mp_isHome b2 n1
      have l1 : g = g2 := l1.symm
      subst l1
      rcases l2 with ⟨l2, q, q1, q2, q3⟩ | ⟨l2, -⟩
      · have l2 : r2 = 1 := l2
        rw [if_neg (by rw [l2]; decide)] at e2
        obtain ⟨r4, g4, b4, e2⟩ := ob2_some e2
        obtain ⟨rfl, rfl⟩ := pr_inj (mp_ofGoose (q := q) (k := 8) b4 q1 rfl (by omega) (by decide))
        have gr := rw0.2.2 q q2
        by_cases c8 : gc (eA g 0 0) 30 q 8 = 1
        · rw [if_pos c8] at e2
          exact (Option.some.inj e2).symm
        · rw [if_neg c8] at e2
          have d8 := gi_of_ne c8
          obtain ⟨r6, g6, b6, e2⟩ := ob2_some e2
          obtain ⟨l4, l5⟩ := mp_isMarket b6 n0
          have l4 : g = g6 := l4.symm
          subst l4
          rcases l5 with ⟨l5, -⟩ | ⟨-, l6, l7⟩
          · have l5 : r6 = 0 := l5
            rw [if_pos l5] at e2
            exact (Option.some.inj e2).symm
          · have z8 : gc (eA g 0 0) 30 q 8 = 0 := by unfold GR at gr; exact gi_eq (by omega)
            exact (no q m0.toInt.toNat q1 q2 q3 z8 (by omega) (by omega)).elim
      · have l2 : r2 = 0 := l2
        rw [if_pos l2] at e2
        exact (Option.some.inj e2).symm
    rw [hz, hw]
    exact DONE_no sr rg
  by_cases c : ∃ (q m : Nat), p.toInt = (q : Int) ∧ (q : Int) < (eA g 0 0 1).toInt ∧ gc (eA g 0 0) 30 q 4 = 0 ∧ gc (eA g 0 0) 30 q 8 = 0 ∧ m0.toInt = (m : Int) ∧ (m : Int) < (eA g 0 0 0).toInt
  · obtain ⟨q, m, c1, c2, c3, c4, c5, c6⟩ := c
    exact yes q m c1 c2 c3 c4 c5 c6
  · exact no1 (fun q m c1 c2 c3 c4 c5 c6 => c ⟨q, m, c1, c2, c3, c4, c5, c6⟩)
