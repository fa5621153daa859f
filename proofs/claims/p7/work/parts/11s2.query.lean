/-! what is asked -/
theorem j_of {h g : HS} {p k : Int32} {z w : Int32 × HS} (s : STD h g) (e1 : f_X8_of h p k = some z) (e2 : f_X9_of g p k = some w) : z.1 = w.1 := by
  have y0 : (0 : Int32).toInt = 0 := rfl
  have y9 : (9 : Int32).toInt = 9 := rfl
  obtain ⟨n1, n0, n4⟩ := std_n s
  have s3 : eI h 1 3 = eA g 0 0 1 := s.1.1.1
  unfold f_X8_of f_X8_of_21 f_X8_of_50 at e1
  unfold f_X9_of f_X9_of_18 f_X9_of_47 at e2
  obtain ⟨r1, h1, a1, e1⟩ := ob2_some e1
  obtain ⟨k1, k2⟩ := cp_hasGoose a1 (by rw [s3]; exact n1.2)
  have k1 : h = h1 := k1.symm
  subst k1
  rw [s3] at k2
  obtain ⟨r2, g2, b2, e2⟩ := ob2_some e2
  obtain ⟨l1, l2⟩ := mp_isGoose b2 n1
  have l1 : g = g2 := l1.symm
  subst l1
  rcases l2 with ⟨l2, l3⟩ | ⟨l2, l3, l4⟩
  · have l2 : r2 = 0 := l2
    rw [if_pos l2] at e2
    rcases k2 with ⟨k2, -⟩ | ⟨-, k3, k4⟩
    · have k2 : r1 = 0 := k2
      rw [if_pos k2] at e1
      cases e1
      cases e2
      rfl
    · exact absurd ⟨k3, k4⟩ l3
  · have l2 : r2 = 1 := l2
    rw [if_neg (by rw [l2]; decide)] at e2
    rcases k2 with ⟨-, k3⟩ | ⟨k2, -⟩
    · exact absurd ⟨l3, l4⟩ k3
    have k2 : r1 = 1 := k2
    rw [if_neg (by rw [k2]; decide)] at e1
    obtain ⟨q, hq⟩ : ∃ q : Nat, p.toInt = (q : Int) := ⟨p.toInt.toNat, by omega⟩
    obtain ⟨r3, b3, e2⟩ := ob1_some e2
    rcases mx_in b3 with ⟨m, u⟩ | ⟨m, u⟩
    · rw [if_pos m] at e2
      cases e2
      by_cases c1 : k < 0
      · rw [if_pos c1] at e1; cases e1; rfl
      · rw [if_neg c1] at e1
        have d1 := gi_of_nlt c1
        rw [if_neg (gi_nle (by omega))] at e1
        cases e1
        rfl
    · rw [if_neg (by rw [m]; decide)] at e2
      rw [if_neg (gi_nlt (by omega)), if_pos (gi_le (by omega))] at e1
      by_cases c9 : k = 9
      · rw [if_pos c9] at e1
        have d9 := gi_of_eq c9
        rw [if_pos (gi_le (by omega))] at e2
        obtain ⟨r7, h7, a7, e1⟩ := ob2_some e1
        obtain ⟨r6, g6, b6, e2⟩ := ob2_some e2
        obtain ⟨j1, -⟩ := j_isTrue s hq (by omega) a7 b6
        have j1 : r7 = r6 := j1
        rw [j1] at e1
        by_cases c0 : r6 = 0
        · rw [if_pos c0] at e1 e2; cases e1; cases e2; rfl
        · rw [if_neg c0] at e1 e2; cases e1; cases e2; rfl
      · rw [if_neg c9] at e1
        have d9 := gi_of_ne c9
        rw [if_neg (gi_nle (by omega))] at e2
        obtain ⟨r6, h6, a6, e1⟩ := ob2_some e1
        obtain ⟨rfl, rfl⟩ := pr_inj (cp_ofGoose (q := q) (k := k.toInt.toNat) a6 hq (by omega) (by rw [s3]; omega) (by rw [s3]; exact n1.2) (by omega))
        obtain ⟨r8, g8, b8, e2⟩ := ob2_some e2
        obtain ⟨rfl, rfl⟩ := pr_inj (mp_ofGoose (q := q) (k := k.toInt.toNat) b8 hq (by omega) (by omega) (by omega))
        cases e1
        cases e2
        exact sr_g s.1 (by omega) (by omega)
theorem j_inkcall {h g : HS} {p l r : Int32} {z w : Int32 × HS} (s : STD h g) (e1 : f_X8_ink h p l r = some z) (e2 : f_X9_ink g p l r = some w) : z.1 = w.1 := by
  obtain ⟨n1, n0, n4⟩ := std_n s
  have s3 : eI h 1 3 = eA g 0 0 1 := s.1.1.1
  unfold f_X8_ink f_X8_ink_19 at e1
  unfold f_X9_ink f_X9_ink_26 f_X9_ink_27 at e2
  obtain ⟨r1, h1, a1, e1⟩ := ob2_some e1
  obtain ⟨k1, k2⟩ := cp_hasGoose a1 (by rw [s3]; exact n1.2)
  have k1 : h = h1 := k1.symm
  subst k1
  rw [s3] at k2
  obtain ⟨r2, g2, b2, e2⟩ := ob2_some e2
  obtain ⟨l1, l2⟩ := mp_isGoose b2 n1
  have l1 : g = g2 := l1.symm
  subst l1
  rcases l2 with ⟨l2, l3⟩ | ⟨l2, l3, l4⟩
  · have l2 : r2 = 0 := l2
    rw [if_pos l2] at e2
    rcases k2 with ⟨k2, -⟩ | ⟨-, k3, k4⟩
    · have k2 : r1 = 0 := k2
      rw [if_pos k2] at e1
      cases e1
      cases e2
      rfl
    · exact absurd ⟨k3, k4⟩ l3
  · have l2 : r2 = 1 := l2
    rw [if_neg (by rw [l2]; decide)] at e2
    rcases k2 with ⟨-, k3⟩ | ⟨k2, -⟩
    · exact absurd ⟨l3, l4⟩ k3
    have k2 : r1 = 1 := k2
    rw [if_neg (by rw [k2]; decide)] at e1
    obtain ⟨r3, a3, e1⟩ := ob1_some e1
    obtain ⟨r4, b4, e2⟩ := ob1_some e2
    rcases cp_isQuill a3 with ⟨u1, u2⟩ | ⟨u1, u2⟩ <;> rcases mp_isQuill b4 with ⟨v1, v2⟩ | ⟨v1, v2⟩
    · rw [if_pos u1] at e1
      rw [if_pos v1] at e2
      cases e1
      cases e2
      rfl
    · exact absurd v2 u2
    · exact absurd u2 v2
    · rw [if_neg (by rw [u1]; decide)] at e1
      rw [if_neg (by rw [v1]; decide)] at e2
      obtain ⟨r5, h5, a5, e1⟩ := ob2_some e1
      obtain ⟨r6, g6, b6, e2⟩ := ob2_some e2
      cases e1
      cases e2
      exact (j_ink (q := p.toInt.toNat) s (by omega) (by omega) u2 a5 b6).1
theorem j_holds {h g : HS} {z w : Int32 × HS} (s : STD h g) (e1 : f_X8_holds h = some z) (e2 : f_X9_holds g = some w) : z.1 = w.1 := by
  have y0 : (0 : Int32).toInt = 0 := rfl
  have y1 : (1 : Int32).toInt = 1 := rfl
  have y999 : (999 : Int32).toInt = 999 := rfl
  obtain ⟨n1, n0, n4⟩ := std_n s
  have s5 : eI h 1 5 = eA g 0 0 120 := s.1.1.2.2.1
  have s6 : eI h 1 6 = eA g 0 0 2 := s.1.1.2.2.2.1
  have m2 := s.2.1.1.2.2.2.2.2
  unfold f_X8_holds f_X4_dailyNeed at e1
  obtain ⟨r1, h1, a1, e1⟩ := ob2_some e1
  obtain ⟨r0, h0, a0, a1⟩ := ob2_some a1
  obtain ⟨rfl, rfl⟩ := Prod.mk.inj (Option.some.inj a1)
  unfold f_X9_holds f_X9_holds_45 at e2
  obtain ⟨r2, g2, b2, e2⟩ := ob2_some e2
  unfold f_X4_countFate at a0
  unfold f_X9_geeseOf at b2
  obtain ⟨k1, k2, k3, k4⟩ := j_count s.1 n1 _ _ _ _ _ _ a0 b2 (by decide) (by decide) (by decide)
  have k1 : r0 = r2 := k1
  have k2 : h = h0 := k2.symm
  have k3 : g = g2 := k3.symm
  have k4 : 0 ≤ r0.toInt ∧ (r0.toInt ≤ 10 ∨ r0.toInt ≤ (0 : Int32).toInt) := k4
  subst k2
  subst k3
  subst k1
  rw [s5, s6] at e1
  have a := fb_addI (x := eA g 0 0 2) (y := r0) (by omega) (by omega)
  by_cases c : eA g 0 0 2 + r0 = 0
  · rw [if_pos c] at e2
    have d := gi_of_eq c
    rw [if_neg (gi_nle (by omega))] at e1
    cases e1
    cases e2
    rfl
  · rw [if_neg c] at e2
    have d := gi_of_ne c
    rw [if_pos (gi_le (by omega))] at e1
    obtain ⟨-, e1⟩ := ob_if e1
    obtain ⟨-, e2⟩ := ob_if e2
    cases e1
    show (if eA g 0 0 120 / (eA g 0 0 2 + r0) < 999 then eA g 0 0 120 / (eA g 0 0 2 + r0) else 999) = w.1
    generalize eA g 0 0 120 / (eA g 0 0 2 + r0) = D at *
    by_cases c9 : D ≤ 999
    · rw [if_pos c9] at e2
      cases e2
      by_cases c8 : D < 999
      · rw [if_pos c8]
      · rw [if_neg c8]
        have q1 := gi_of_nlt c8
        have q2 := gi_of_le c9
        show (999 : Int32) = D
        exact gi_eq (by omega)
    · rw [if_neg c9] at e2
      cases e2
      rw [if_neg (fun y => by have := gi_of_lt y; have := gi_of_nle c9; omega)]
theorem j_about {h g : HS} {p : Int32} {z w : Int32 × HS} (s : STD h g) (tp : eI h 3 1 = eI g 0 3) (e1 : f_X8_about h p = some z) (e2 : f_X9_about g p = some w) : z.1 = w.1 := by
  have y0 : (0 : Int32).toInt = 0 := rfl
  have y1 : (1 : Int32).toInt = 1 := rfl
  have y2 : (2 : Int32).toInt = 2 := rfl
  have y10 : (10 : Int32).toInt = 10 := rfl
  have y20 : (20 : Int32).toInt = 20 := rfl
  have y25 : (25 : Int32).toInt = 25 := rfl
  have y26 : (26 : Int32).toInt = 26 := rfl
  have y100 : (100 : Int32).toInt = 100 := rfl
  obtain ⟨n1, n0, n4⟩ := std_n s
  obtain ⟨s1, s2, s3, s4, s5, s6, s7, s8, s9⟩ := s.1.1
  unfold f_X8_about at e1
  unfold f_X9_about f_X9_about_203 at e2
  by_cases c0 : p = 0
  · rw [if_pos c0] at e1 e2; cases e1; cases e2; exact s2
  rw [if_neg c0] at e1 e2
  by_cases c1 : p = 1
  · rw [if_pos c1] at e1 e2; cases e1; cases e2; exact s1
  rw [if_neg c1] at e1 e2
  by_cases c2 : p = 2
  · rw [if_pos c2] at e1 e2; cases e1; cases e2; exact s3
  rw [if_neg c2] at e1 e2
  by_cases c3 : p = 3
  · rw [if_pos c3] at e1 e2; cases e1; cases e2; exact s4
  rw [if_neg c3] at e1 e2
  by_cases c4 : p = 4
  · rw [if_pos c4] at e1 e2; cases e1; cases e2; exact s5
  rw [if_neg c4] at e1 e2
  by_cases c5 : p = 5
  · rw [if_pos c5] at e1 e2; cases e1; cases e2; exact s6
  rw [if_neg c5] at e1 e2
  by_cases c6 : p = 6
  · rw [if_pos c6] at e1 e2; cases e1; cases e2; exact s7
  rw [if_neg c6] at e1 e2
  by_cases c7 : p = 7
  · rw [if_pos c7] at e1 e2; cases e1; cases e2; exact s8
  rw [if_neg c7] at e1 e2
  by_cases c8 : p = 8
  · rw [if_pos c8] at e1 e2; cases e1; cases e2; exact s9
  rw [if_neg c8] at e1 e2
  by_cases c9 : p = 9
  · rw [if_pos c9] at e1 e2; cases e1; cases e2; exact tp
  rw [if_neg c9] at e1 e2
  obtain ⟨r11, h11, a11, e1⟩ := ob2_some e1
  cases e1
  show r11 = w.1
  unfold f_X8_aboutMany at a11
  obtain ⟨r12, g12, b12, e2⟩ := ob2_some e2
  obtain ⟨l1, l2⟩ := mp_isMarket b12 n0
  have l1 : g = g12 := l1.symm
  subst l1
  have pr := fb_rng p
  -- p - 10 over the whole numbers, where it may be a market
  have p10 : (p - 10).toInt = p.toInt - 10 ∨ p.toInt < -2147483638 := by
    by_cases q : p.toInt < -2147483638
    · exact Or.inr q
    · left
      have := fb_subI (x := p) (y := 10) (by omega) (by omega)
      omega
  have low : p.toInt < -2147483638 → 2147483638 ≤ (p - 10).toInt := by
    intro q
    rw [Int32.toInt_sub, y10]
    rw [Int.bmod_def]
    omega
  rcases l2 with ⟨l2, l3⟩ | ⟨l2, l3, l4⟩
  · have l2 : r12 = 0 := l2
    rw [if_pos l2] at e2
    obtain ⟨r13, b13, e2⟩ := ob1_some e2
    rcases mx_in b13 with ⟨m, u⟩ | ⟨m, u⟩
    · rw [if_pos m] at e2
      cases e2
      show r11 = -2
      have a24 : f_X8_aboutMany_24 h p = some (r11, h11) := by
        by_cases q : p < 20
        · rw [if_pos q] at a11; exact a11
        · rw [if_neg q] at a11
          have dq := gi_of_nlt q
          rw [if_pos (gi_le (by omega))] at a11
          exact a11
      unfold f_X8_aboutMany_24 f_X8_aboutMany_44 at a24
      by_cases q : p < 10
      · rw [if_pos q] at a24; cases a24; rfl
      · rw [if_neg q, s2] at a24
        have dq := gi_of_nlt q
        have am := fb_addI (x := 10) (y := eA g 0 0 0) (by omega) (by omega)
        rw [if_neg (gi_nlt (by omega))] at a24
        cases a24
        rfl
    · rw [if_neg (by rw [m]; decide)] at e2
      rw [if_neg (gi_nlt (by omega)), if_neg (gi_nle (by omega))] at a11
      obtain ⟨r14, h14, a14, a11⟩ := ob2_some a11
      obtain ⟨r15, g15, b15, e2⟩ := ob2_some e2
      unfold f_X4_countFate at a14
      unfold f_X9_geeseOf at b15
      obtain ⟨k1, -⟩ := j_count s.1 n1 _ _ _ _ _ _ a14 b15 (by decide) (by decide) (by decide)
      cases a11
      cases e2
      exact k1
  · have l2 : r12 = 1 := l2
    rw [if_neg (by rw [l2]; decide)] at e2
    have pe : (p - 10).toInt = p.toInt - 10 := by
      rcases p10 with q | q
      · exact q
      · have := low q; omega
    obtain ⟨m, hm⟩ : ∃ m : Nat, (p - 10).toInt = (m : Int) := ⟨(p - 10).toInt.toNat, by omega⟩
    rw [if_pos (gi_lt (by omega))] at a11
    unfold f_X8_aboutMany_24 at a11
    have am := fb_addI (x := 10) (y := eI h 1 4) (by rw [s2]; omega) (by rw [s2]; omega)
    rw [if_neg (gi_nlt (by omega)), if_pos (gi_lt (by rw [am, s2]; omega))] at a11
    have q4 : (m : Int) < (eI h 1 4).toInt := by rw [s2]; omega
    have q44 : (eI h 1 4).toInt ≤ 4 := by rw [s2]; exact n0.2
    obtain ⟨r6, h6, a6, a11⟩ := ob2_some a11
    obtain ⟨rfl, rfl⟩ := pr_inj (cp_ofMarket (q := m) (k := 0) a6 hm rfl q4 q44 (by decide))
    obtain ⟨r7, h7, a7, a11⟩ := ob2_some a11
    obtain ⟨rfl, rfl⟩ := pr_inj (cp_ofMarket (q := m) (k := 1) a7 hm rfl q4 q44 (by decide))
    obtain ⟨r8, h8, a8, a11⟩ := ob2_some a11
    obtain ⟨rfl, rfl⟩ := pr_inj (cp_ofMarket (q := m) (k := 2) a8 hm rfl q4 q44 (by decide))
    obtain ⟨rfl, rfl⟩ := Prod.mk.inj (Option.some.inj a11)
    have m3 : (3 * (p - 10)).toInt = 3 * (p - 10).toInt := fb_mulJ rfl (by omega) (by omega)
    have m4 := fb_addI (x := 10) (y := 3 * (p - 10)) (by omega) (by omega)
    have m5 := fb_addI (x := 10 + 3 * (p - 10)) (y := 1) (by omega) (by omega)
    have m6 := fb_addI (x := 10 + 3 * (p - 10)) (y := 2) (by omega) (by omega)
    have i0 : (10 + 3 * (p - 10)).toNatClampNeg = 10 + (3 * m + 0) := by show (10 + 3 * (p - 10)).toInt.toNat = _; omega
    have i1 : (10 + 3 * (p - 10) + 1).toNatClampNeg = 10 + (3 * m + 1) := by show (10 + 3 * (p - 10) + 1).toInt.toNat = _; omega
    have i2 : (10 + 3 * (p - 10) + 2).toNatClampNeg = 10 + (3 * m + 2) := by show (10 + 3 * (p - 10) + 2).toInt.toNat = _; omega
    obtain ⟨-, e2⟩ := ob_if e2
    obtain ⟨-, e2⟩ := ob_if e2
    obtain ⟨-, e2⟩ := ob_if e2
    rw [i0, i1, i2] at e2
    cases e2
    show eA h 1 1 (3 * m + 0) * 100 + eA h 1 1 (3 * m + 1) * 10 + eA h 1 1 (3 * m + 2) = 100 * eA g 0 0 (10 + (3 * m + 0)) + 10 * eA g 0 0 (10 + (3 * m + 1)) + eA g 0 0 (10 + (3 * m + 2))
    rw [sr_m s.1 (by omega) (show 0 < 3 by decide), sr_m s.1 (by omega) (show 1 < 3 by decide), sr_m s.1 (by omega) (show 2 < 3 by decide), Int32.mul_comm 100, Int32.mul_comm 10]
