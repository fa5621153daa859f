/-! a market -/
theorem cp_isDigit {p r : Int32} (e : f_X8_isDigit p = some r) : (r = 0 ∧ ¬ (0 ≤ p.toInt ∧ p.toInt ≤ 9)) ∨ (r = 1 ∧ (0 ≤ p.toInt ∧ p.toInt ≤ 9)) := by
  have y0 : (0 : Int32).toInt = 0 := rfl
  have y9 : (9 : Int32).toInt = 9 := rfl
  unfold f_X8_isDigit f_X8_isDigit_14 f_X8_isDigit_15 at e
  rw [if_pos (Or.inl rfl), if_pos (Or.inr rfl)] at e
  by_cases c : p < 0
  · rw [if_pos c] at e
    have d := gi_of_lt c
    cases e
    exact Or.inl ⟨rfl, by omega⟩
  · rw [if_neg c] at e
    have d := gi_of_nlt c
    by_cases c2 : (9 : Int32) < p
    · rw [if_pos c2] at e
      have d2 := gi_of_lt c2
      cases e
      exact Or.inl ⟨rfl, by omega⟩
    · rw [if_neg c2] at e
      have d2 := gi_of_nlt c2
      cases e
      exact Or.inr ⟨rfl, by omega, by omega⟩
theorem j_market_call {h g : HS} {p1 p2 p3 : Int32} {z w : Int32 × HS} (sr : SRel h 1 (eA g 0 0)) (rg : RG (eA g 0 0)) (e1 : f_X8_market h p1 p2 p3 = some z) (e2 : f_X9_market g p1 p2 p3 = some w) : DONE h g z w := by
  have y0 : (0 : Int32).toInt = 0 := rfl
  have y1 : (1 : Int32).toInt = 1 := rfl
  have y2 : (2 : Int32).toInt = 2 := rfl
  have y4 : (4 : Int32).toInt = 4 := rfl
  have y9 : (9 : Int32).toInt = 9 := rfl
  have y10 : (10 : Int32).toInt = 10 := rfl
  have sc := sr.1
  have s4 : eI h 1 4 = eA g 0 0 0 := sc.2.1
  have rn := rg.1
  unfold RN at rn
  unfold f_X8_market f_X8_market_25 at e1
  unfold f_X9_market f_X9_market_40 at e2
  have no : z = (-1, h) → w = (-1, g) → DONE h g z w := fun a b => by rw [a, b]; exact DONE_no sr rg
  obtain ⟨r1, b1, e2⟩ := ob1_some e2
  rcases mx_in b1 with ⟨k, q⟩ | ⟨k, q⟩
  · rw [if_pos k] at e2
    refine no ?_ (Option.some.inj e2).symm
    by_cases c1 : p1 < 1
    · rw [if_pos c1] at e1; exact (Option.some.inj e1).symm
    · rw [if_neg c1] at e1
      have d1 := gi_of_nlt c1
      rw [if_pos (gi_lt (by omega))] at e1
      exact (Option.some.inj e1).symm
  · rw [if_neg (by rw [k]; decide)] at e2
    rw [if_neg (gi_nlt (by omega)), if_neg (gi_nlt (by omega))] at e1
    obtain ⟨r3, b3, e2⟩ := ob1_some e2
    obtain ⟨d3, a3, e1⟩ := ob1_some e1
    rcases mx_in b3 with ⟨k3, q3⟩ | ⟨k3, q3⟩
    · rw [if_pos k3] at e2
      refine no ?_ (Option.some.inj e2).symm
      rcases cp_isDigit a3 with ⟨k4, q4⟩ | ⟨k4, q4⟩
      · rw [if_pos k4] at e1; exact (Option.some.inj e1).symm
      · exact absurd ⟨by omega, by omega⟩ q3
    · rw [if_neg (by rw [k3]; decide)] at e2
      rcases cp_isDigit a3 with ⟨k4, q4⟩ | ⟨k4, q4⟩
      · exact absurd ⟨by omega, by omega⟩ q4
      rw [if_neg (by rw [k4]; decide)] at e1
      obtain ⟨r5, b5, e2⟩ := ob1_some e2
      obtain ⟨d5, a5, e1⟩ := ob1_some e1
      rcases mx_in b5 with ⟨k5, q5⟩ | ⟨k5, q5⟩
      · rw [if_pos k5] at e2
        refine no ?_ (Option.some.inj e2).symm
        rcases cp_isDigit a5 with ⟨k6, q6⟩ | ⟨k6, q6⟩
        · rw [if_pos k6] at e1; exact (Option.some.inj e1).symm
        · exact absurd ⟨by omega, by omega⟩ q5
      · rw [if_neg (by rw [k5]; decide)] at e2
        rcases cp_isDigit a5 with ⟨k6, q6⟩ | ⟨k6, q6⟩
        · exact absurd ⟨by omega, by omega⟩ q6
        rw [if_neg (by rw [k6]; decide)] at e1
        obtain ⟨r7, h7, a7, e1⟩ := ob2_some e1
        unfold f_X4_addMarket at a7
        rw [s4] at a7
        by_cases c4 : eA g 0 0 0 = 4
        · rw [if_pos c4] at e2
          have d4 := gi_of_eq c4
          rw [if_neg (gi_nlt (by omega))] at a7
          cases a7
          exact no (Option.some.inj e1).symm (Option.some.inj e2).symm
        · rw [if_neg c4] at e2
          have d4 := gi_of_ne c4
          rw [if_pos (gi_lt (by omega))] at a7
          obtain ⟨c, hc⟩ : ∃ c : Nat, (eA g 0 0 0).toInt = (c : Int) := ⟨(eA g 0 0 0).toInt.toNat, by omega⟩
          obtain ⟨-, j0⟩ := ixm (p := eA g 0 0 0) (f := 0) (q := c) (k := 0) hc rfl (by omega) (by decide)
          obtain ⟨-, j1⟩ := ixm (p := eA g 0 0 0) (f := 1) (q := c) (k := 1) hc rfl (by omega) (by decide)
          obtain ⟨-, j2⟩ := ixm (p := eA g 0 0 0) (f := 2) (q := c) (k := 2) hc rfl (by omega) (by decide)
          obtain ⟨-, a7⟩ := ob_if a7
          obtain ⟨-, a7⟩ := ob_if a7
          obtain ⟨-, a7⟩ := ob_if a7
          rw [j0, j1, j2] at a7
          have m1 : (3 * eA g 0 0 0).toInt = 3 * (eA g 0 0 0).toInt := fb_mulJ rfl (by omega) (by omega)
          have m2 := fb_addI (x := 10) (y := 3 * eA g 0 0 0) (by omega) (by omega)
          have m3 := fb_addI (x := 10 + 3 * eA g 0 0 0) (y := 1) (by omega) (by omega)
          have m4 := fb_addI (x := 10 + 3 * eA g 0 0 0) (y := 2) (by omega) (by omega)
          have m5 := fb_addI (x := eA g 0 0 0) (y := 1) (by omega) (by omega)
          have i0 : (10 + 3 * eA g 0 0 0).toNatClampNeg = 10 + (3 * c + 0) := by show (10 + 3 * eA g 0 0 0).toInt.toNat = _; omega
          have i1 : (10 + 3 * eA g 0 0 0 + 1).toNatClampNeg = 10 + (3 * c + 1) := by show (10 + 3 * eA g 0 0 0 + 1).toInt.toNat = _; omega
          have i2 : (10 + 3 * eA g 0 0 0 + 2).toNatClampNeg = 10 + (3 * c + 2) := by show (10 + 3 * eA g 0 0 0 + 2).toInt.toNat = _; omega
          obtain ⟨-, e2⟩ := ob_if e2
          obtain ⟨-, e2⟩ := ob_if e2
          obtain ⟨-, e2⟩ := ob_if e2
          rw [i0, i1, i2] at e2
          cases a7
          cases e1
          cases e2
          obtain ⟨X, hX⟩ : ∃ X : Nat → Int32, X = upd (upd (upd (eA g 0 0) (10 + (3 * c + 0)) p1) (10 + (3 * c + 1)) p2) (10 + (3 * c + 2)) p3 := ⟨_, rfl⟩
          have X0 : X 0 = eA g 0 0 0 := by rw [hX, ud_ne (by omega), ud_ne (by omega), ud_ne (by omega)]
          have B0 : upd X 0 (X 0 + 1) 0 = eA g 0 0 0 + 1 := by rw [ud_eq, X0]
          have u : ∀ k : Nat, ¬ k = 0 → (k < 10 + 3 * c ∨ 10 + 3 * c + 3 ≤ k) → upd X 0 (X 0 + 1) k = eA g 0 0 k := fun k k0 q => by rw [ud_ne k0, hX, ud_ne (by omega), ud_ne (by omega), ud_ne (by omega)]
          have w0 : upd X 0 (X 0 + 1) (10 + (3 * c + 0)) = p1 := by rw [ud_ne (by omega), hX, ud_ne (by omega), ud_ne (by omega), ud_eq]
          have w1 : upd X 0 (X 0 + 1) (10 + (3 * c + 1)) = p2 := by rw [ud_ne (by omega), hX, ud_ne (by omega), ud_eq]
          have w2 : upd X 0 (X 0 + 1) (10 + (3 * c + 2)) = p3 := by rw [ud_ne (by omega), hX, ud_eq]
          have R : SRel (sI (sA (sA (sA h 1 1 (upd (eA h 1 1) (3 * c + 0) p1)) 1 1 (upd (upd (eA h 1 1) (3 * c + 0) p1) (3 * c + 1) p2)) 1 1 (upd (upd (upd (eA h 1 1) (3 * c + 0) p1) (3 * c + 1) p2) (3 * c + 2) p3)) 1 4 (eA g 0 0 0 + 1)) 1 (upd X 0 (X 0 + 1)) ∧ RG (upd X 0 (X 0 + 1)) := by
            obtain ⟨⟨s1, s2, s3, s4', s5, s6, s7, s8, s9⟩, ge, mk, f0, st⟩ := id sr
            obtain ⟨r1, r2, r3, r4⟩ := id rg
            generalize upd X 0 (X 0 + 1) = B at *
            refine ⟨⟨⟨?_, ?_, ?_, ?_, ?_, ?_, ?_, ?_, ?_⟩, ?_, ?_, f0, ?_⟩, ?_, ?_, ?_, ?_⟩
            · exact s1.trans (u 1 (by decide) (by omega)).symm
            · exact B0.symm
            · exact s3.trans (u 120 (by decide) (by omega)).symm
            · exact s4'.trans (u 2 (by decide) (by omega)).symm
            · exact s5.trans (u 121 (by decide) (by omega)).symm
            · exact s6.trans (u 122 (by decide) (by omega)).symm
            · exact s7.trans (u 3 (by decide) (by omega)).symm
            · exact s8.trans (u 4 (by decide) (by omega)).symm
            · exact s9.trans (u 5 (by decide) (by omega)).symm
            · intro i hi
              rw [u 1 (by decide) (by omega)] at hi
              rw [u _ (by omega) (by omega)]
              exact ge i hi
            · intro i hi
              rw [B0] at hi
              show upd (upd (upd (eA h 1 1) (3 * c + 0) p1) (3 * c + 1) p2) (3 * c + 2) p3 i = _
              by_cases q2 : i = 3 * c + 2
              · subst q2; rw [ud_eq, w2]
              · rw [ud_ne q2]
                by_cases q1 : i = 3 * c + 1
                · subst q1; rw [ud_eq, w1]
                · rw [ud_ne q1]
                  by_cases q0 : i = 3 * c + 0
                  · subst q0; rw [ud_eq, w0]
                  · rw [ud_ne q0, u _ (by omega) (by omega)]
                    exact mk i (by omega)
            · show STEPS (eA h 1 2) B (eI h 1 11).toInt.toNat (B 5).toInt.toNat
              rw [u 5 (by decide) (by omega)]
              exact STEPS_congr st (u 1 (by decide) (by omega)) (fun k hk _ => u k (by omega) (by omega)) r1.1.2 (Or.inr (fun k hk => u _ (by omega) (by omega)))
            · unfold RN at *
              rw [B0, u 1 (by decide) (by omega), u 5 (by decide) (by omega), u 3 (by decide) (by omega), u 4 (by decide) (by omega), u 2 (by decide) (by omega)]
              omega
            · intro m hm
              rw [B0] at hm
              by_cases cm : m = c
              · subst cm
                have w0 : B (10 + 3 * m) = p1 := w0
                rw [w0, w1, w2]
                omega
              · rw [u _ (by omega) (by omega), u _ (by omega) (by omega), u _ (by omega) (by omega)]
                exact r2 m (by omega)
            · refine ⟨?_, ?_, fun q hq => ?_⟩
              · show 0 ≤ (B 120).toInt
                rw [u 120 (by decide) (by omega)]; exact r3.1
              · show 0 ≤ (B 121).toInt ∧ (B 121).toInt ≤ 999
                rw [u 121 (by decide) (by omega)]; exact r3.2.1
              · rw [u 1 (by decide) (by omega)] at hq
                exact GR_eq (r3.2.2 q hq) (fun k hk => u _ (by omega) (by omega)) (by rw [B0]; omega)
            · intro j hj
              rw [u 5 (by decide) (by omega)] at hj
              exact RW_eq (r4 j hj) (fun k hk => u _ (by omega) (by omega)) (u 1 (by decide) (by omega)) r1.1.2 (by rw [B0]; omega)
          rw [hX] at R B0
          refine ⟨?_, R.1, R.2⟩
          show eA g 0 0 0 + 1 - 1 = upd _ 0 _ 0 - 1
          exact congrArg (fun v => v - 1) B0.symm
