/-! hunger -/
theorem j_count {h g : HS} {f : Int32} (sr : SRel h 1 (eA g 0 0)) (n1 : 0 ≤ (eA g 0 0 1).toInt ∧ (eA g 0 0 1).toInt ≤ 10) : ∀ (n m : Nat) (x2 x3 : Int32) (z w : Int32 × HS), f_X4_countFate_4 n h f x2 x3 = some z → f_X9_geeseOf_4 m g f x2 x3 = some w → 0 ≤ x3.toInt → 0 ≤ x2.toInt → x2.toInt ≤ x3.toInt → z.1 = w.1 ∧ z.2 = h ∧ w.2 = g ∧ (0 ≤ z.1.toInt ∧ (z.1.toInt ≤ 10 ∨ z.1.toInt ≤ x3.toInt)) := by
  have y1 : (1 : Int32).toInt = 1 := rfl
  have s3 : eI h 1 3 = eA g 0 0 1 := sr.1.1
  intro n
  induction n with
  | zero => intro m x2 x3 z w e; cases e
  | succ n ih =>
    intro m x2 x3 z w e e2 h3 h2 h23
    cases m with
    | zero => cases e2
    | succ m =>
      rw [f_X4_countFate_4_s, s3] at e
      rw [f_X9_geeseOf_4_s] at e2
      unfold f_X4_countFate_25 at e
      unfold f_X9_geeseOf_30 at e2
      by_cases c : eA g 0 0 1 ≤ x3
      · rw [if_pos c] at e e2
        cases e
        cases e2
        exact ⟨rfl, rfl, rfl, h2, Or.inr h23⟩
      · rw [if_neg c] at e e2
        have d := gi_of_nle c
        obtain ⟨r2, h4, a2, e⟩ := ob2_some e
        obtain ⟨rfl, rfl⟩ := pr_inj (cp_ofGoose (q := x3.toInt.toNat) (k := 4) a2 (by omega) rfl (by rw [s3]; omega) (by rw [s3]; exact n1.2) (by decide))
        obtain ⟨r3, g3, b2, e2⟩ := ob2_some e2
        obtain ⟨rfl, rfl⟩ := pr_inj (mp_ofGoose (q := x3.toInt.toNat) (k := 4) b2 (by omega) rfl (by omega) (by decide))
        rw [sr_g sr (show ((x3.toInt.toNat : Nat) : Int) < (eA g 0 0 1).toInt by omega) (show 4 < 9 by decide)] at e
        have a3 := fb_addI (x := x3) (y := 1) (by omega) (by omega)
        have a1 := fb_addI (x := x2) (y := 1) (by omega) (by omega)
        by_cases cf : gc (eA g 0 0) 30 x3.toInt.toNat 4 = f
        · rw [if_pos cf] at e e2
          obtain ⟨k1, k2, k3, k4⟩ := ih m (x2 + 1) (x3 + 1) z w e e2 (by omega) (by omega) (by omega)
          exact ⟨k1, k2, k3, by omega⟩
        · rw [if_neg cf] at e e2
          rw [Int32.add_zero] at e2
          obtain ⟨k1, k2, k3, k4⟩ := ih m x2 (x3 + 1) z w e e2 (by omega) (by omega) (by omega)
          exact ⟨k1, k2, k3, by omega⟩
theorem PS_grain {h g : HS} {v : Int32} (s : PS h g) (v0 : 0 ≤ v.toInt) : PS (sI h 1 5 v) (sA g 0 0 (upd (eA g 0 0) 120 v)) := by
  obtain ⟨n1, n0, n4⟩ := std_n s.1
  have u : ∀ k : Nat, ¬ k = 120 → upd (eA g 0 0) 120 v k = eA g 0 0 k := fun k hk => ud_ne hk
  have sc := s.1.1.1
  have E := SR_edit (h := h) (h' := sI h 1 5 v) (B := upd (eA g 0 0) 120 v) s.1.1 s.2 n1.2 (fun k hk => u k (by omega)) (fun k hk => u k (by omega)) rfl rfl rfl rfl rfl ud_eq.symm rfl (sc.2.2.2.2.1.trans (u 121 (by omega)).symm) (sc.2.2.2.2.2.1.trans (u 122 (by omega)).symm) rfl rfl rfl (GEE_out s.1.1.2.1 n1.2 (by decide) (by decide)) n0.2
  refine PS_mk (S := [(0, 1, 5)]) (T := [(1, 0, 0)]) s ⟨E.1, E.2, ?_⟩ (u 3 (by decide)) (Fr_sI (by decide) (Fr_refl _ _)) (Fr_sA (by decide) (Fr_refl _ _)) (by decide) (by decide)
  exact RG_edit (q := 10) s.1.2.1 (fun k hk => u k (by omega)) (fun k hk => u k (by omega)) (fun p k hk hp hp2 => u _ (by omega)) (fun hq => by omega) (by show 0 ≤ (upd (eA g 0 0) 120 v 120).toInt; rw [ud_eq]; exact v0) (by show 0 ≤ (upd (eA g 0 0) 120 v 121).toInt ∧ (upd (eA g 0 0) 120 v 121).toInt ≤ 999; rw [u 121 (by omega)]; exact s.1.2.1.2.2.1.2.1)
theorem j_eatloop {h h' g g' : HS} (s : PS h g) : ∀ (n m : Nat) (x : Int32), f_X4_eatDaily_31 n (sI h 1 5 0) x = some h' → f_X9_hungers_38 m g x = some g' → 0 ≤ x.toInt → PS h' g' ∧ eA g' 0 0 121 = eA g 0 0 121 := by
  have y0 : (0 : Int32).toInt = 0 := rfl
  have y1 : (1 : Int32).toInt = 1 := rfl
  have y5 : (5 : Int32).toInt = 5 := rfl
  obtain ⟨n1, n0, n4⟩ := std_n s.1
  have sr := s.1.1
  have s3 : eI h 1 3 = eA g 0 0 1 := sr.1.1
  have s7 : eI h 1 7 = eA g 0 0 121 := sr.1.2.2.2.2.1
  have dd : 0 ≤ (eA g 0 0 121).toInt ∧ (eA g 0 0 121).toInt ≤ 999 := s.1.2.1.2.2.1.2.1
  have u100 : ∀ (v x : Int32) (gg : HS), f_X9_hungers_100 g x v 120 = some gg → (if eA g 0 0 1 ≤ x then some (sA g 0 0 (upd (eA g 0 0) 120 v)) else (ob1 (f_X9_puts (sA g 0 0 (upd (eA g 0 0) 120 v)) x 4 5) (fun h_12 => (ob1 (f_X9_puts h_12 x 7 ((eA h_12 0 0) 121)) (fun h_13 => some h_13))))) = some gg := by
    intro v x gg e
    unfold f_X9_hungers_100 f_X9_hungers_132 at e
    obtain ⟨-, e⟩ := ob_if e
    have i : (120 : Int32).toNatClampNeg = 120 := rfl
    rw [i, ud_ne (show ¬ (1 : Nat) = 120 by decide)] at e
    exact e
  intro n
  induction n with
  | zero => intro m x e; cases e
  | succ n ih =>
    intro m x e e2 hx
    cases m with
    | zero => cases e2
    | succ m =>
      rw [f_X4_eatDaily_31_s] at e
      rw [f_X9_hungers_38_s] at e2
      have e : (if eA g 0 0 1 ≤ x then some (sI h 1 5 0) else (ob2 (f_X4_isFree (sI h 1 5 0) x) (fun r_4 h_4 => (if r_4 = 0 then (f_X4_eatDaily_31 n h_4 (x + 1)) else (ob1 (f_X4_settle h_4 x 5) (fun h_6 => (ob2 (f_X4_ofGoose h_6 x 0) (fun r_7 h_7 => (some (sI h_7 1 5 r_7)))))))))) = some h' := by
        rw [← s3]; exact e
      unfold f_X9_hungers_68 f_X9_hungers_74 at e2
      by_cases c : eA g 0 0 1 ≤ x
      · rw [if_pos c] at e e2
        rw [if_pos c] at e2
        have k := u100 0 x g' e2
        rw [if_pos c] at k
        cases e
        cases k
        refine ⟨PS_grain s (by decide), ?_⟩
        show upd (eA g 0 0) 120 0 121 = eA g 0 0 121
        exact ud_ne (by decide)
      · rw [if_neg c] at e e2
        have d := gi_of_nle c
        have a3 := fb_addI (x := x) (y := 1) (by omega) (by omega)
        have xq : x.toInt = ((x.toInt.toNat : Nat) : Int) := by omega
        have qx : ((x.toInt.toNat : Nat) : Int) < (eA g 0 0 1).toInt := by omega
        obtain ⟨r4, h4, a4, e⟩ := ob2_some e
        obtain ⟨k1, k2⟩ := cp_isFree a4 (by show (eI h 1 3).toInt ≤ 10; rw [s3]; exact n1.2)
        have k1 : h4 = sI h 1 5 0 := k1
        subst k1
        have k2 : (r4 = 1 ∧ ∃ q : Nat, x.toInt = (q : Int) ∧ (q : Int) < (eI h 1 3).toInt ∧ eA h 1 0 (9 * q + 4) = 0 ∧ eA h 1 0 (9 * q + 8) = 0) ∨ (r4 = 0 ∧ ∀ q : Nat, x.toInt = (q : Int) → (q : Int) < (eI h 1 3).toInt → ¬ (eA h 1 0 (9 * q + 4) = 0 ∧ eA h 1 0 (9 * q + 8) = 0)) := k2
        rw [s3] at k2
        have c4 := sr_g sr qx (show 4 < 9 by decide)
        have c8 := sr_g sr qx (show 8 < 9 by decide)
        have c0 := sr_g sr qx (show 0 < 9 by decide)
        have gr := s.1.2.1.2.2.1.2.2 _ qx
        obtain ⟨d4, g4, b4, e2⟩ := ob2_some e2
        obtain ⟨rfl, rfl⟩ := pr_inj (mp_ofGoose (q := x.toInt.toNat) (k := 4) b4 xq rfl (by omega) (by decide))
        by_cases f0 : gc (eA g 0 0) 30 x.toInt.toNat 4 = 0
        · rw [if_pos f0] at e2
          obtain ⟨d6, g6, b6, e2⟩ := ob2_some e2
          obtain ⟨rfl, rfl⟩ := pr_inj (mp_ofGoose (q := x.toInt.toNat) (k := 8) b6 xq rfl (by omega) (by decide))
          by_cases f8 : gc (eA g 0 0) 30 x.toInt.toNat 8 = 1
          · rw [if_pos f8] at e2
            rcases k2 with ⟨-, q, q1, -, -, q4⟩ | ⟨k2, -⟩
            · rw [show q = x.toInt.toNat by omega, c8, f8] at q4
              exact absurd q4 (by decide)
            · rw [if_pos k2] at e
              exact ih m (x + 1) e e2 (by omega)
          · rw [if_neg f8] at e2
            have d8 := gi_of_ne f8
            have z8 : gc (eA g 0 0) 30 x.toInt.toNat 8 = 0 := by unfold GR at gr; exact gi_eq (by omega)
            rcases k2 with ⟨k2, -⟩ | ⟨-, k3⟩
            rotate_left
            · exact absurd ⟨c4.trans f0, c8.trans z8⟩ (k3 _ xq qx)
            rw [if_neg (by rw [k2]; decide)] at e
            rw [if_neg c] at e2
            obtain ⟨h6, a6, e⟩ := ob1_some e
            unfold f_X4_settle at a6
            obtain ⟨h7, a7, a6⟩ := ob1_some a6
            have E7 := cp_setGoose (q := x.toInt.toNat) (k := 4) a7 xq rfl (by show _ < (eI h 1 3).toInt; rw [s3]; exact qx) (by show (eI h 1 3).toInt ≤ 10; rw [s3]; exact n1.2) (by decide)
            subst E7
            obtain ⟨h8, a8, a6⟩ := ob1_some a6
            have E8 := cp_setGoose (q := x.toInt.toNat) (k := 7) a8 xq rfl (by show _ < (eI h 1 3).toInt; rw [s3]; exact qx) (by show (eI h 1 3).toInt ≤ 10; rw [s3]; exact n1.2) (by decide)
            subst E8
            cases a6
            obtain ⟨r9, h9, a9, e⟩ := ob2_some e
            obtain ⟨rfl, rfl⟩ := pr_inj (cp_ofGoose (q := x.toInt.toNat) (k := 0) a9 xq rfl (by show _ < (eI h 1 3).toInt; rw [s3]; exact qx) (by show (eI h 1 3).toInt ≤ 10; rw [s3]; exact n1.2) (by decide))
            cases e
            obtain ⟨d9, g9, b9, e2⟩ := ob2_some e2
            obtain ⟨rfl, rfl⟩ := pr_inj (mp_ofGoose (q := x.toInt.toNat) (k := 0) b9 xq rfl (by omega) (by decide))
            have k := u100 _ x g' e2
            rw [if_neg c] at k
            obtain ⟨g12, b12, k⟩ := ob1_some k
            have F12 := mp_puts (q := x.toInt.toNat) (k := 4) b12 xq rfl (by omega) (by decide)
            subst F12
            obtain ⟨g13, b13, k⟩ := ob1_some k
            have F13 := mp_puts (q := x.toInt.toNat) (k := 7) b13 xq rfl (by omega) (by decide)
            subst F13
            cases k
            generalize x.toInt.toNat = q at *
            obtain ⟨X, hX⟩ : ∃ X : Nat → Int32, X = upd (upd (eA g 0 0) 120 (gc (eA g 0 0) 30 q 0)) (30 + (9 * q + 4)) 5 := ⟨_, rfl⟩
            have X121 : X 121 = eA g 0 0 121 := by rw [hX, ud_ne (by omega), ud_ne (by omega)]
            have w0 : upd (upd (eA h 1 0) (9 * q + 4) 5) (9 * q + 7) (eI h 1 7) (9 * q + 0) = gc (eA g 0 0) 30 q 0 := by rw [ud_ne (by omega), ud_ne (by omega)]; exact c0
            have U : ∀ k : Nat, (∀ c : Nat, c < 9 → ¬ k = 30 + (9 * q + c)) → ¬ k = 120 → upd X (30 + (9 * q + 7)) (X 121) k = eA g 0 0 k := fun k hc h120 => by rw [ud_ne (hc 7 (by decide)), hX, ud_ne (hc 4 (by decide)), ud_ne h120]
            have R := FIN (q := q) (h' := sI (sA (sA (sI h 1 5 0) 1 0 (upd (eA h 1 0) (9 * q + 4) 5)) 1 0 (upd (upd (eA h 1 0) (9 * q + 4) 5) (9 * q + 7) (eI h 1 7))) 1 5 (upd (upd (eA h 1 0) (9 * q + 4) 5) (9 * q + 7) (eI h 1 7) (9 * q + 0))) (B := upd X (30 + (9 * q + 7)) (X 121)) s.1.1 s.1.2.1 s.2 qx U (Fr_sI (by decide) (Fr_sA (by decide) (Fr_sA (by decide) (Fr_sI (by decide) (Fr_refl _ _))))) (by
              rw [X121, ← s7, hX]
              exact GEE_upd (GEE_upd (GEE_out sr.2.1 n1.2 (by decide) (by decide)) (by omega)) (by omega)) (by
              show upd (upd (eA h 1 0) (9 * q + 4) 5) (9 * q + 7) (eI h 1 7) (9 * q + 0) = upd X (30 + (9 * q + 7)) (X 121) 120
              rw [w0, ud_ne (show ¬ (120 : Nat) = 30 + (9 * q + 7) by omega), hX, ud_ne (show ¬ (120 : Nat) = 30 + (9 * q + 4) by omega), ud_eq]) (by
              rw [ud_ne (by omega), hX, ud_ne (by omega), ud_eq]
              unfold GR at gr
              omega) (fun gr5 => by
              unfold GR at gr5 ⊢
              rw [X121, hX]
              simp (disch := omega) only [gc_upd_ne, gc_upd_eq]
              omega)
            have U3 := U 3 (fun c hc => by omega) (by decide)
            have U121 := U 121 (fun c hc => by omega) (by decide)
            rw [hX] at R U3 U121
            exact ⟨PS_mk (S := [(1, 1, 0), (0, 1, 5)]) (T := [(1, 0, 0)]) s R U3 (Fr_sI (by decide) (Fr_sA (by decide) (Fr_sA (by decide) (Fr_sI (by decide) (Fr_refl _ _))))) (Fr_sA (by decide) (Fr_sA (by decide) (Fr_sA (by decide) (Fr_refl _ _)))) (by decide) (by decide), U121⟩
        · rw [if_neg f0] at e2
          rcases k2 with ⟨-, q, q1, -, q3, -⟩ | ⟨k2, -⟩
          · rw [show q = x.toInt.toNat by omega, c4] at q3
            exact absurd q3 f0
          · rw [if_pos k2] at e
            exact ih m (x + 1) e e2 (by omega)
theorem j_eat {h h' g g' : HS} (s : PS h g) (e1 : f_X4_eatDaily h = some h') (e2 : f_X9_hungers g = some g') : PS h' g' ∧ eA g' 0 0 121 = eA g 0 0 121 := by
  obtain ⟨n1, n0, n4⟩ := std_n s.1
  have sr := s.1.1
  have s5 : eI h 1 5 = eA g 0 0 120 := sr.1.2.2.1
  have s6 : eI h 1 6 = eA g 0 0 2 := sr.1.2.2.2.1
  have m2 := s.1.2.1.1.2.2.2.2.2
  have g0 : 0 ≤ (eA g 0 0 120).toInt := s.1.2.1.2.2.1.1
  unfold f_X4_eatDaily f_X4_dailyNeed at e1
  obtain ⟨r1, h1, a1, e1⟩ := ob2_some e1
  obtain ⟨r0, h0, a0, a1⟩ := ob2_some a1
  obtain ⟨rfl, rfl⟩ := Prod.mk.inj (Option.some.inj a1)
  unfold f_X9_hungers at e2
  obtain ⟨r2, g2, b2, e2⟩ := ob2_some e2
  unfold f_X4_countFate at a0
  unfold f_X9_geeseOf at b2
  obtain ⟨k1, k2, k3, k4⟩ := j_count sr n1 _ _ _ _ _ _ a0 b2 (by decide) (by decide) (by decide)
  have k1 : r0 = r2 := k1
  have k2 : h = h0 := k2.symm
  have k3 : g = g2 := k3.symm
  have k4 : 0 ≤ r0.toInt ∧ (r0.toInt ≤ 10 ∨ r0.toInt ≤ (0 : Int32).toInt) := k4
  have y0 : (0 : Int32).toInt = 0 := rfl
  subst k2
  subst k3
  subst k1
  rw [s5, s6] at e1
  have a := fb_addI (x := eA g 0 0 2) (y := r0) (by omega) (by omega)
  by_cases c : eA g 0 0 120 < eA g 0 0 2 + r0
  · rw [if_pos c] at e1 e2
    exact j_eatloop s _ _ _ e1 e2 (by decide)
  · rw [if_neg c] at e1 e2
    have d := gi_of_nlt c
    have gs := fb_subI (x := eA g 0 0 120) (y := eA g 0 0 2 + r0) (by omega) (by have := fb_rng (eA g 0 0 120); omega)
    cases e1
    cases e2
    refine ⟨PS_grain s (by omega), ?_⟩
    show upd (eA g 0 0) 120 (eA g 0 0 120 - (eA g 0 0 2 + r0)) 121 = eA g 0 0 121
    exact ud_ne (by decide)
/-! a day, and days -/
theorem j_geese {k33 : HS → Int32 → Int32 → Option (Int32 × HS)} {x1 x2 : Int32} {w : Int32 × HS} {h' : HS} : ∀ (n m : Nat) (h g : HS) (x : Int32), f_X8_passOneDay_15 n h x = some h' → f_X9_pass_51 k33 m g x1 x2 x = some w → PS h g → 0 ≤ x.toInt → ∃ g7 : HS, k33 g7 x1 (x2 + 1) = some w ∧ PS h' g7 ∧ eA g7 0 0 121 = eA g 0 0 121 := by
  have y1 : (1 : Int32).toInt = 1 := rfl
  intro n
  induction n with
  | zero => intro m h g x e; cases e
  | succ n ih =>
    intro m h g x e e2 s hx
    cases m with
    | zero => cases e2
    | succ m =>
      obtain ⟨n1, n0, n4⟩ := std_n s.1
      have s3 : eI h 1 3 = eA g 0 0 1 := s.1.1.1.1
      have s7 : eI h 1 7 = eA g 0 0 121 := s.1.1.1.2.2.2.2.1
      rw [f_X8_passOneDay_15_s, s3] at e
      rw [f_X9_pass_51_s] at e2
      unfold f_X8_passOneDay_72 at e
      unfold f_X9_pass_93 at e2
      by_cases c : eA g 0 0 1 ≤ x
      · rw [if_pos c] at e e2
        obtain ⟨h2, a2, e⟩ := ob1_some e
        cases e
        obtain ⟨g7, b7, e2⟩ := ob1_some e2
        obtain ⟨k1, k2⟩ := j_eat s a2 b7
        exact ⟨g7, e2, k1, k2⟩
      · rw [if_neg c] at e e2
        have d := gi_of_nle c
        have a3 := fb_addI (x := x) (y := 1) (by omega) (by omega)
        have xq : x.toInt = ((x.toInt.toNat : Nat) : Int) := by omega
        have qx : ((x.toInt.toNat : Nat) : Int) < (eA g 0 0 1).toInt := by omega
        obtain ⟨r3, h3, a4, e⟩ := ob2_some e
        obtain ⟨rfl, rfl⟩ := pr_inj (cp_ofGoose (q := x.toInt.toNat) (k := 4) a4 xq rfl (by rw [s3]; exact qx) (by rw [s3]; exact n1.2) (by decide))
        obtain ⟨d4, g4, b4, e2⟩ := ob2_some e2
        obtain ⟨rfl, rfl⟩ := pr_inj (mp_ofGoose (q := x.toInt.toNat) (k := 4) b4 xq rfl (by omega) (by decide))
        rw [sr_g s.1.1 qx (show 4 < 9 by decide)] at e
        by_cases c4 : gc (eA g 0 0) 30 x.toInt.toNat 4 = 1
        · rw [if_pos c4] at e e2
          obtain ⟨r5, h5, a5, e⟩ := ob2_some e
          obtain ⟨rfl, rfl⟩ := pr_inj (cp_ofGoose (q := x.toInt.toNat) (k := 6) a5 xq rfl (by rw [s3]; exact qx) (by rw [s3]; exact n1.2) (by decide))
          obtain ⟨d6, g6, b6, e2⟩ := ob2_some e2
          obtain ⟨rfl, rfl⟩ := pr_inj (mp_ofGoose (q := x.toInt.toNat) (k := 6) b6 xq rfl (by omega) (by decide))
          rw [sr_g s.1.1 qx (show 6 < 9 by decide), s7] at e
          by_cases c6 : gc (eA g 0 0) 30 x.toInt.toNat 6 = eA g 0 0 121
          · rw [if_pos c6] at e e2
            obtain ⟨r7, h7, a7, e⟩ := ob2_some e
            obtain ⟨h8, a8, e⟩ := ob1_some e
            obtain ⟨g12, b12, e2⟩ := ob1_some e2
            obtain ⟨k1, k2⟩ := j_comes s xq qx c4 a7 a8 b12
            obtain ⟨g7, v1, v2, v3⟩ := ih m h8 g12 (x + 1) e e2 k1 (by omega)
            exact ⟨g7, v1, v2, v3.trans (k2 121 (by decide) (fun c hc => by omega))⟩
          · rw [if_neg c6] at e e2
            exact ih m h g (x + 1) e e2 s (by omega)
        · rw [if_neg c4] at e e2
          exact ih m h g (x + 1) e e2 s (by omega)
theorem j_days {x1 : Int32} {z w : Int32 × HS} (x99 : x1.toInt ≤ 99) : ∀ (n m : Nat) (h g : HS) (x : Int32), f_X8_pass_37 n h x1 x = some z → f_X9_pass_33 m g x1 x = some w → PS h g → 0 ≤ x.toInt → (eA g 0 0 121).toInt + (x1.toInt - x.toInt) ≤ 999 → z.1 = w.1 ∧ PS z.2 w.2 := by
  have y1 : (1 : Int32).toInt = 1 := rfl
  intro n
  induction n with
  | zero => intro m h g x e; cases e
  | succ n ih =>
    intro m h g x e e2 s hx hd
    cases m with
    | zero => cases e2
    | succ m =>
      obtain ⟨n1, n0, n4⟩ := std_n s.1
      have s7 : eI h 1 7 = eA g 0 0 121 := s.1.1.1.2.2.2.2.1
      have dd : 0 ≤ (eA g 0 0 121).toInt ∧ (eA g 0 0 121).toInt ≤ 999 := s.1.2.1.2.2.1.2.1
      rw [f_X8_pass_37_s] at e
      rw [f_X9_pass_33_s] at e2
      by_cases c : x1 ≤ x
      · rw [if_pos c] at e e2
        cases e
        cases e2
        exact ⟨s7, s⟩
      · rw [if_neg c] at e e2
        have d := gi_of_nle c
        have a3 := fb_addI (x := x) (y := 1) (by omega) (by omega)
        have a4 := fb_addI (x := eA g 0 0 121) (y := 1) (by omega) (by omega)
        obtain ⟨h6, a6, e⟩ := ob1_some e
        unfold f_X8_passOneDay at a6
        rw [s7] at a6
        have u : ∀ k : Nat, ¬ k = 121 → upd (eA g 0 0) 121 (eA g 0 0 121 + 1) k = eA g 0 0 k := fun k hk => ud_ne hk
        have sc := s.1.1.1
        have E := SR_edit (h := h) (h' := sI h 1 7 (eA g 0 0 121 + 1)) (B := upd (eA g 0 0) 121 (eA g 0 0 121 + 1)) s.1.1 s.2 n1.2 (fun k hk => u k (by omega)) (fun k hk => u k (by omega)) rfl rfl rfl rfl rfl (sc.2.2.1.trans (u 120 (by omega)).symm) rfl ud_eq.symm (sc.2.2.2.2.2.1.trans (u 122 (by omega)).symm) rfl rfl rfl (GEE_out s.1.1.2.1 n1.2 (by decide) (by decide)) n0.2
        have s1 : PS (sI h 1 7 (eA g 0 0 121 + 1)) (sA g 0 0 (upd (eA g 0 0) 121 (eA g 0 0 121 + 1))) := by
          refine PS_mk (S := [(0, 1, 7)]) (T := [(1, 0, 0)]) s ⟨E.1, E.2, ?_⟩ (u 3 (by decide)) (Fr_sI (by decide) (Fr_refl _ _)) (Fr_sA (by decide) (Fr_refl _ _)) (by decide) (by decide)
          exact RG_edit (q := 10) s.1.2.1 (fun k hk => u k (by omega)) (fun k hk => u k (by omega)) (fun p k hk hp hp2 => u _ (by omega)) (fun hq => by omega) (by show 0 ≤ (upd (eA g 0 0) 121 (eA g 0 0 121 + 1) 120).toInt; rw [u 120 (by omega)]; exact s.1.2.1.2.2.1.1) (by show 0 ≤ (upd (eA g 0 0) 121 (eA g 0 0 121 + 1) 121).toInt ∧ (upd (eA g 0 0) 121 (eA g 0 0 121 + 1) 121).toInt ≤ 999; rw [ud_eq]; omega)
        obtain ⟨g7, v1, v2, v3⟩ := j_geese _ _ _ _ _ a6 e2 s1 (by decide)
        have v3 : eA g7 0 0 121 = upd (eA g 0 0) 121 (eA g 0 0 121 + 1) 121 := v3
        rw [ud_eq] at v3
        exact ih m h6 g7 (x + 1) e v1 v2 (by omega) (by rw [v3]; omega)
theorem j_pass {h g : HS} {p : Int32} {z w : Int32 × HS} (s : STD h g) (e1 : f_X8_pass h p = some z) (e2 : f_X9_pass g p = some w) : DONE h g z w := by
  have y0 : (0 : Int32).toInt = 0 := rfl
  have y1 : (1 : Int32).toInt = 1 := rfl
  have y99 : (99 : Int32).toInt = 99 := rfl
  have y999 : (999 : Int32).toInt = 999 := rfl
  have s7 : eI h 1 7 = eA g 0 0 121 := s.1.1.2.2.2.2.1
  have dd : 0 ≤ (eA g 0 0 121).toInt ∧ (eA g 0 0 121).toInt ≤ 999 := s.2.1.2.2.1.2.1
  unfold f_X8_pass f_X8_pass_26 at e1
  unfold f_X9_pass f_X9_pass_25 at e2
  rw [s7] at e1
  obtain ⟨r1, b1, e2⟩ := ob1_some e2
  rcases mx_in b1 with ⟨k, q⟩ | ⟨k, q⟩
  · rw [if_pos k] at e2
    cases e2
    have ez : z = (-1, h) := by
      by_cases c1 : p < 1
      · rw [if_pos c1] at e1; exact (Option.some.inj e1).symm
      · rw [if_neg c1] at e1
        have d1 := gi_of_nlt c1
        by_cases c2 : (99 : Int32) < p
        · rw [if_pos c2] at e1; exact (Option.some.inj e1).symm
        · have d2 := gi_of_nlt c2
          exact absurd ⟨by omega, by omega⟩ q
    rw [ez]
    exact DONE_no s.1 s.2.1
  · rw [if_neg (by rw [k]; decide)] at e2
    rw [if_neg (gi_nlt (by omega)), if_neg (gi_nlt (by omega))] at e1
    have a := fb_addI (x := eA g 0 0 121) (y := p) (by omega) (by omega)
    by_cases c : eA g 0 0 121 + p ≤ 999
    · rw [if_pos c] at e1 e2
      have d := gi_of_le c
      obtain ⟨h4, a4, e1⟩ := ob1_some e1
      obtain ⟨g4, b4, e2⟩ := ob1_some e2
      obtain ⟨t1, t2, t3, t4, t5, t6⟩ := j_keep s.1 s.2.1 a4 b4
      have e3 : eA g4 0 0 3 = eA g 0 0 3 := t4 3 (by decide) (by decide)
      have e121 : eA g4 0 0 121 = eA g 0 0 121 := t4 121 (by decide) (by decide)
      have s4 : PS h4 g4 := ⟨⟨t1, t2, by rw [e3]; exact TXS_fr s.2.2 t5 t6 (by decide) (by decide)⟩, t3⟩
      obtain ⟨k1, k2⟩ := j_days (by omega) _ _ _ _ _ e1 e2 s4 (by decide) (by rw [e121]; omega)
      exact ⟨k1, k2.1.1, k2.1.2.1⟩
    · rw [if_neg c] at e1 e2
      cases e1
      cases e2
      exact DONE_no s.1 s.2.1
