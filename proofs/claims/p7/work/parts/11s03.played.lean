theorem cp_clauseField_3 {h : HS} {x f : Int32} {z : Int32 × HS} {c k : Nat} (e : f_X6_clauseField_3 h x f = some z) (hx : x.toInt = (c : Int)) (hf : f.toInt = (k : Int)) (hc : c < 24) (hk : k < 4) : z = (eA h 12 0 (4 * c + k), h) := by
  have y0 : (0 : Int32).toInt = 0 := rfl
  have y4 : (4 : Int32).toInt = 4 := rfl
  have y24 : (24 : Int32).toInt = 24 := rfl
  have m : (x * 4).toInt = x.toInt * 4 := fb_mulK rfl (by omega) (by omega)
  have a := fb_addI (x := x * 4) (y := f) (by omega) (by omega)
  have i : (x * 4 + f).toNatClampNeg = 4 * c + k := by show (x * 4 + f).toInt.toNat = _; omega
  unfold f_X6_clauseField_3 at e
  rw [if_neg (gi_nlt (by omega)), if_neg (gi_nle (by omega)), if_neg (gi_nlt (by omega)), if_pos (gi_lt (by omega))] at e
  obtain ⟨-, e⟩ := ob_if e
  rw [i] at e
  exact (Option.some.inj e).symm
theorem j_played_3 {x1 : Int32} (hx1 : x1.toInt = 3) : ∀ (n m : Nat) (h g : HS) (x : Int32) (z w : Int32 × HS), f_X8_played_29d n h x = some z → f_X9_played_21 m g x1 x = some w → STD h g → 3 < (eA g 0 0 3).toInt → 0 ≤ x.toInt → DONE h g z w := by
  have y1 : (1 : Int32).toInt = 1 := rfl
  have y4 : (4 : Int32).toInt = 4 := rfl
  have y5 : (5 : Int32).toInt = 5 := rfl
  have y6 : (6 : Int32).toInt = 6 := rfl
  have y7 : (7 : Int32).toInt = 7 := rfl
  have y20 : (20 : Int32).toInt = 20 := rfl
  have y21 : (21 : Int32).toInt = 21 := rfl
  have y22 : (22 : Int32).toInt = 22 := rfl
  have y23 : (23 : Int32).toInt = 23 := rfl
  have y24 : (24 : Int32).toInt = 24 := rfl
  have i1 : x1.toNatClampNeg = 3 := by show x1.toInt.toNat = _; omega
  intro n
  induction n with
  | zero => intro m h g x z w e; cases e
  | succ n ih =>
    intro m h g x z w e e2 s ht hx
    cases m with
    | zero => cases e2
    | succ m =>
      have tx := (s.2.2.2.2.2 ht).1
      obtain ⟨t1, t2, t3, t4, -⟩ := tx
      rw [f_X8_played_29d_s] at e
      rw [f_X9_played_21_s] at e2
      unfold f_X8_played_146d at e
      unfold f_X9_played_154 at e2
      obtain ⟨-, e2⟩ := ob_if e2
      rw [i1] at e2
      have cnt : eI h 12 1 = eA g 0 6 3 := gi_eq t1
      rw [cnt] at e
      by_cases c : eA g 0 6 3 ≤ x
      · rw [if_pos c] at e e2
        cases e
        cases e2
        exact DONE_no s.1 s.2.1
      · rw [if_neg c] at e e2
        have d := gi_of_nle c
        obtain ⟨k, hk⟩ : ∃ k : Nat, x.toInt = (k : Int) := ⟨x.toInt.toNat, by omega⟩
        have k24 : k < 24 := by omega
        have a3 := fb_addI (x := x) (y := 1) (by omega) (by omega)
        have m1 : (24 * x1).toInt = 24 * x1.toInt := fb_mulJ rfl (by omega) (by omega)
        have m2 := fb_addI (x := 24 * x1) (y := x) (by omega) (by omega)
        have ix : (24 * x1 + x).toNatClampNeg = 24 * 3 + k := by show (24 * x1 + x).toInt.toNat = _; omega
        obtain ⟨w0, w7, w1, -, w2⟩ := t4 k (by omega)
        obtain ⟨r16, h16, b16, e⟩ := ob2_some e
        obtain ⟨rfl, rfl⟩ := pr_inj (cp_clauseField_3 (c := k) (k := 1) b16 hk rfl k24 (by decide))
        obtain ⟨r17, h17, b17, e⟩ := ob2_some e
        obtain ⟨rfl, rfl⟩ := pr_inj (cp_clauseField_3 (c := k) (k := 2) b17 hk rfl k24 (by decide))
        obtain ⟨r18, h18, b18, e⟩ := ob2_some e
        obtain ⟨rfl, rfl⟩ := pr_inj (cp_clauseField_3 (c := k) (k := 0) b18 hk rfl k24 (by decide))
        have w1 : (eA h 12 0 (4 * k + 0)).toInt = 16 + (eA g 0 7 (24 * 3 + k)).toInt := w1
        obtain ⟨-, e2⟩ := ob_if e2
        rw [ix] at e2
        -- how a turn ends, the deed's answers being the same
        have go : ∀ (r : Int32) (h9 g9 : HS), STD h9 g9 → 3 < (eA g9 0 0 3).toInt → (if r = -1 then some (x, h9) else f_X8_played_29d n h9 (x + 1)) = some z → (if r = -1 then some (x, g9) else f_X9_played_21 m g9 x1 (x + 1)) = some w → DONE h g z w := by
          intro r h9 g9 s9 ht9 q1 q2
          by_cases cr : r = -1
          · rw [if_pos cr] at q1 q2
            cases q1
            cases q2
            exact ⟨rfl, s9.1, s9.2.1⟩
          · rw [if_neg cr] at q1 q2
            have D := ih m h9 g9 (x + 1) z w q1 q2 s9 ht9 (by omega)
            exact ⟨D.1, D.2.1, D.2.2⟩
        have nxt : ∀ (zd wd : Int32 × HS) (S T : CL), DONE h g zd wd → Fr S h zd.2 → Fr T g wd.2 → (0, 1, 9) ∉ S → (∀ y ∈ KTC, y ∉ S) → (∀ y ∈ KTM, y ∉ T) → STD zd.2 wd.2 ∧ 3 < (eA wd.2 0 0 3).toInt := by
          intro zd wd S T D f k n1 n2 n4
          refine ⟨STD_done s D f k n1 n2 n4, ?_⟩
          have e : eA wd.2 0 0 3 = eA g 0 0 3 := by
            rw [← D.2.1.1.2.2.2.2.2.2.1, f.1 1 9 n1]
            exact s.1.1.2.2.2.2.2.2.1
          rw [e]; exact ht
        by_cases c4 : eA g 0 7 (24 * 3 + k) = 4
        · rw [if_pos c4] at e2
          have d4 := gi_of_eq c4
          rw [if_pos (gi_eq (by omega))] at e
          obtain ⟨v1, v2, v3⟩ := w2 (by omega)
          have v2 := v2 (by omega)
          have v3 := v3 (by omega)
          obtain ⟨r20, h20, b20, e⟩ := ob2_some e
          obtain ⟨rfl, rfl⟩ := pr_inj (cp_clauseField_3 (c := k) (k := 3) b20 hk rfl k24 (by decide))
          obtain ⟨-, e2⟩ := ob_if e2
          obtain ⟨-, e2⟩ := ob_if e2
          obtain ⟨-, e2⟩ := ob_if e2
          rw [v1, v2, v3] at e
          obtain ⟨r21, h21, b21, e⟩ := ob2_some e
          obtain ⟨d21, g21, q21, e2⟩ := ob2_some e2
          have D := j_fill s b21 q21
          have rr : r21 = d21 := D.1
          subst rr
          obtain ⟨s9, t9⟩ := nxt _ _ _ _ D (w_f_X8_fill _ _ _ _ _ b21) (w_f_X9_fill _ _ _ _ _ q21) (by decide) (by decide) (by decide)
          exact go _ _ _ s9 t9 e e2
        · rw [if_neg c4] at e2
          have d4 := gi_of_ne c4
          rw [if_neg (gi_ne (by omega))] at e
          by_cases c5 : eA g 0 7 (24 * 3 + k) = 5
          · rw [if_pos c5] at e2
            have d5 := gi_of_eq c5
            rw [if_pos (gi_eq (by omega))] at e
            obtain ⟨v1, v2, -⟩ := w2 (by omega)
            have v2 := v2 (by omega)
            obtain ⟨-, e2⟩ := ob_if e2
            obtain ⟨-, e2⟩ := ob_if e2
            rw [v1, v2] at e
            obtain ⟨r21, h21, b21, e⟩ := ob2_some e
            obtain ⟨d21, g21, q21, e2⟩ := ob2_some e2
            have D := j_send s.1 s.2.1 b21 q21
            have rr : r21 = d21 := D.1
            subst rr
            obtain ⟨s9, t9⟩ := nxt _ _ _ _ D (w_f_X8_send _ _ _ _ b21) (w_f_X9_send _ _ _ _ q21) (by decide) (by decide) (by decide)
            exact go _ _ _ s9 t9 e e2
          · rw [if_neg c5] at e2
            have d5 := gi_of_ne c5
            rw [if_neg (gi_ne (by omega))] at e
            by_cases c6 : eA g 0 7 (24 * 3 + k) = 6
            · rw [if_pos c6] at e2
              have d6 := gi_of_eq c6
              rw [if_pos (gi_eq (by omega))] at e
              obtain ⟨v1, -, -⟩ := w2 (by omega)
              obtain ⟨-, e2⟩ := ob_if e2
              rw [v1] at e
              obtain ⟨r21, h21, b21, e⟩ := ob2_some e
              obtain ⟨d21, g21, q21, e2⟩ := ob2_some e2
              have D := j_fatten s.1 s.2.1 b21 q21
              have rr : r21 = d21 := D.1
              subst rr
              obtain ⟨s9, t9⟩ := nxt _ _ _ _ D (w_f_X8_fatten _ _ _ b21) (w_f_X9_fatten _ _ _ q21) (by decide) (by decide) (by decide)
              exact go _ _ _ s9 t9 e e2
            · rw [if_neg c6] at e2
              have d6 := gi_of_ne c6
              rw [if_neg (gi_ne (by omega))] at e
              by_cases c7 : eA g 0 7 (24 * 3 + k) = 7
              · rw [if_pos c7] at e2
                have d7 := gi_of_eq c7
                rw [if_pos (gi_eq (by omega))] at e
                obtain ⟨v1, -, -⟩ := w2 (by omega)
                obtain ⟨-, e2⟩ := ob_if e2
                rw [v1] at e
                obtain ⟨r21, h21, b21, e⟩ := ob2_some e
                obtain ⟨d21, g21, q21, e2⟩ := ob2_some e2
                have D := j_pass s b21 q21
                have rr : r21 = d21 := D.1
                subst rr
                obtain ⟨s9, t9⟩ := nxt _ _ _ _ D (w_f_X8_pass _ _ _ b21) (w_f_X9_pass _ _ _ q21) (by decide) (by decide) (by decide)
                exact go _ _ _ s9 t9 e e2
              · rw [if_neg c7] at e2
                have d7 := gi_of_ne c7
                rw [if_neg (gi_ne (by omega))] at e
                exact go 0 _ _ s ht e e2
