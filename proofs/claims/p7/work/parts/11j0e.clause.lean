theorem clause_0 {B : Int → Int} {L : Int} {P : Nat → Int} {h h' g : HS} {N : Nat} {r : Int32 × HS} (bg : BEG B L P 9 h g) (nz : ¬ kd h = 0) (e : f_X2_readClause_0 h = some h') (et : f_X9_text_74 N g = some r) : BADC r h' g ∨ NXT_0 B L P r h h' g := by
  have z0 : (0 : Int32).toInt = 0 := rfl
  have z1 : (1 : Int32).toInt = 1 := rfl
  have z3 : (3 : Int32).toInt = 3 := rfl
  have z4 : (4 : Int32).toInt = 4 := rfl
  have z7 : (7 : Int32).toInt = 7 := rfl
  have z16 : (16 : Int32).toInt = 16 := rfl
  have z23 : (23 : Int32).toInt = 23 := rfl
  have z24 : (24 : Int32).toInt = 24 := rfl
  obtain ⟨bt, bf, bw, b21, b22, b25, b28, bpl, tx1, ⟨tx2, tx3⟩, tx4, tx5, tx6, tx7, tx8⟩ := id bg
  have tk := TT_tk bt
  have nso : ¬ (eI g 0 17).toInt = 0 := by
    rcases tk with u | u | u | u | u
    · omega
    · omega
    · omega
    · omega
    · omega
  obtain ⟨N1, g1, b, et⟩ := (mp_turn et bw).2.2.2.2 b28 nso
  unfold f_X2_readClause_0 f_X2_readClause_0_158 at e
  obtain ⟨r1, h1, e1, e⟩ := ob2_some e
  obtain ⟨q1, q2⟩ := TT_kind bt e1
  obtain rfl : h = h1 := q1.symm
  replace q2 : r1.toInt = kd h := q2
  have kb := TK_nn tk
  have hw := fb_subI (x := r1) (y := 16) (by omega) (by omega)
  have fk : Fr [(0, 5, 2)] h (sI h 5 2 (r1 - 16)) := Fr_sI (by decide) (Fr_refl _ _)
  have tK := TT_h bt fk (by decide) (by decide) (by decide) (by decide) (by decide)
  have fgk : Fr [(0, 0, 30)] g (sI g 0 30 (eI g 0 18)) := Fr_sI (by decide) (Fr_refl _ _)
  have tKK := TT_g tK fgk (by decide) (by decide) (by decide) (by decide) (by decide) (by decide)
  unfold f_X9_clause at b
  by_cases kk : 16 ≤ kd h ∧ kd h ≤ 23
  · have so : (eI g 0 17).toInt = 1 ∧ (eI g 0 18).toInt = kd h - 16 := by
      rcases tk with u | u | u | u | u
      · omega
      · omega
      · omega
      · omega
      · have := u.2; unfold SG at this; omega
    rw [if_neg (fun q => by have := gi_of_lt q; omega), if_pos (gi_le (by omega))] at e
    rw [if_pos (gi_eq (by omega)), if_pos (gi_le (by omega))] at b
    obtain ⟨r4, h4, e4, e⟩ := ob2_some e
    obtain ⟨u1, u2⟩ := cp_hasLaw_0 e4 (by omega)
    replace u1 : h4 = sI h 5 2 (r1 - 16) := u1
    subst u1
    replace u2 : (r4 = 0 ∧ (4 ≤ (r1 - 16).toInt ∨ eA h 9 3 (r1 - 16).toInt.toNat = -1)) ∨ (r4 = 1 ∧ (r1 - 16).toInt < 4 ∧ ¬ eA h 9 3 (r1 - 16).toInt.toNat = -1) := u2
    -- the reference's own look
    have after : f_X9_clause_58 (sI g 0 30 (eI g 0 18)) = some g1 → (4 ≤ (r1 - 16).toInt ∨ eA h 9 3 (r1 - 16).toInt.toNat = -1) → r4 = 0 → BADC r h' g ∨ NXT_0 B L P r h h' g := by
      intro b hno r40
      rw [if_pos r40] at e
      unfold f_X9_clause_58 at b
      by_cases c24 : (eI h 9 1).toInt < 24
      · rw [if_pos (show eI (sI h 5 2 (r1 - 16)) 9 1 < 24 from gi_lt (by show (eI h 9 1).toInt < _; omega))] at e
        rw [if_neg (show ¬ eI (sI g 0 30 (eI g 0 18)) 0 29 = 24 from fun q => by have q := gi_of_eq q; have q : (eI g 0 29).toInt = (24 : Int32).toInt := q; omega)] at b
        obtain ⟨h7, e7, e⟩ := ob1_some e
        obtain ⟨h8, e8, e⟩ := ob1_some e
        replace e7 : f_X6_setClause_0 (sI h 5 2 (r1 - 16)) (eI h 9 1) 0 r1 = some h7 := e7
        have h852 : eI h8 5 2 = r1 - 16 := by
          have w1 := w_f_X7_advance _ _ e8
          have w2 := w_f_X6_setClause_0 _ _ _ _ _ e7
          rw [w1.1 5 2 (by decide), w2.1 5 2 (by decide)]; rfl
        by_cases c4 : 4 ≤ (r1 - 16).toInt
        · rw [h852, if_pos (gi_le (by omega))] at e
          obtain ⟨h10, e10, e⟩ := ob1_some e
          exact deed_0 bg q2 (by omega) (by omega) c24 e7 e8 e10 e b et
        · rw [if_neg (by rw [h852]; exact fun q => c4 (by have := gi_of_le q; omega))] at e
          obtain ⟨h11, e11, e⟩ := ob1_some e
          refine law_0 bg q2 (by omega) (by omega) ?_ c24 e7 e8 e11 e b et
          rw [← show (r1 - 16).toInt = kd h - 16 by omega]
          rcases hno with q | q
          · exact absurd q c4
          · exact q
      · rw [if_neg (show ¬ eI (sI h 5 2 (r1 - 16)) 9 1 < 24 from fun q => by have q := gi_of_lt q; have q : (eI h 9 1).toInt < (24 : Int32).toInt := q; omega)] at e
        rw [if_pos (show eI (sI g 0 30 (eI g 0 18)) 0 29 = 24 from gi_eq (by show (eI g 0 29).toInt = _; omega))] at b
        obtain ⟨h13, e13, e⟩ := ob1_some e
        cases e
        obtain ⟨g9, b9, b⟩ := ob1_some b
        obtain ⟨rfl, rfl⟩ := TT_fail tKK bf bw e13 b9
        unfold f_X9_clause_73 at b
        rw [if_neg (show ¬ eI (sI (sI (sI g 0 30 (eI g 0 18)) 0 19 6) 0 20 (eI (sI g 0 30 (eI g 0 18)) 0 16)) 0 19 ≤ 0 from (by decide : ¬ (6 : Int32) ≤ 0))] at b
        cases b
        exact Or.inl ⟨(by decide : ¬ (6 : Int32) = 0), N1, _, et, rfl, rfl, Fr_sI (by decide) (Fr_sI (by decide) (Fr_mono (by decide) fgk)), (by decide : 0 < (6 : Int32).toInt)⟩
    by_cases c3 : (3 : Int32) < eI g 0 18
    · rw [if_pos c3] at b
      have d3 := gi_of_lt c3
      rcases u2 with ⟨r40, u2⟩ | ⟨r41, u2, u3⟩
      · exact after b u2 r40
      · omega
    · rw [if_neg c3] at b
      have d3 := gi_of_nlt c3
      obtain ⟨rt, gt, bt', b⟩ := ob2_some b
      unfold f_X9_wasTold at bt'
      obtain ⟨v1, v2⟩ := mp_told _ (sI g 0 30 (eI g 0 18)) 0 0 (rt, gt) bt' (by decide) (by show (0 : Int32).toInt ≤ (eI g 0 29).toInt; omega) (by show (eI g 0 29).toInt ≤ 24; omega) (Or.inl ⟨rfl, fun c hc => by omega⟩)
      replace v1 : gt = sI g 0 30 (eI g 0 18) := v1
      subst v1
      replace v2 : (rt = 0 ∧ ∀ c : Nat, (c : Int) < (eI g 0 29).toInt → ¬ eA g 0 31 c = eI g 0 18) ∨ (rt = 1 ∧ ∃ c : Nat, (c : Int) < (eI g 0 29).toInt ∧ eA g 0 31 c = eI g 0 18) := v2
      have look := tx8 (r1 - 16).toInt.toNat (by omega)
      rcases v2 with ⟨rt0, v2⟩ | ⟨rt1, c, v2, v3⟩
      · rw [if_pos rt0] at b
        rcases u2 with ⟨r40, u2⟩ | ⟨r41, u2, u3⟩
        · exact after b u2 r40
        · exfalso
          rcases look with ⟨w1, -⟩ | ⟨-, c, w1, w2⟩
          · exact u3 w1
          · exact v2 c (by omega) (gi_eq (by omega))
      · rw [if_neg (by rw [rt1]; decide)] at b
        have hn : ¬ eA h 9 3 (r1 - 16).toInt.toNat = -1 := by
          intro q
          rcases look with ⟨-, w1⟩ | ⟨w1, -⟩
          · exact w1 c (by omega) (by rw [v3]; omega)
          · exact w1 q
        rcases u2 with ⟨r40, u2⟩ | ⟨r41, u2, u3⟩
        · exfalso
          rcases u2 with u2 | u2
          · omega
          · exact hn u2
        · rw [if_neg (by rw [r41]; decide)] at e
          obtain ⟨h14, e14, e⟩ := ob1_some e
          cases e
          obtain ⟨g6, b6, b⟩ := ob1_some b
          obtain ⟨rfl, rfl⟩ := TT_fail tKK bf bw e14 b6
          unfold f_X9_clause_73 at b
          rw [if_neg (show ¬ eI (sI (sI (sI g 0 30 (eI g 0 18)) 0 19 4) 0 20 (eI (sI g 0 30 (eI g 0 18)) 0 16)) 0 19 ≤ 0 from (by decide : ¬ (4 : Int32) ≤ 0))] at b
          cases b
          exact Or.inl ⟨(by decide : ¬ (4 : Int32) = 0), N1, _, et, rfl, rfl, Fr_sI (by decide) (Fr_sI (by decide) (Fr_mono (by decide) fgk)), (by decide : 0 < (4 : Int32).toInt)⟩
  · have e25 : f_X2_readClause_0_25 (sI h 5 2 (r1 - 16)) = some h' := by
      by_cases c16 : r1 < 16
      · rw [if_pos c16] at e; exact e
      · rw [if_neg c16] at e
        have d16 := gi_of_nlt c16
        rw [if_neg (fun q => by have := gi_of_le q; omega)] at e
        exact e
    have b17 : f_X9_clause_17 g = some g1 := by
      by_cases s1 : eI g 0 17 = 1
      · rw [if_pos s1] at b
        have d1 := gi_of_eq s1
        rw [if_neg (fun q => by
          have := gi_of_le q
          rcases tk with u | u | u | u | u
          · omega
          · omega
          · omega
          · omega
          · omega)] at b
        exact b
      · rw [if_neg s1] at b; exact b
    unfold f_X2_readClause_0_25 f_X2_readClause_0_158 at e25
    obtain ⟨h15, e15, e25⟩ := ob1_some e25
    cases e25
    unfold f_X9_clause_17 at b17
    obtain ⟨g7, b7, b17⟩ := ob1_some b17
    cases b17
    obtain ⟨rfl, rfl⟩ := TT_fail tK bf bw e15 b7
    exact Or.inl ⟨(by decide : ¬ (1 : Int32) = 0), N1, _, et, rfl, rfl, Fr_sI (by decide) (Fr_sI (by decide) (Fr_refl _ _)), (by decide : 0 < (1 : Int32).toInt)⟩
theorem parse_0 {B : Int → Int} {L : Int} {P : Nat → Int} {h' : HS} {r : Int32 × HS} : ∀ (k : Nat) (h g : HS) (x3 : Int32) (N : Nat), f_X2_parse_0_16 k h x3 = some h' → BEG B L P 9 h g → x3.toInt = (eI h 9 1).toInt → f_X9_text_74 N g = some r → BADC r h' g ∨ (eI h' 5 0 = 0 ∧ ∃ g' : HS, f_X9_text_167 g' = some r ∧ BEG B L P 9 h' g' ∧ Fr SPC g g') := by
  have z0 : (0 : Int32).toInt = 0 := rfl
  have z1 : (1 : Int32).toInt = 1 := rfl
  have z4 : (4 : Int32).toInt = 4 := rfl
  have z24 : (24 : Int32).toInt = 24 := rfl
  intro k
  induction k with
  | zero => intro h g x3 N e; cases e
  | succ k ih =>
    intro h g x3 N e bg hx et
    obtain ⟨bt, bf, bw, b21, b22, b25, b28, bpl, tx1, ⟨tx2, tx3⟩, tx4⟩ := id bg
    rw [f_X2_parse_0_16_s] at e
    unfold f_X2_parse_0_48 at e
    rw [if_neg (fun q => by have := gi_of_lt q; omega), if_pos bf] at e
    obtain ⟨r4, h4, e4, e⟩ := ob2_some e
    obtain ⟨q1, q2⟩ := TT_kind bt e4
    obtain rfl : h = h4 := q1.symm
    replace q2 : r4.toInt = kd h := q2
    by_cases c : kd h = 0
    · rw [if_pos (gi_eq (by omega))] at e
      cases e
      refine Or.inr ⟨bf, g, ?_, bg, Fr_refl _ _⟩
      have so : (eI g 0 17).toInt = 0 := by
        have tk := TT_tk bt
        rcases tk with u | u | u | u | u
        · omega
        · omega
        · omega
        · omega
        · have := u.2; unfold SG at this; omega
      cases N with
      | zero => cases et
      | succ N =>
        rw [f_X9_text_74_s, if_pos bw, if_pos (gi_eq (by omega)), if_pos (gi_eq (by omega))] at et
        exact et
    · rw [if_neg (fun q => by have := gi_of_eq q; omega)] at e
      obtain ⟨h6, e6, e⟩ := ob1_some e
      rcases clause_0 bg c e6 et with bad | ⟨N2, g2, et2, bg2, hc2, f2⟩
      · have eh : h' = h6 := by
          cases k with
          | zero => cases e
          | succ k =>
            rw [f_X2_parse_0_16_s] at e
            unfold f_X2_parse_0_48 at e
            by_cases c5 : (24 : Int32) < x3 + 1
            · rw [if_pos c5] at e; cases e; rfl
            · rw [if_neg c5, if_neg bad.1] at e; cases e; rfl
        rw [eh]
        exact Or.inl bad
      · have a3 := fb_addI (x := x3) (y := 1) (by omega) (by omega)
        rcases ih h6 g2 (x3 + 1) N2 e bg2 (by omega) et2 with ⟨y1, N3, g3, y2, y3, y4, y5, y6⟩ | ⟨y1, g3, y2, y3, y4⟩
        · exact Or.inl ⟨y1, N3, g3, y2, y3, y4, Fr_trans f2 y5, y6⟩
        · exact Or.inr ⟨y1, g3, y2, y3, Fr_trans f2 y4⟩

