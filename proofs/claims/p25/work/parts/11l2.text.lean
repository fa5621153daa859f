theorem cp_clear_2 : ∀ (n : Nat) (h h' : HS) (x1 : Int32), f_X6_clear_2_12 n h x1 = some h' → 0 ≤ x1.toInt → (∀ w : Nat, (w : Int) < x1.toInt → eA h 11 3 w = -1) → (∀ w : Nat, w < 4 → eA h' 11 3 w = -1) ∧ Fr [(1, 11, 3), (1, 11, 4)] h h' := by
  have z1 : (1 : Int32).toInt = 1 := rfl
  have z4 : (4 : Int32).toInt = 4 := rfl
  intro n
  induction n with
  | zero => intro h h' x1 e; cases e
  | succ n ih =>
    intro h h' x1 e h0 h1
    rw [f_X6_clear_2_12_s] at e
    by_cases c : (4 : Int32) ≤ x1
    · rw [if_pos c] at e
      have d := gi_of_le c
      cases e
      exact ⟨fun w hw => h1 w (by omega), Fr_refl _ _⟩
    · rw [if_neg c] at e
      have d := gi_of_nle c
      obtain ⟨-, e⟩ := ob_if e
      obtain ⟨-, e⟩ := ob_if e
      have a := fb_addI (x := x1) (y := 1) (by omega) (by omega)
      have nx : ∀ w : Nat, (w : Int) < (x1 + 1).toInt → upd (eA h 11 3) x1.toNatClampNeg (-1) w = -1 := by
        intro w hw
        unfold upd
        by_cases cw : w = x1.toNatClampNeg
        · rw [if_pos cw]
        · rw [if_neg cw]
          rw [Int32.toNatClampNeg] at cw
          exact h1 w (by omega)
      obtain ⟨k1, k2⟩ := ih _ h' (x1 + 1) e (by omega) nx
      exact ⟨k1, Fr_trans (Fr_sA (by decide) (Fr_sA (by decide) (Fr_refl _ _))) k2⟩
theorem text_2 {h g h3 h4 : HS} {r : Int32 × HS} (hL0 : 0 ≤ cL h) (hL : cL h ≤ 300) (tap : TAP h g) (gn : (eA g 0 0 3).toInt = 2) (e3 : f_X7_split h = some h3) (e4 : f_X2_parse_2 h3 = some h4) (er : f_X9_text g = some r) : TXO 11 2 h4 g r := by
  have z0 : (0 : Int32).toInt = 0 := rfl
  have z4 : (4 : Int32).toInt = 4 := rfl
  obtain ⟨P, te, at0⟩ := cx_split e3 hL0 hL
  have fs := w_f_X7_split _ _ e3
  unfold f_X2_parse_2 at e4
  obtain ⟨h1, e1, e4⟩ := ob1_some e4
  unfold f_X6_clear_2 at e1
  obtain ⟨cl1, cl2⟩ := cp_clear_2 _ _ h1 0 e1 (by decide) (fun w hw => by omega)
  have f1 : Fr [(0, 5, 0), (0, 5, 1), (0, 11, 1), (0, 11, 5), (1, 11, 3), (1, 11, 4)] h3 h1 := Fr_trans (Fr_sI (by decide) (Fr_sI (by decide) (Fr_sI (by decide) (Fr_sI (by decide) (Fr_refl _ _))))) (Fr_mono (by decide) cl2)
  have p0 : eI h1 5 0 = 0 := cl2.1 5 0 (by decide)
  have p1 : eI h1 5 1 = -1 := cl2.1 5 1 (by decide)
  have c1 : eI h1 11 1 = 0 := cl2.1 11 1 (by decide)
  have c5 : eI h1 11 5 = 0 := cl2.1 11 5 (by decide)
  unfold f_X9_text at er
  rw [if_neg (fun q => by have := gi_of_eq q; omega)] at er
  obtain ⟨g2, b2, er⟩ := ob1_some er
  have fN : Fr [(0, 0, 3), (0, 0, 14), (0, 0, 15), (0, 0, 19), (0, 0, 20), (0, 0, 21), (0, 0, 22), (0, 0, 25), (0, 0, 28), (0, 0, 29), (0, 0, 36)] g (sI (sI (sI (sI (sI (sI (sI (sI (sI (sI (sI g 0 14 (eI g 0 3)) 0 3 0) 0 15 0) 0 19 0) 0 20 (-1)) 0 21 0) 0 22 0) 0 25 0) 0 28 4) 0 29 0) 0 36 0) := Fr_sI (by decide) (Fr_sI (by decide) (Fr_sI (by decide) (Fr_sI (by decide) (Fr_sI (by decide) (Fr_sI (by decide) (Fr_sI (by decide) (Fr_sI (by decide) (Fr_sI (by decide) (Fr_sI (by decide) (Fr_sI (by decide) (Fr_refl _ _)))))))))))
  generalize hgN : (sI (sI (sI (sI (sI (sI (sI (sI (sI (sI (sI g 0 14 (eI g 0 3)) 0 3 0) 0 15 0) 0 19 0) 0 20 (-1)) 0 21 0) 0 22 0) 0 25 0) 0 28 4) 0 29 0) 0 36 0) = gN at b2 fN
  have fn := w_f_X9_next _ _ b2
  have mt : MT (cB h) (cL h) gN := by
    refine ⟨?_, fun j a b => ?_⟩
    · have : eI gN 0 14 = eI g 0 3 := by rw [← hgN]; rfl
      rw [this, ← tap.1]; rfl
    · have k := tap.2 j a b
      unfold mB at *
      rw [fN.2.1 0 2 (by decide)]
      exact k
  have te1 : TE (cB h) (cL h) h1 P := TE_fr te f1 (by decide) (by decide) (by decide) (by decide)
  have a1 : eI h1 4 4 = 0 := (f1.1 4 4 (by decide)).trans at0
  have i0 := te1.2.2.2 0 (by have := te1.2.1; omega)
  have tk0 := i0.2.1
  rw [te1.1] at tk0
  have aN : (eI gN 0 15).toInt = 0 := by rw [← hgN]; rfl
  have nx := mx_next b2 hL mt (Int.le_refl 0) aN tk0
  have tt : TT (cB h) (cL h) P h1 g2 := by
    refine ⟨hL, te1, MT_fr mt fn (by decide) (by decide), ?_, ?_, ?_, ?_, ?_⟩
    · unfold at_; rw [a1]; decide
    · unfold at_; rw [a1]; have := te1.2.1; omega
    · rw [a1]; exact nx.1
    · rw [a1]; exact gi_eq nx.2.1
    · unfold kd vl; rw [a1]; exact nx.2.2
  have G : ∀ (k : Nat) (v : Int32), eI gN 0 k = v → (0, 0, k) ∉ S_X9_next → eI g2 0 k = v := fun k v q n => (fn.1 0 k n).trans q
  have g19 : eI g2 0 19 = 0 := G 19 0 (by rw [← hgN]; rfl) (by decide)
  have g20 : eI g2 0 20 = -1 := G 20 (-1) (by rw [← hgN]; rfl) (by decide)
  have g21 : eI g2 0 21 = 0 := G 21 0 (by rw [← hgN]; rfl) (by decide)
  have g22 : eI g2 0 22 = 0 := G 22 0 (by rw [← hgN]; rfl) (by decide)
  have g25 : eI g2 0 25 = 0 := G 25 0 (by rw [← hgN]; rfl) (by decide)
  have g28 : eI g2 0 28 = 4 := G 28 4 (by rw [← hgN]; rfl) (by decide)
  have g29 : eI g2 0 29 = 0 := G 29 0 (by rw [← hgN]; rfl) (by decide)
  have g36 : eI g2 0 36 = 0 := G 36 0 (by rw [← hgN]; rfl) (by decide)
  have g3 : eI g2 0 3 = 0 := G 3 0 (by rw [← hgN]; rfl) (by decide)
  have fg2 : Fr SPX g g2 := Fr_trans (Fr_mono (by decide) fN) (Fr_mono (by decide) fn)
  have bg : BEG (cB h) (cL h) P 11 h1 g2 := by
    refine ⟨tt, p0, g19, by rw [g21]; rfl, by rw [g22]; rfl, by rw [g25]; rfl, by rw [g28]; rfl, ⟨p1, g20⟩, by rw [c1, g29], ⟨by rw [c1]; decide, by rw [c1]; decide⟩, by rw [c5]; decide, by rw [g36, c5, c1]; rfl, ?_, fun c hc => ?_, fun w hw => Or.inl ⟨cl1 w hw, fun c hc => ?_⟩⟩
    · unfold at_; rw [c5, a1]; exact Int.le_refl _
    · rw [c1] at hc; omega
    · rw [c1] at hc; omega
  rcases parse_2 _ h1 g2 0 _ e4 bg (by rw [c1]) er with ⟨y1, N3, g', y2, y3, y4, y5, y6⟩ | ⟨y1, g', y2, y3, y4⟩
  · left
    cases N3 with
    | zero => cases y2
    | succ N3 =>
      rw [f_X9_text_74_s, if_neg (fun q => by rw [q] at y6; exact absurd y6 (by decide))] at y2
      unfold f_X9_text_167 at y2
      rw [if_neg (fun q => by have := gi_of_le q; omega)] at y2
      cases y2
      refine ⟨y1, rfl, y3, y4, ?_, Fr_sI (by decide) (Fr_sI (by decide) (Fr_trans fg2 (Fr_mono (by decide) y5)))⟩
      show eI g' 0 3 = 0
      rw [y5.1 0 3 (by decide)]; exact g3
  · right
    obtain ⟨bt, bf, bw, b21, b22, b25, b28, bpl, tx1, ⟨tx2, tx3⟩, tx4, tx5, tx6, tx7, tx8⟩ := id y3
    unfold f_X9_text_167 at y2
    rw [if_pos (by rw [bw]; decide)] at y2
    have r3 : eA g' 0 0 = eA g 0 0 := by rw [y4.2.1 0 0 (by decide), fg2.2.1 0 0 (by decide)]
    rw [r3] at y2
    obtain ⟨-, y2⟩ := ob_if y2
    have ix : (eA g 0 0 3).toNatClampNeg = 2 := by rw [Int32.toNatClampNeg, gn]; rfl
    rw [ix] at y2
    have fA : Fr [(0, 0, 4), (0, 0, 5), (1, 0, 6)] g' (sA (sI (sI g' 0 4 (eI g' 0 19)) 0 5 (eI g' 0 20)) 0 6 (upd (eA g' 0 6) 2 (eI g' 0 29))) := Fr_sA (by decide) (Fr_sI (by decide) (Fr_sI (by decide) (Fr_refl _ _)))
    have ta := TT_at bt
    obtain ⟨gE, w1, w2, w3, w4⟩ := mp_211 (T := 2) gn (by decide) _ _ 0 r y2 (by decide) (by show (0 : Int32).toInt ≤ (eI g' 0 29).toInt; omega) (by show (eI g' 0 29).toInt ≤ 24; omega)
    replace w3 : ∀ k : Nat, (0 : Int32).toInt ≤ (k : Int) → (k : Int) < (eI g' 0 29).toInt → eA gE 0 7 (24 * 2 + k) = eA g' 0 31 k ∧ eA gE 0 8 (24 * 2 + k) = 400 * eA g 0 0 3 + eA g' 0 32 k ∧ eA gE 0 9 (24 * 2 + k) = eA g' 0 33 k ∧ eA gE 0 10 (24 * 2 + k) = eA g' 0 34 k ∧ eA gE 0 11 (24 * 2 + k) = eA g' 0 35 k := w3
    replace w4 : ∀ i : Nat, ((i : Int) < 24 * ((2 : Nat) : Int) + (0 : Int32).toInt ∨ 24 * ((2 : Nat) : Int) + (eI g' 0 29).toInt ≤ (i : Int)) → eA gE 0 7 i = eA g' 0 7 i ∧ eA gE 0 8 i = eA g' 0 8 i ∧ eA gE 0 9 i = eA g' 0 9 i ∧ eA gE 0 10 i = eA g' 0 10 i ∧ eA gE 0 11 i = eA g' 0 11 i := w4
    have e36 : eI gE 0 36 = eI g' 0 36 := w2.1 0 36 (by decide)
    have e37 : eA gE 0 37 = eA g' 0 37 := w2.2.1 0 37 (by decide)
    have e38 : eA gE 0 38 = eA g' 0 38 := w2.2.1 0 38 (by decide)
    have e12 : eA gE 0 12 = eA g' 0 12 := w2.2.1 0 12 (by decide)
    have e13 : eA gE 0 13 = eA g' 0 13 := w2.2.1 0 13 (by decide)
    have e00 : eA gE 0 0 = eA g' 0 0 := w2.2.1 0 0 (by decide)
    have e06 : eA gE 0 6 = upd (eA g' 0 6) 2 (eI g' 0 29) := w2.2.1 0 6 (by decide)
    obtain ⟨v1, v2, v3, v4, v5⟩ := mp_318 (T := 2) gn (by decide) _ gE 0 r w1 (by decide) (by rw [e36]; omega) (by rw [e36]; omega)
    rw [e36, e37, e38] at v4
    rw [e36, e12, e13] at v5
    have R6 : eA r.2 0 6 = upd (eA g' 0 6) 2 (eI g' 0 29) := (v3.2.1 0 6 (by decide)).trans e06
    have R7 : eA r.2 0 7 = eA gE 0 7 := v3.2.1 0 7 (by decide)
    have R8 : eA r.2 0 8 = eA gE 0 8 := v3.2.1 0 8 (by decide)
    have R9 : eA r.2 0 9 = eA gE 0 9 := v3.2.1 0 9 (by decide)
    have R10 : eA r.2 0 10 = eA gE 0 10 := v3.2.1 0 10 (by decide)
    have R11 : eA r.2 0 11 = eA gE 0 11 := v3.2.1 0 11 (by decide)
    have q6 : eA g' 0 6 = eA g 0 6 := (y4.2.1 0 6 (by decide)).trans (fg2.2.1 0 6 (by decide))
    have q7 : eA g' 0 7 = eA g 0 7 := (y4.2.1 0 7 (by decide)).trans (fg2.2.1 0 7 (by decide))
    have q8 : eA g' 0 8 = eA g 0 8 := (y4.2.1 0 8 (by decide)).trans (fg2.2.1 0 8 (by decide))
    have q9 : eA g' 0 9 = eA g 0 9 := (y4.2.1 0 9 (by decide)).trans (fg2.2.1 0 9 (by decide))
    have q10 : eA g' 0 10 = eA g 0 10 := (y4.2.1 0 10 (by decide)).trans (fg2.2.1 0 10 (by decide))
    have q11 : eA g' 0 11 = eA g 0 11 := (y4.2.1 0 11 (by decide)).trans (fg2.2.1 0 11 (by decide))
    have q12 : eA g' 0 12 = eA g 0 12 := (y4.2.1 0 12 (by decide)).trans (fg2.2.1 0 12 (by decide))
    have q13 : eA g' 0 13 = eA g 0 13 := (y4.2.1 0 13 (by decide)).trans (fg2.2.1 0 13 (by decide))
    refine ⟨y1, v1, ?_, ?_, ?_, ?_, ⟨?_, ⟨tx2, tx3⟩, ⟨tx4, by omega⟩, fun c hc => ?_, fun w hw => ?_⟩, ⟨fun u hu => ?_, fun i hi => ?_, fun i hi => ?_⟩, ?_⟩
    · rw [v3.1 0 4 (by decide), w2.1 0 4 (by decide)]
      exact bw
    · rw [v3.1 0 5 (by decide), w2.1 0 5 (by decide)]
      show eI g' 0 20 = _
      rw [bpl.2, bpl.1]
    · rw [v3.1 0 3 (by decide), w2.1 0 3 (by decide)]
      show eI g' 0 3 = 0
      rw [y4.1 0 3 (by decide)]; exact g3
    · rw [v2, e00, r3]
    · rw [R6]
      show _ = (upd (eA g' 0 6) 2 (eI g' 0 29) 2).toInt
      unfold upd
      rw [if_pos rfl]; exact tx1
    · have k3 := w3 c (by omega) (by omega)
      have x := tx7 c hc
      unfold CLF
      rw [R7, R9, R10, R11, k3.1, k3.2.2.1, k3.2.2.2.1, k3.2.2.2.2]
      refine ⟨x.1, x.2.1, x.2.2.1, fun q => ?_, x.2.2.2.2⟩
      obtain ⟨l1, l2, l3, l4, l5, l6⟩ := x.2.2.2.1 q
      have m1 := fb_mulJ (x := 400) (y := eA g 0 0 3) (k := 400) rfl (by omega) (by omega)
      have m2 := fb_addI (x := 400 * eA g 0 0 3) (y := eA g' 0 32 c) (by omega) (by omega)
      refine ⟨l1, l2, l3, ?_, fun i i1 i2 => ?_, ?_⟩
      · rw [R8, k3.2.1, m2, m1, gn, l4]
        omega
      · have k4 := v4 (i + c) (by omega) (by omega)
        rw [show i + (400 * 2 + c) = 400 * 2 + (i + c) by omega, k4.1, k4.2]
        exact l5 i i1 i2
      · have k4 := v4 ((eA h4 11 4 (eA g' 0 31 c).toInt.toNat).toInt.toNat + c) (by omega) (by omega)
        rw [show (eA h4 11 4 (eA g' 0 31 c).toInt.toNat).toInt.toNat + (400 * 2 + c) = 400 * 2 + ((eA h4 11 4 (eA g' 0 31 c).toInt.toNat).toInt.toNat + c) by omega, k4.1]
        exact l6
    · rcases tx8 w hw with ⟨x1, x2⟩ | ⟨x1, c, x2, x3⟩
      · refine Or.inl ⟨x1, fun c hc => ?_⟩
        rw [R7, (w3 c (by omega) (by omega)).1]
        exact x2 c hc
      · refine Or.inr ⟨x1, c, x2, ?_⟩
        rw [R7, (w3 c (by omega) (by omega)).1]
        exact x3
    · rw [R6]
      unfold upd
      rw [if_neg hu, q6]
    · have k4 := w4 i (by omega)
      rw [R7, R8, R9, R10, R11, k4.1, k4.2.1, k4.2.2.1, k4.2.2.2.1, k4.2.2.2.2, q7, q8, q9, q10, q11]
      exact ⟨rfl, rfl, rfl, rfl, rfl⟩
    · have k5 := v5 i (by omega)
      rw [k5.1, k5.2, q12, q13]
      exact ⟨rfl, rfl⟩
    · rw [v3.2.1 0 1 (by decide), w2.2.1 0 1 (by decide)]
      show eA g' 0 1 = _
      rw [y4.2.1 0 1 (by decide), fg2.2.1 0 1 (by decide)]
theorem cp_clear_3 : ∀ (n : Nat) (h h' : HS) (x1 : Int32), f_X6_clear_3_12 n h x1 = some h' → 0 ≤ x1.toInt → (∀ w : Nat, (w : Int) < x1.toInt → eA h 12 3 w = -1) → (∀ w : Nat, w < 4 → eA h' 12 3 w = -1) ∧ Fr [(1, 12, 3), (1, 12, 4)] h h' := by
  have z1 : (1 : Int32).toInt = 1 := rfl
  have z4 : (4 : Int32).toInt = 4 := rfl
  intro n
  induction n with
  | zero => intro h h' x1 e; cases e
  | succ n ih =>
    intro h h' x1 e h0 h1
    rw [f_X6_clear_3_12_s] at e
    by_cases c : (4 : Int32) ≤ x1
    · rw [if_pos c] at e
      have d := gi_of_le c
      cases e
      exact ⟨fun w hw => h1 w (by omega), Fr_refl _ _⟩
    · rw [if_neg c] at e
      have d := gi_of_nle c
      obtain ⟨-, e⟩ := ob_if e
      obtain ⟨-, e⟩ := ob_if e
      have a := fb_addI (x := x1) (y := 1) (by omega) (by omega)
      have nx : ∀ w : Nat, (w : Int) < (x1 + 1).toInt → upd (eA h 12 3) x1.toNatClampNeg (-1) w = -1 := by
        intro w hw
        unfold upd
        by_cases cw : w = x1.toNatClampNeg
        · rw [if_pos cw]
        · rw [if_neg cw]
          rw [Int32.toNatClampNeg] at cw
          exact h1 w (by omega)
      obtain ⟨k1, k2⟩ := ih _ h' (x1 + 1) e (by omega) nx
      exact ⟨k1, Fr_trans (Fr_sA (by decide) (Fr_sA (by decide) (Fr_refl _ _))) k2⟩
theorem text_3 {h g h3 h4 : HS} {r : Int32 × HS} (hL0 : 0 ≤ cL h) (hL : cL h ≤ 300) (tap : TAP h g) (gn : (eA g 0 0 3).toInt = 3) (e3 : f_X7_split h = some h3) (e4 : f_X2_parse_3 h3 = some h4) (er : f_X9_text g = some r) : TXO 12 3 h4 g r := by
  have z0 : (0 : Int32).toInt = 0 := rfl
  have z4 : (4 : Int32).toInt = 4 := rfl
  obtain ⟨P, te, at0⟩ := cx_split e3 hL0 hL
  have fs := w_f_X7_split _ _ e3
  unfold f_X2_parse_3 at e4
  obtain ⟨h1, e1, e4⟩ := ob1_some e4
  unfold f_X6_clear_3 at e1
  obtain ⟨cl1, cl2⟩ := cp_clear_3 _ _ h1 0 e1 (by decide) (fun w hw => by omega)
  have f1 : Fr [(0, 5, 0), (0, 5, 1), (0, 12, 1), (0, 12, 5), (1, 12, 3), (1, 12, 4)] h3 h1 := Fr_trans (Fr_sI (by decide) (Fr_sI (by decide) (Fr_sI (by decide) (Fr_sI (by decide) (Fr_refl _ _))))) (Fr_mono (by decide) cl2)
  have p0 : eI h1 5 0 = 0 := cl2.1 5 0 (by decide)
  have p1 : eI h1 5 1 = -1 := cl2.1 5 1 (by decide)
  have c1 : eI h1 12 1 = 0 := cl2.1 12 1 (by decide)
  have c5 : eI h1 12 5 = 0 := cl2.1 12 5 (by decide)
  unfold f_X9_text at er
  rw [if_neg (fun q => by have := gi_of_eq q; omega)] at er
  obtain ⟨g2, b2, er⟩ := ob1_some er
  have fN : Fr [(0, 0, 3), (0, 0, 14), (0, 0, 15), (0, 0, 19), (0, 0, 20), (0, 0, 21), (0, 0, 22), (0, 0, 25), (0, 0, 28), (0, 0, 29), (0, 0, 36)] g (sI (sI (sI (sI (sI (sI (sI (sI (sI (sI (sI g 0 14 (eI g 0 3)) 0 3 0) 0 15 0) 0 19 0) 0 20 (-1)) 0 21 0) 0 22 0) 0 25 0) 0 28 4) 0 29 0) 0 36 0) := Fr_sI (by decide) (Fr_sI (by decide) (Fr_sI (by decide) (Fr_sI (by decide) (Fr_sI (by decide) (Fr_sI (by decide) (Fr_sI (by decide) (Fr_sI (by decide) (Fr_sI (by decide) (Fr_sI (by decide) (Fr_sI (by decide) (Fr_refl _ _)))))))))))
  generalize hgN : (sI (sI (sI (sI (sI (sI (sI (sI (sI (sI (sI g 0 14 (eI g 0 3)) 0 3 0) 0 15 0) 0 19 0) 0 20 (-1)) 0 21 0) 0 22 0) 0 25 0) 0 28 4) 0 29 0) 0 36 0) = gN at b2 fN
  have fn := w_f_X9_next _ _ b2
  have mt : MT (cB h) (cL h) gN := by
    refine ⟨?_, fun j a b => ?_⟩
    · have : eI gN 0 14 = eI g 0 3 := by rw [← hgN]; rfl
      rw [this, ← tap.1]; rfl
    · have k := tap.2 j a b
      unfold mB at *
      rw [fN.2.1 0 2 (by decide)]
      exact k
  have te1 : TE (cB h) (cL h) h1 P := TE_fr te f1 (by decide) (by decide) (by decide) (by decide)
  have a1 : eI h1 4 4 = 0 := (f1.1 4 4 (by decide)).trans at0
  have i0 := te1.2.2.2 0 (by have := te1.2.1; omega)
  have tk0 := i0.2.1
  rw [te1.1] at tk0
  have aN : (eI gN 0 15).toInt = 0 := by rw [← hgN]; rfl
  have nx := mx_next b2 hL mt (Int.le_refl 0) aN tk0
  have tt : TT (cB h) (cL h) P h1 g2 := by
    refine ⟨hL, te1, MT_fr mt fn (by decide) (by decide), ?_, ?_, ?_, ?_, ?_⟩
    · unfold at_; rw [a1]; decide
    · unfold at_; rw [a1]; have := te1.2.1; omega
    · rw [a1]; exact nx.1
    · rw [a1]; exact gi_eq nx.2.1
    · unfold kd vl; rw [a1]; exact nx.2.2
  have G : ∀ (k : Nat) (v : Int32), eI gN 0 k = v → (0, 0, k) ∉ S_X9_next → eI g2 0 k = v := fun k v q n => (fn.1 0 k n).trans q
  have g19 : eI g2 0 19 = 0 := G 19 0 (by rw [← hgN]; rfl) (by decide)
  have g20 : eI g2 0 20 = -1 := G 20 (-1) (by rw [← hgN]; rfl) (by decide)
  have g21 : eI g2 0 21 = 0 := G 21 0 (by rw [← hgN]; rfl) (by decide)
  have g22 : eI g2 0 22 = 0 := G 22 0 (by rw [← hgN]; rfl) (by decide)
  have g25 : eI g2 0 25 = 0 := G 25 0 (by rw [← hgN]; rfl) (by decide)
  have g28 : eI g2 0 28 = 4 := G 28 4 (by rw [← hgN]; rfl) (by decide)
  have g29 : eI g2 0 29 = 0 := G 29 0 (by rw [← hgN]; rfl) (by decide)
  have g36 : eI g2 0 36 = 0 := G 36 0 (by rw [← hgN]; rfl) (by decide)
  have g3 : eI g2 0 3 = 0 := G 3 0 (by rw [← hgN]; rfl) (by decide)
  have fg2 : Fr SPX g g2 := Fr_trans (Fr_mono (by decide) fN) (Fr_mono (by decide) fn)
  have bg : BEG (cB h) (cL h) P 12 h1 g2 := by
    refine ⟨tt, p0, g19, by rw [g21]; rfl, by rw [g22]; rfl, by rw [g25]; rfl, by rw [g28]; rfl, ⟨p1, g20⟩, by rw [c1, g29], ⟨by rw [c1]; decide, by rw [c1]; decide⟩, by rw [c5]; decide, by rw [g36, c5, c1]; rfl, ?_, fun c hc => ?_, fun w hw => Or.inl ⟨cl1 w hw, fun c hc => ?_⟩⟩
    · unfold at_; rw [c5, a1]; exact Int.le_refl _
    · rw [c1] at hc; omega
    · rw [c1] at hc; omega
  rcases parse_3 _ h1 g2 0 _ e4 bg (by rw [c1]) er with ⟨y1, N3, g', y2, y3, y4, y5, y6⟩ | ⟨y1, g', y2, y3, y4⟩
  · left
    cases N3 with
    | zero => cases y2
    | succ N3 =>
      rw [f_X9_text_74_s, if_neg (fun q => by rw [q] at y6; exact absurd y6 (by decide))] at y2
      unfold f_X9_text_167 at y2
      rw [if_neg (fun q => by have := gi_of_le q; omega)] at y2
      cases y2
      refine ⟨y1, rfl, y3, y4, ?_, Fr_sI (by decide) (Fr_sI (by decide) (Fr_trans fg2 (Fr_mono (by decide) y5)))⟩
      show eI g' 0 3 = 0
      rw [y5.1 0 3 (by decide)]; exact g3
  · right
    obtain ⟨bt, bf, bw, b21, b22, b25, b28, bpl, tx1, ⟨tx2, tx3⟩, tx4, tx5, tx6, tx7, tx8⟩ := id y3
    unfold f_X9_text_167 at y2
    rw [if_pos (by rw [bw]; decide)] at y2
    have r3 : eA g' 0 0 = eA g 0 0 := by rw [y4.2.1 0 0 (by decide), fg2.2.1 0 0 (by decide)]
    rw [r3] at y2
    obtain ⟨-, y2⟩ := ob_if y2
    have ix : (eA g 0 0 3).toNatClampNeg = 3 := by rw [Int32.toNatClampNeg, gn]; rfl
    rw [ix] at y2
    have fA : Fr [(0, 0, 4), (0, 0, 5), (1, 0, 6)] g' (sA (sI (sI g' 0 4 (eI g' 0 19)) 0 5 (eI g' 0 20)) 0 6 (upd (eA g' 0 6) 3 (eI g' 0 29))) := Fr_sA (by decide) (Fr_sI (by decide) (Fr_sI (by decide) (Fr_refl _ _)))
    have ta := TT_at bt
    obtain ⟨gE, w1, w2, w3, w4⟩ := mp_211 (T := 3) gn (by decide) _ _ 0 r y2 (by decide) (by show (0 : Int32).toInt ≤ (eI g' 0 29).toInt; omega) (by show (eI g' 0 29).toInt ≤ 24; omega)
    replace w3 : ∀ k : Nat, (0 : Int32).toInt ≤ (k : Int) → (k : Int) < (eI g' 0 29).toInt → eA gE 0 7 (24 * 3 + k) = eA g' 0 31 k ∧ eA gE 0 8 (24 * 3 + k) = 400 * eA g 0 0 3 + eA g' 0 32 k ∧ eA gE 0 9 (24 * 3 + k) = eA g' 0 33 k ∧ eA gE 0 10 (24 * 3 + k) = eA g' 0 34 k ∧ eA gE 0 11 (24 * 3 + k) = eA g' 0 35 k := w3
    replace w4 : ∀ i : Nat, ((i : Int) < 24 * ((3 : Nat) : Int) + (0 : Int32).toInt ∨ 24 * ((3 : Nat) : Int) + (eI g' 0 29).toInt ≤ (i : Int)) → eA gE 0 7 i = eA g' 0 7 i ∧ eA gE 0 8 i = eA g' 0 8 i ∧ eA gE 0 9 i = eA g' 0 9 i ∧ eA gE 0 10 i = eA g' 0 10 i ∧ eA gE 0 11 i = eA g' 0 11 i := w4
    have e36 : eI gE 0 36 = eI g' 0 36 := w2.1 0 36 (by decide)
    have e37 : eA gE 0 37 = eA g' 0 37 := w2.2.1 0 37 (by decide)
    have e38 : eA gE 0 38 = eA g' 0 38 := w2.2.1 0 38 (by decide)
    have e12 : eA gE 0 12 = eA g' 0 12 := w2.2.1 0 12 (by decide)
    have e13 : eA gE 0 13 = eA g' 0 13 := w2.2.1 0 13 (by decide)
    have e00 : eA gE 0 0 = eA g' 0 0 := w2.2.1 0 0 (by decide)
    have e06 : eA gE 0 6 = upd (eA g' 0 6) 3 (eI g' 0 29) := w2.2.1 0 6 (by decide)
    obtain ⟨v1, v2, v3, v4, v5⟩ := mp_318 (T := 3) gn (by decide) _ gE 0 r w1 (by decide) (by rw [e36]; omega) (by rw [e36]; omega)
    rw [e36, e37, e38] at v4
    rw [e36, e12, e13] at v5
    have R6 : eA r.2 0 6 = upd (eA g' 0 6) 3 (eI g' 0 29) := (v3.2.1 0 6 (by decide)).trans e06
    have R7 : eA r.2 0 7 = eA gE 0 7 := v3.2.1 0 7 (by decide)
    have R8 : eA r.2 0 8 = eA gE 0 8 := v3.2.1 0 8 (by decide)
    have R9 : eA r.2 0 9 = eA gE 0 9 := v3.2.1 0 9 (by decide)
    have R10 : eA r.2 0 10 = eA gE 0 10 := v3.2.1 0 10 (by decide)
    have R11 : eA r.2 0 11 = eA gE 0 11 := v3.2.1 0 11 (by decide)
    have q6 : eA g' 0 6 = eA g 0 6 := (y4.2.1 0 6 (by decide)).trans (fg2.2.1 0 6 (by decide))
    have q7 : eA g' 0 7 = eA g 0 7 := (y4.2.1 0 7 (by decide)).trans (fg2.2.1 0 7 (by decide))
    have q8 : eA g' 0 8 = eA g 0 8 := (y4.2.1 0 8 (by decide)).trans (fg2.2.1 0 8 (by decide))
    have q9 : eA g' 0 9 = eA g 0 9 := (y4.2.1 0 9 (by decide)).trans (fg2.2.1 0 9 (by decide))
    have q10 : eA g' 0 10 = eA g 0 10 := (y4.2.1 0 10 (by decide)).trans (fg2.2.1 0 10 (by decide))
    have q11 : eA g' 0 11 = eA g 0 11 := (y4.2.1 0 11 (by decide)).trans (fg2.2.1 0 11 (by decide))
    have q12 : eA g' 0 12 = eA g 0 12 := (y4.2.1 0 12 (by decide)).trans (fg2.2.1 0 12 (by decide))
    have q13 : eA g' 0 13 = eA g 0 13 := (y4.2.1 0 13 (by decide)).trans (fg2.2.1 0 13 (by decide))
    refine ⟨y1, v1, ?_, ?_, ?_, ?_, ⟨?_, ⟨tx2, tx3⟩, ⟨tx4, by omega⟩, fun c hc => ?_, fun w hw => ?_⟩, ⟨fun u hu => ?_, fun i hi => ?_, fun i hi => ?_⟩, ?_⟩
    · rw [v3.1 0 4 (by decide), w2.1 0 4 (by decide)]
      exact bw
    · rw [v3.1 0 5 (by decide), w2.1 0 5 (by decide)]
      show eI g' 0 20 = _
      rw [bpl.2, bpl.1]
    · rw [v3.1 0 3 (by decide), w2.1 0 3 (by decide)]
      show eI g' 0 3 = 0
      rw [y4.1 0 3 (by decide)]; exact g3
    · rw [v2, e00, r3]
    · rw [R6]
      show _ = (upd (eA g' 0 6) 3 (eI g' 0 29) 3).toInt
      unfold upd
      rw [if_pos rfl]; exact tx1
    · have k3 := w3 c (by omega) (by omega)
      have x := tx7 c hc
      unfold CLF
      rw [R7, R9, R10, R11, k3.1, k3.2.2.1, k3.2.2.2.1, k3.2.2.2.2]
      refine ⟨x.1, x.2.1, x.2.2.1, fun q => ?_, x.2.2.2.2⟩
      obtain ⟨l1, l2, l3, l4, l5, l6⟩ := x.2.2.2.1 q
      have m1 := fb_mulJ (x := 400) (y := eA g 0 0 3) (k := 400) rfl (by omega) (by omega)
      have m2 := fb_addI (x := 400 * eA g 0 0 3) (y := eA g' 0 32 c) (by omega) (by omega)
      refine ⟨l1, l2, l3, ?_, fun i i1 i2 => ?_, ?_⟩
      · rw [R8, k3.2.1, m2, m1, gn, l4]
        omega
      · have k4 := v4 (i + c) (by omega) (by omega)
        rw [show i + (400 * 3 + c) = 400 * 3 + (i + c) by omega, k4.1, k4.2]
        exact l5 i i1 i2
      · have k4 := v4 ((eA h4 12 4 (eA g' 0 31 c).toInt.toNat).toInt.toNat + c) (by omega) (by omega)
        rw [show (eA h4 12 4 (eA g' 0 31 c).toInt.toNat).toInt.toNat + (400 * 3 + c) = 400 * 3 + ((eA h4 12 4 (eA g' 0 31 c).toInt.toNat).toInt.toNat + c) by omega, k4.1]
        exact l6
    · rcases tx8 w hw with ⟨x1, x2⟩ | ⟨x1, c, x2, x3⟩
      · refine Or.inl ⟨x1, fun c hc => ?_⟩
        rw [R7, (w3 c (by omega) (by omega)).1]
        exact x2 c hc
      · refine Or.inr ⟨x1, c, x2, ?_⟩
        rw [R7, (w3 c (by omega) (by omega)).1]
        exact x3
    · rw [R6]
      unfold upd
      rw [if_neg hu, q6]
    · have k4 := w4 i (by omega)
      rw [R7, R8, R9, R10, R11, k4.1, k4.2.1, k4.2.2.1, k4.2.2.2.1, k4.2.2.2.2, q7, q8, q9, q10, q11]
      exact ⟨rfl, rfl, rfl, rfl, rfl⟩
    · have k5 := v5 i (by omega)
      rw [k5.1, k5.2, q12, q13]
      exact ⟨rfl, rfl⟩
    · rw [v3.2.1 0 1 (by decide), w2.2.1 0 1 (by decide)]
      show eA g' 0 1 = _
      rw [y4.2.1 0 1 (by decide), fg2.2.1 0 1 (by decide)]
/-! the class's steps by types: false a number, true a question; never deeper than lim -/
def step1 (s : Int) (S : List Bool) : Option (List Bool) :=
  if s < 20000 then some (false :: S) else
  if s = 20038 then (match S with
    | false :: R => some (false :: R)
    | _ => none) else
  if s = 20028 then (match S with
    | true :: R => some (true :: R)
    | _ => none) else
  if s = 20026 ∨ s = 20027 then (match S with
    | true :: true :: R => some (true :: R)
    | _ => none) else
  if 20003 ≤ s ∧ s ≤ 20008 then (match S with
    | false :: false :: R => some (true :: R)
    | _ => none) else
  (match S with
    | false :: false :: R => some (false :: R)
    | _ => none)
def ty (st : Nat → Int32) (lim : Nat) : Nat → Nat → List Bool → Option (List Bool)
  | 0, _, S => some S
  | n + 1, i, S => match step1 (st i).toInt S with
    | none => none
    | some S' => if S'.length ≤ lim then ty st lim n (i + 1) S' else none
theorem ty_one {st : Nat → Int32} {lim i : Nat} {S R : List Bool} (h : step1 (st i).toInt S = some R) (l : R.length ≤ lim) : ty st lim 1 i S = some R := by
  show (match step1 (st i).toInt S with
    | none => none
    | some S' => if S'.length ≤ lim then ty st lim 0 (i + 1) S' else none) = some R
  rw [h]
  show (if R.length ≤ lim then some R else none) = some R
  rw [if_pos l]
theorem ty_add {st : Nat → Int32} {lim : Nat} : ∀ (n m i : Nat) (S R T : List Bool), ty st lim n i S = some R → ty st lim m (i + n) R = some T → ty st lim (n + m) i S = some T := by
  intro n
  induction n with
  | zero =>
    intro m i S R T h1 h2
    cases h1
    rw [Nat.zero_add]
    exact h2
  | succ n ih =>
    intro m i S R T h1 h2
    rw [show n + 1 + m = (n + m) + 1 by omega]
    unfold ty at h1 ⊢
    cases hs : step1 (st i).toInt S with
    | none => rw [hs] at h1; cases h1
    | some S' =>
      rw [hs] at h1
      by_cases c : S'.length ≤ lim
      · have h1 : (if S'.length ≤ lim then ty st lim n (i + 1) S' else none) = some R := h1
        rw [if_pos c] at h1
        show (if S'.length ≤ lim then ty st lim (n + m) (i + 1) S' else none) = some T
        rw [if_pos c]
        exact ih m (i + 1) S' R T h1 (by rw [show i + 1 + n = i + (n + 1) by omega]; exact h2)
      · have h1 : (if S'.length ≤ lim then ty st lim n (i + 1) S' else none) = some R := h1
        rw [if_neg c] at h1
        cases h1
theorem ty_congr {a b : Nat → Int32} {lim : Nat} : ∀ (n i : Nat) (S : List Bool), (∀ j : Nat, i ≤ j → j < i + n → b j = a j) → ty b lim n i S = ty a lim n i S := by
  intro n
  induction n with
  | zero => intro i S _; rfl
  | succ n ih =>
    intro i S h
    unfold ty
    rw [h i (Nat.le_refl _) (by omega)]
    cases step1 (a i).toInt S with
    | none => rfl
    | some S' =>
      show (if S'.length ≤ lim then ty b lim n (i + 1) S' else none) = (if S'.length ≤ lim then ty a lim n (i + 1) S' else none)
      rw [ih (i + 1) S' (fun j h1 h2 => h j (by omega) (by omega))]
def TYR (o : Nat) (h h' : HS) (M : Int) (b : Bool) : Prop := (eI h o 5).toInt ≤ (eI h' o 5).toInt ∧ (eI h' o 5).toInt - (eI h o 5).toInt ≤ at_ h' - at_ h ∧ (∀ i : Nat, (i : Int) < (eI h o 5).toInt → eA h' o 2 i = eA h o 2 i) ∧ ∀ (S : List Bool) (lim : Nat), (S.length : Int) + M ≤ (lim : Int) → ty (eA h' o 2) lim ((eI h' o 5).toInt - (eI h o 5).toInt).toNat (eI h o 5).toInt.toNat S = some (b :: S)
theorem TYR_le {o : Nat} {h h' : HS} {M N : Int} {b : Bool} (x : TYR o h h' M b) (l : M ≤ N) : TYR o h h' N b := ⟨x.1, x.2.1, x.2.2.1, fun S lim q => x.2.2.2 S lim (by omega)⟩
/-- a step that turns what stands on top -/
theorem tyr_un {o : Nat} {h h1 h2 h3 : HS} {M : Int} {b b' : Bool} {s : Int32} (n : 0 ≤ (eI h o 5).toInt) (a0 : eI h1 o 5 = eI h o 5) (a1 : eA h1 o 2 = eA h o 2) (a2 : at_ h1 = at_ h + 1) (x : TYR o h1 h2 M b) (c1 : (eI h3 o 5).toInt = (eI h2 o 5).toInt + 1) (c2 : eA h3 o 2 = upd (eA h2 o 2) (eI h2 o 5).toInt.toNat s) (c3 : at_ h3 = at_ h2) (hs : ∀ S : List Bool, step1 s.toInt (b :: S) = some (b' :: S)) (hM : 1 ≤ M) : TYR o h h3 M b' := by
  obtain ⟨x1, x2, x3, x4⟩ := x
  rw [a0] at x1 x2 x3 x4
  rw [a1] at x3
  refine ⟨by omega, by omega, fun i hi => ?_, fun S lim q => ?_⟩
  · rw [c2]
    unfold upd
    rw [if_neg (by omega)]
    exact x3 i hi
  · rw [show ((eI h3 o 5).toInt - (eI h o 5).toInt).toNat = ((eI h2 o 5).toInt - (eI h o 5).toInt).toNat + 1 by omega]
    refine ty_add _ 1 _ S (b :: S) (b' :: S) ?_ ?_
    · rw [ty_congr (a := eA h2 o 2) _ _ _ (fun j j1 j2 => ?_)]
      · exact x4 S lim q
      · rw [c2]
        unfold upd
        rw [if_neg (by omega)]
    · refine ty_one ?_ (by show S.length + 1 ≤ lim; omega)
      rw [c2]
      unfold upd
      rw [if_pos (by omega)]
      exact hs S
/-- a step that joins two -/
theorem tyr_bin {o : Nat} {h h1 h2 h3 h4 : HS} {M1 M2 M : Int} {b1 b2 b3 : Bool} {s : Int32} (n : 0 ≤ (eI h o 5).toInt) (x : TYR o h h1 M1 b1) (a0 : eI h2 o 5 = eI h1 o 5) (a1 : eA h2 o 2 = eA h1 o 2) (a2 : at_ h2 = at_ h1 + 1) (y : TYR o h2 h3 M2 b2) (c1 : (eI h4 o 5).toInt = (eI h3 o 5).toInt + 1) (c2 : eA h4 o 2 = upd (eA h3 o 2) (eI h3 o 5).toInt.toNat s) (c3 : at_ h4 = at_ h3) (hs : ∀ S : List Bool, step1 s.toInt (b2 :: b1 :: S) = some (b3 :: S)) (hM1 : M1 ≤ M) (hM2 : M2 + 1 ≤ M) (hM : 1 ≤ M) : TYR o h h4 M b3 := by
  obtain ⟨x1, x2, x3, x4⟩ := x
  obtain ⟨y1, y2, y3, y4⟩ := y
  rw [a0] at y1 y2 y3 y4
  rw [a1] at y3
  refine ⟨by omega, by omega, fun i hi => ?_, fun S lim q => ?_⟩
  · rw [c2]
    unfold upd
    rw [if_neg (by omega), y3 i (by omega)]
    exact x3 i hi
  · rw [show ((eI h4 o 5).toInt - (eI h o 5).toInt).toNat = ((eI h1 o 5).toInt - (eI h o 5).toInt).toNat + (((eI h3 o 5).toInt - (eI h1 o 5).toInt).toNat + 1) by omega]
    refine ty_add _ _ _ S (b1 :: S) (b3 :: S) ?_ ?_
    · rw [ty_congr (a := eA h1 o 2) _ _ _ (fun j j1 j2 => ?_)]
      · exact x4 S lim (by omega)
      · rw [c2]
        unfold upd
        rw [if_neg (by omega), y3 j (by omega)]
    · rw [show (eI h o 5).toInt.toNat + ((eI h1 o 5).toInt - (eI h o 5).toInt).toNat = (eI h1 o 5).toInt.toNat by omega]
      refine ty_add _ 1 _ (b1 :: S) (b2 :: b1 :: S) (b3 :: S) ?_ ?_
      · rw [ty_congr (a := eA h3 o 2) _ _ _ (fun j j1 j2 => ?_)]
        · exact y4 (b1 :: S) lim (by show ((S.length + 1 : Nat) : Int) + M2 ≤ _; omega)
        · rw [c2]
          unfold upd
          rw [if_neg (by omega)]
      · refine ty_one ?_ (by show S.length + 1 ≤ lim; omega)
        rw [c2]
        unfold upd
        rw [if_pos (by omega)]
        exact hs S
/-- a number or a name -/
theorem tyr_leaf {o : Nat} {h h3 : HS} {s : Int32} (n : 0 ≤ (eI h o 5).toInt) (c1 : (eI h3 o 5).toInt = (eI h o 5).toInt + 1) (c2 : eA h3 o 2 = upd (eA h o 2) (eI h o 5).toInt.toNat s) (c3 : at_ h3 = at_ h + 1) (hs : s.toInt < 20000) : TYR o h h3 1 false := by
  refine ⟨by omega, by omega, fun i hi => ?_, fun S lim q => ?_⟩
  · rw [c2]
    unfold upd
    rw [if_neg (by omega)]
  · rw [show ((eI h3 o 5).toInt - (eI h o 5).toInt).toNat = 1 by omega]
    refine ty_one ?_ (by show S.length + 1 ≤ lim; omega)
    rw [c2]
    unfold upd
    rw [if_pos rfl]
    unfold step1
    rw [if_pos hs]
def CT (B : Int → Int) (L : Int) (P : Nat → Int) (o : Nat) (h : HS) : Prop := L ≤ 300 ∧ TE B L h P ∧ 0 ≤ at_ h ∧ at_ h < (eI h 4 3).toInt ∧ 0 ≤ (eI h o 5).toInt ∧ (eI h o 5).toInt ≤ at_ h
theorem CT_kind {B : Int → Int} {L : Int} {P : Nat → Int} {o : Nat} {h : HS} {z : Int32 × HS} (t : CT B L P o h) (e : f_X7_kind h = some z) : z.2 = h ∧ z.1.toInt = kd h := by
  have z301 : (301 : Int32).toInt = 301 := rfl
  obtain ⟨hL, ⟨-, -, c2, -⟩, a1, a2, -⟩ := t
  unfold at_ at a1 a2
  unfold f_X7_kind f_X7_kind_35 f_X7_kind_36 at e
  rw [if_neg (fun c => by have := gi_of_le c; omega), if_neg (fun c => by have := gi_of_le c; omega)] at e
  obtain ⟨-, e⟩ := ob_if e
  cases e
  exact ⟨rfl, rfl⟩
theorem CT_value {B : Int → Int} {L : Int} {P : Nat → Int} {o : Nat} {h : HS} {z : Int32 × HS} (t : CT B L P o h) (e : f_X7_value h = some z) : z.2 = h ∧ z.1.toInt = vl h := by
  have z301 : (301 : Int32).toInt = 301 := rfl
  obtain ⟨hL, ⟨-, -, c2, -⟩, a1, a2, -⟩ := t
  unfold at_ at a1 a2
  unfold f_X7_value f_X7_value_35 f_X7_value_36 at e
  rw [if_neg (fun c => by have := gi_of_le c; omega), if_neg (fun c => by have := gi_of_le c; omega)] at e
  obtain ⟨-, e⟩ := ob_if e
  cases e
  exact ⟨rfl, rfl⟩
theorem CT_adv {B : Int → Int} {L : Int} {P : Nat → Int} {o : Nat} {h h' : HS} (ho : ¬ o = 4) (t : CT B L P o h) (k : ¬ kd h = 0) (e : f_X7_advance h = some h') : CT B L P o h' ∧ at_ h' = at_ h + 1 ∧ at_ h < 300 ∧ eI h' o 5 = eI h o 5 ∧ eA h' o 2 = eA h o 2 ∧ eI h' 5 0 = eI h 5 0 := by
  have z1 : (1 : Int32).toInt = 1 := rfl
  obtain ⟨hL, te, a1, a2, a3, a4⟩ := t
  obtain ⟨t1, t2, t3, t4⟩ := id te
  unfold at_ at a1 a2 a4
  unfold kd at k
  have i1 := t4 (eI h 4 4).toInt.toNat (by omega)
  have ne : ¬ (eI h 4 4).toInt = (eI h 4 3).toInt - 1 := fun q => k (i1.2.2.mpr (by omega))
  have s1 := fb_subI (x := eI h 4 3) (y := 1) (by omega) (by omega)
  have s2 := fb_addI (x := eI h 4 4) (y := 1) (by omega) (by omega)
  unfold f_X7_advance f_X7_advance_23 at e
  rw [if_neg (fun c => by have := gi_of_le c; omega)] at e
  cases e
  have h5 : eI (sI h 4 4 (eI h 4 4 + 1)) o 5 = eI h o 5 := by
    show (if o = 4 then (if (5 : Nat) = 4 then _ else _) else _) = _
    rw [if_neg ho]
    rfl
  refine ⟨⟨hL, te, ?_, ?_, ?_, ?_⟩, ?_, ?_, h5, rfl, rfl⟩
  · show 0 ≤ (eI h 4 4 + 1).toInt; omega
  · show (eI h 4 4 + 1).toInt < (eI h 4 3).toInt; omega
  · rw [h5]; exact a3
  · rw [h5]; show (eI h o 5).toInt ≤ (eI h 4 4 + 1).toInt; omega
  · show (eI h 4 4 + 1).toInt = (eI h 4 4).toInt + 1; omega
  · unfold at_; omega
theorem fail_nz {h h' : HS} {w : Int32} (e : f_X2_fail h w = some h') (hw : ¬ w = 0) : ¬ eI h' 5 0 = 0 := by
  by_cases c : eI h 5 0 = 0
  · unfold f_X2_fail f_X2_fail_20 at e
    rw [if_pos c] at e
    obtain ⟨r, h2, e2, e⟩ := ob2_some e
    cases e
    have f := w_f_X7_start _ _ e2
    show ¬ eI h2 5 0 = 0
    have f1 : eI h2 5 0 = w := f.1 5 0 (by decide)
    rw [f1]
    exact hw
  · rw [cp_fail_no e c]; exact c
theorem tyr_wrap {o : Nat} {h h1 h2 h3 : HS} {M : Int} {b : Bool} (a0 : eI h1 o 5 = eI h o 5) (a1 : eA h1 o 2 = eA h o 2) (a2 : at_ h1 = at_ h + 1) (x : TYR o h1 h2 M b) (c1 : eI h3 o 5 = eI h2 o 5) (c2 : eA h3 o 2 = eA h2 o 2) (c3 : at_ h3 = at_ h2 + 1) : TYR o h h3 M b := by
  obtain ⟨x1, x2, x3, x4⟩ := x
  rw [a0] at x1 x2 x3 x4
  rw [a1] at x3
  unfold TYR
  rw [c1, c2]
  exact ⟨x1, by omega, x3, x4⟩
/-! the names that a law of ink or of the code may ask: none of the market's -/
def NBS (s : Int32) : Prop := s.toInt < 10006 ∨ 20000 ≤ s.toInt
def NBQ (o : Nat) (F : Int) (h : HS) : Prop := ∀ i : Nat, F ≤ (i : Int) → (i : Int) < (eI h o 5).toInt → NBS (eA h o 2 i)
def NBR (o : Nat) (h h' : HS) : Prop := eI h' 5 2 = eI h 5 2 ∧ (2 ≤ (eI h 5 2).toInt → ∀ F : Int, NBQ o F h → NBQ o F h')
theorem NBR_refl (o : Nat) (h : HS) : NBR o h h := ⟨rfl, fun _ _ q => q⟩
theorem NBR_trans {o : Nat} {a b c : HS} (x : NBR o a b) (y : NBR o b c) : NBR o a c := ⟨y.1.trans x.1, fun l F q => y.2 (by rw [x.1]; exact l) F (x.2 l F q)⟩
theorem NBR_fr {o : Nat} {S : CL} {h h' : HS} (f : Fr S h h') (n1 : (0, 5, 2) ∉ S) (n2 : (1, o, 2) ∉ S) (n3 : (0, o, 5) ∉ S) : NBR o h h' := by
  refine ⟨f.1 5 2 n1, fun _ F q => ?_⟩
  unfold NBQ at *
  rw [f.2.1 o 2 n2, f.1 o 5 n3]
  exact q
theorem cp_value_same {h : HS} {z : Int32 × HS} (e : f_X7_value h = some z) : z.2 = h := by
  unfold f_X7_value f_X7_value_35 f_X7_value_36 at e
  by_cases c1 : eI h 4 3 ≤ eI h 4 4
  · rw [if_pos c1] at e; cases e; rfl
  · rw [if_neg c1] at e
    by_cases c2 : (301 : Int32) ≤ eI h 4 4
    · rw [if_pos c2] at e; cases e; rfl
    · rw [if_neg c2] at e
      obtain ⟨-, e⟩ := ob_if e
      cases e; rfl
theorem same_arg {α : Type} {x : Option α} {a b : α} (e : x = some a) (e' : x = some b) : a = b := by
  rw [e] at e'; exact Option.some.inj e'
def TYL (o : Nat) (h : HS) : Prop := ∀ w : Nat, w < 4 → ¬ eA h o 3 w = -1 → 0 ≤ (eA h o 3 w).toInt ∧ (eA h o 3 w).toInt ≤ (eA h o 4 w).toInt ∧ (eA h o 4 w).toInt ≤ (eI h o 5).toInt ∧ ty (eA h o 2) 22 ((eA h o 4 w).toInt - (eA h o 3 w).toInt).toNat (eA h o 3 w).toInt.toNat [] = some [decide (w = 3)] ∧ (2 ≤ w → ∀ i : Nat, (eA h o 3 w).toInt ≤ (i : Int) → (i : Int) < (eA h o 4 w).toInt → NBS (eA h o 2 i))
def KF (h c : HS) : Prop := eI c 5 0 = 0 → eI h 5 0 = 0
theorem KF_refl (h : HS) : KF h h := fun q => q
theorem KF_trans {a b c : HS} (x : KF a b) (y : KF b c) : KF a c := fun q => x (y q)
theorem KF_fr {S : CL} {h c : HS} (f : Fr S h c) (n : (0, 5, 0) ∉ S) : KF h c := fun q => by rw [← f.1 5 0 n]; exact q
theorem kf_f_X2_fail (h : HS) (p1 : Int32) : pk (f_X2_fail h p1) (fun a => KF h a) := by
  unfold f_X2_fail f_X2_fail_20
  refine pk_if (fun c => ?_) (fun c => pk_some (KF_refl h))
  exact pk_ob2 (P := fun _ => True) (fun _ _ => trivial) (fun _ _ _ => pk_some (fun _ => c))
theorem kf_f_X2_expect (h : HS) (p1 : Int32) : pk (f_X2_expect h p1) (fun a => KF h a) := by
  unfold f_X2_expect
  refine pk_if (fun _ => ?_) (fun _ => ?_)
  · refine pk_ob2 (pk_mono (w_f_X7_kind h) (fun _ k => KF_fr k (by decide))) (fun r_2 h_2 k_1 => ?_)
    replace k_1 := KF_trans (KF_refl h) k_1
    refine pk_if (fun _ => ?_) (fun _ => ?_)
    · refine pk_ob1 (pk_mono (w_f_X7_advance h_2) (fun _ k => KF_fr k (by decide))) (fun h_5 k_2 => ?_)
      replace k_2 := KF_trans k_1 k_2
      exact pk_mono (pk_mono (w_f_X2_expect_29 h_5) (fun _ k => KF_fr k (by decide))) (fun _ k => KF_trans k_2 k)
    · refine pk_ob1 (kf_f_X2_fail h_2 1) (fun h_4 k_3 => ?_)
      replace k_3 := KF_trans k_1 k_3
      exact pk_mono (pk_mono (w_f_X2_expect_29 h_4) (fun _ k => KF_fr k (by decide))) (fun _ k => KF_trans k_3 k)
  · exact pk_some (KF_refl h)
theorem kf_f_X2_opens (h : HS) (p1 : Int32) : pk (f_X2_opens h p1) (fun a => KF h a.2) := by
  unfold f_X2_opens
  refine pk_if (fun _ => ?_) (fun _ => ?_)
  · refine pk_ob1 (pk_mono (w_f_X7_advance h) (fun _ k => KF_fr k (by decide))) (fun h_2 k_1 => ?_)
    replace k_1 := KF_trans (KF_refl h) k_1
    exact pk_some k_1
  · refine pk_ob1 (kf_f_X2_fail h 3) (fun h_3 k_2 => ?_)
    replace k_2 := KF_trans (KF_refl h) k_2
    exact pk_some k_2
theorem kf_f_X2_readValue_0 (h : HS) : pk (f_X2_readValue_0 h) (fun a => KF h a) := by
  unfold f_X2_readValue_0
  refine pk_ob2 (pk_mono (w_f_X7_value h) (fun _ k => KF_fr k (by decide))) (fun r_1 h_1 k_1 => ?_)
  replace k_1 := KF_trans (KF_refl h) k_1
  refine pk_if (fun _ => ?_) (fun _ => ?_)
  · refine pk_ob2 (pk_mono (w_f_X7_value h_1) (fun _ k => KF_fr k (by decide))) (fun r_3 h_3 k_2 => ?_)
    replace k_2 := KF_trans k_1 k_2
    refine pk_ob1 (pk_mono (w_f_X6_addStep_0 h_3 r_3) (fun _ k => KF_fr k (by decide))) (fun h_4 k_3 => ?_)
    replace k_3 := KF_trans k_2 k_3
    refine pk_ob1 (pk_mono (w_f_X7_advance h_4) (fun _ k => KF_fr k (by decide))) (fun h_5 k_4 => ?_)
    replace k_4 := KF_trans k_3 k_4
    exact pk_some k_4
  · refine pk_ob1 (kf_f_X2_fail h_1 2) (fun h_6 k_5 => ?_)
    replace k_5 := KF_trans k_1 k_5
    exact pk_some k_5
theorem kf_f_X2_readName_0 (h : HS) : pk (f_X2_readName_0 h) (fun a => KF h a) := by
  unfold f_X2_readName_0
  refine pk_ob2 (pk_mono (w_f_X7_kind h) (fun _ k => KF_fr k (by decide))) (fun r_1 h_1 k_1 => ?_)
  replace k_1 := KF_trans (KF_refl h) k_1
  refine pk_if (fun _ => ?_) (fun _ => ?_)
  · exact pk_mono (pk_mono (w_f_X2_readName_0_31 h_1) (fun _ k => KF_fr k (by decide))) (fun _ k => KF_trans k_1 k)
  · refine pk_if (fun _ => ?_) (fun _ => ?_)
    · exact pk_mono (pk_mono (w_f_X2_readName_0_31 h_1) (fun _ k => KF_fr k (by decide))) (fun _ k => KF_trans k_1 k)
    · refine pk_if (fun _ => ?_) (fun _ => ?_)
      · exact pk_mono (pk_mono (w_f_X2_readName_0_31 h_1) (fun _ k => KF_fr k (by decide))) (fun _ k => KF_trans k_1 k)
      · refine pk_ob1 (kf_f_X2_fail h_1 5) (fun h_5 k_2 => ?_)
        replace k_2 := KF_trans k_1 k_2
        exact pk_some k_2
theorem kf_f_X2_readNumber_0_43 (h : HS) : pk (f_X2_readNumber_0_43 h) (fun a => KF h a) := by
  unfold f_X2_readNumber_0_43
  refine pk_ob1 (kf_f_X2_fail h 2) (fun h_12 k_1 => ?_)
  replace k_1 := KF_trans (KF_refl h) k_1
  exact pk_mono (pk_mono (w_f_X2_readNumber_0_69 h_12) (fun _ k => KF_fr k (by decide))) (fun _ k => KF_trans k_1 k)
theorem kf_f_X2_readNumber_0 (h : HS) (p1 : Int32) (p2 : Int32) (p3 : Int32) : pk (f_X2_readNumber_0 h p1 p2 p3) (fun a => KF h a) := by
  unfold f_X2_readNumber_0
  refine pk_if (fun _ => ?_) (fun _ => ?_)
  · refine pk_ob2 (pk_mono (w_f_X7_kind h) (fun _ k => KF_fr k (by decide))) (fun r_2 h_2 k_1 => ?_)
    replace k_1 := KF_trans (KF_refl h) k_1
    refine pk_if (fun _ => ?_) (fun _ => ?_)
    · refine pk_ob2 (pk_mono (w_f_X7_value h_2) (fun _ k => KF_fr k (by decide))) (fun r_4 h_4 k_2 => ?_)
      replace k_2 := KF_trans k_1 k_2
      refine pk_if (fun _ => ?_) (fun _ => ?_)
      · exact pk_mono (kf_f_X2_readNumber_0_43 h_4) (fun _ k => KF_trans k_2 k)
      · refine pk_ob2 (pk_mono (w_f_X7_value h_4) (fun _ k => KF_fr k (by decide))) (fun r_6 h_6 k_3 => ?_)
        replace k_3 := KF_trans k_2 k_3
        refine pk_if (fun _ => ?_) (fun _ => ?_)
        · refine pk_ob2 (pk_mono (w_f_X7_value h_6) (fun _ k => KF_fr k (by decide))) (fun r_8 h_8 k_4 => ?_)
          replace k_4 := KF_trans k_3 k_4
          refine pk_ob1 (pk_mono (w_f_X6_setClause_0 h_8 (eI h_6 9 1) p1 r_8) (fun _ k => KF_fr k (by decide))) (fun h_9 k_5 => ?_)
          replace k_5 := KF_trans k_4 k_5
          refine pk_ob1 (pk_mono (w_f_X7_advance h_9) (fun _ k => KF_fr k (by decide))) (fun h_10 k_6 => ?_)
          replace k_6 := KF_trans k_5 k_6
          exact pk_mono (pk_mono (w_f_X2_readNumber_0_69 h_10) (fun _ k => KF_fr k (by decide))) (fun _ k => KF_trans k_6 k)
        · exact pk_mono (kf_f_X2_readNumber_0_43 h_6) (fun _ k => KF_trans k_3 k)
    · refine pk_ob1 (kf_f_X2_fail h_2 1) (fun h_11 k_7 => ?_)
      replace k_7 := KF_trans k_1 k_7
      exact pk_mono (pk_mono (w_f_X2_readNumber_0_69 h_11) (fun _ k => KF_fr k (by decide))) (fun _ k => KF_trans k_7 k)
  · exact pk_some (KF_refl h)
theorem kf_f_X2_readDeed_0 (h : HS) (p1 : Int32) : pk (f_X2_readDeed_0 h p1) (fun a => KF h a) := by
  unfold f_X2_readDeed_0
  refine pk_if (fun _ => ?_) (fun _ => ?_)
  · refine pk_ob1 (kf_f_X2_readNumber_0 h 1 1 99) (fun h_11 k_1 => ?_)
    replace k_1 := KF_trans (KF_refl h) k_1
    exact pk_some k_1
  · refine pk_ob1 (kf_f_X2_readNumber_0 h 1 0 9) (fun h_2 k_2 => ?_)
    replace k_2 := KF_trans (KF_refl h) k_2
    refine pk_if (fun _ => ?_) (fun _ => ?_)
    · refine pk_ob1 (kf_f_X2_expect h_2 24) (fun h_7 k_3 => ?_)
      replace k_3 := KF_trans k_2 k_3
      refine pk_ob1 (kf_f_X2_readNumber_0 h_7 2 0 5) (fun h_8 k_4 => ?_)
      replace k_4 := KF_trans k_3 k_4
      refine pk_ob1 (kf_f_X2_expect h_8 33) (fun h_9 k_5 => ?_)
      replace k_5 := KF_trans k_4 k_5
      refine pk_ob1 (kf_f_X2_readNumber_0 h_9 3 0 2) (fun h_10 k_6 => ?_)
      replace k_6 := KF_trans k_5 k_6
      exact pk_mono (pk_mono (w_f_X2_readDeed_0_90 h_10) (fun _ k => KF_fr k (by decide))) (fun _ k => KF_trans k_6 k)
    · refine pk_if (fun _ => ?_) (fun _ => ?_)
      · refine pk_ob1 (kf_f_X2_expect h_2 25) (fun h_5 k_7 => ?_)
        replace k_7 := KF_trans k_2 k_7
        refine pk_ob1 (kf_f_X2_readNumber_0 h_5 2 0 3) (fun h_6 k_8 => ?_)
        replace k_8 := KF_trans k_7 k_8
        exact pk_mono (pk_mono (w_f_X2_readDeed_0_90 h_6) (fun _ k => KF_fr k (by decide))) (fun _ k => KF_trans k_8 k)
      · exact pk_mono (pk_mono (w_f_X2_readDeed_0_90 h_2) (fun _ k => KF_fr k (by decide))) (fun _ k => KF_trans k_2 k)
theorem kf_f_X2_readLevel_0_105 (kR_X2_readLevel : HS → Int32 → Int32 → Option HS) (hk_kR_X2_readLevel : ∀ (h : HS) (x0 : Int32) (x1 : Int32), pk (kR_X2_readLevel h x0 x1) (fun a => KF h a)) (kR_X2_readAsk : HS → Int32 → Option HS) (hk_kR_X2_readAsk : ∀ (h : HS) (x0 : Int32), pk (kR_X2_readAsk h x0) (fun a => KF h a)) (kR_X2_readOne : HS → Int32 → Option HS) (hk_kR_X2_readOne : ∀ (h : HS) (x0 : Int32), pk (kR_X2_readOne h x0) (fun a => KF h a)) (h : HS) : pk (f_X2_readLevel_0_105 kR_X2_readLevel kR_X2_readAsk kR_X2_readOne h) (fun a => KF h a) := by
  unfold f_X2_readLevel_0_105
  exact pk_some (KF_refl h)
theorem kf_f_X2_readLevel_0_42 (kR_X2_readLevel : HS → Int32 → Int32 → Option HS) (hk_kR_X2_readLevel : ∀ (h : HS) (x0 : Int32) (x1 : Int32), pk (kR_X2_readLevel h x0 x1) (fun a => KF h a)) (kR_X2_readAsk : HS → Int32 → Option HS) (hk_kR_X2_readAsk : ∀ (h : HS) (x0 : Int32), pk (kR_X2_readAsk h x0) (fun a => KF h a)) (kR_X2_readOne : HS → Int32 → Option HS) (hk_kR_X2_readOne : ∀ (h : HS) (x0 : Int32), pk (kR_X2_readOne h x0) (fun a => KF h a)) : ∀ (n : Nat) (h : HS) (x3 : Int32) (x4 : Int32) (x5 : Int32), pk (f_X2_readLevel_0_42 kR_X2_readLevel kR_X2_readAsk kR_X2_readOne n h x3 x4 x5) (fun a => KF h a) := by
  intro n
  induction n with
  | zero => intro h x3 x4 x5; exact pk_none
  | succ n ih =>
    intro h x3 x4 x5
    rw [f_X2_readLevel_0_42_s]
    refine pk_if (fun _ => ?_) (fun _ => ?_)
    · exact pk_mono (kf_f_X2_readLevel_0_105 kR_X2_readLevel hk_kR_X2_readLevel kR_X2_readAsk hk_kR_X2_readAsk kR_X2_readOne hk_kR_X2_readOne h) (fun _ k => KF_trans (KF_refl h) k)
    · refine pk_if (fun _ => ?_) (fun _ => ?_)
      · refine pk_ob2 (pk_mono (w_f_X7_kind h) (fun _ k => KF_fr k (by decide))) (fun r_8 h_8 k_1 => ?_)
        replace k_1 := KF_trans (KF_refl h) k_1
        refine pk_obf (fun r_9 => ?_)
        refine pk_if (fun _ => ?_) (fun _ => ?_)
        · refine pk_ob2 (pk_mono (w_f_X7_kind h_8) (fun _ k => KF_fr k (by decide))) (fun r_11 h_11 k_2 => ?_)
          replace k_2 := KF_trans k_1 k_2
          refine pk_ob1 (pk_mono (w_f_X7_advance h_11) (fun _ k => KF_fr k (by decide))) (fun h_12 k_3 => ?_)
          replace k_3 := KF_trans k_2 k_3
          refine pk_ob1 (hk_kR_X2_readLevel h_12 (x3 + 1) x4) (fun h_13 k_4 => ?_)
          replace k_4 := KF_trans k_3 k_4
          refine pk_ob1 (pk_mono (w_f_X6_addStep_0 h_13 (20000 + r_11)) (fun _ k => KF_fr k (by decide))) (fun h_14 k_5 => ?_)
          replace k_5 := KF_trans k_4 k_5
          exact pk_mono (ih h_14 x3 x4 (x5 + 1)) (fun _ k => KF_trans k_5 k)
        · exact pk_mono (kf_f_X2_readLevel_0_105 kR_X2_readLevel hk_kR_X2_readLevel kR_X2_readAsk hk_kR_X2_readAsk kR_X2_readOne hk_kR_X2_readOne h_8) (fun _ k => KF_trans k_1 k)
      · exact pk_mono (kf_f_X2_readLevel_0_105 kR_X2_readLevel hk_kR_X2_readLevel kR_X2_readAsk hk_kR_X2_readAsk kR_X2_readOne hk_kR_X2_readOne h) (fun _ k => KF_trans (KF_refl h) k)
theorem kf_f_X2_readLevel_0_b (kR_X2_readLevel : HS → Int32 → Int32 → Option HS) (hk_kR_X2_readLevel : ∀ (h : HS) (x0 : Int32) (x1 : Int32), pk (kR_X2_readLevel h x0 x1) (fun a => KF h a)) (kR_X2_readAsk : HS → Int32 → Option HS) (hk_kR_X2_readAsk : ∀ (h : HS) (x0 : Int32), pk (kR_X2_readAsk h x0) (fun a => KF h a)) (kR_X2_readOne : HS → Int32 → Option HS) (hk_kR_X2_readOne : ∀ (h : HS) (x0 : Int32), pk (kR_X2_readOne h x0) (fun a => KF h a)) (h : HS) (p1 : Int32) (p2 : Int32) : pk (f_X2_readLevel_0_b kR_X2_readLevel kR_X2_readAsk kR_X2_readOne h p1 p2) (fun a => KF h a) := by
  unfold f_X2_readLevel_0_b
  refine pk_if (fun _ => ?_) (fun _ => ?_)
  · refine pk_ob1 (hk_kR_X2_readAsk h p2) (fun h_5 k_1 => ?_)
    replace k_1 := KF_trans (KF_refl h) k_1
    exact pk_some k_1
  · refine pk_if (fun _ => ?_) (fun _ => ?_)
    · refine pk_ob1 (hk_kR_X2_readOne h p2) (fun h_4 k_2 => ?_)
      replace k_2 := KF_trans (KF_refl h) k_2
      exact pk_some k_2
    · refine pk_ob1 (hk_kR_X2_readLevel h (p1 + 1) p2) (fun h_3 k_3 => ?_)
      replace k_3 := KF_trans (KF_refl h) k_3
      exact pk_mono (kf_f_X2_readLevel_0_42 kR_X2_readLevel hk_kR_X2_readLevel kR_X2_readAsk hk_kR_X2_readAsk kR_X2_readOne hk_kR_X2_readOne 8589934592 h_3 p1 p2 0) (fun _ k => KF_trans k_3 k)
theorem kf_f_X2_readAsk_0_97 (kR_X2_readLevel : HS → Int32 → Int32 → Option HS) (hk_kR_X2_readLevel : ∀ (h : HS) (x0 : Int32) (x1 : Int32), pk (kR_X2_readLevel h x0 x1) (fun a => KF h a)) (kR_X2_readAsk : HS → Int32 → Option HS) (hk_kR_X2_readAsk : ∀ (h : HS) (x0 : Int32), pk (kR_X2_readAsk h x0) (fun a => KF h a)) (kR_X2_readOne : HS → Int32 → Option HS) (hk_kR_X2_readOne : ∀ (h : HS) (x0 : Int32), pk (kR_X2_readOne h x0) (fun a => KF h a)) (h : HS) : pk (f_X2_readAsk_0_97 kR_X2_readLevel kR_X2_readAsk kR_X2_readOne h) (fun a => KF h a) := by
  unfold f_X2_readAsk_0_97
  exact pk_some (KF_refl h)
theorem kf_f_X2_readAsk_0_68 (kR_X2_readLevel : HS → Int32 → Int32 → Option HS) (hk_kR_X2_readLevel : ∀ (h : HS) (x0 : Int32) (x1 : Int32), pk (kR_X2_readLevel h x0 x1) (fun a => KF h a)) (kR_X2_readAsk : HS → Int32 → Option HS) (hk_kR_X2_readAsk : ∀ (h : HS) (x0 : Int32), pk (kR_X2_readAsk h x0) (fun a => KF h a)) (kR_X2_readOne : HS → Int32 → Option HS) (hk_kR_X2_readOne : ∀ (h : HS) (x0 : Int32), pk (kR_X2_readOne h x0) (fun a => KF h a)) (h : HS) (x3 : Int32) (x4 : Int32) : pk (f_X2_readAsk_0_68 kR_X2_readLevel kR_X2_readAsk kR_X2_readOne h x3 x4) (fun a => KF h a) := by
  unfold f_X2_readAsk_0_68
  refine pk_if (fun _ => ?_) (fun _ => ?_)
  · refine pk_ob1 (pk_mono (w_f_X7_advance h) (fun _ k => KF_fr k (by decide))) (fun h_13 k_1 => ?_)
    replace k_1 := KF_trans (KF_refl h) k_1
    refine pk_ob1 (hk_kR_X2_readLevel h_13 3 x3) (fun h_14 k_2 => ?_)
    replace k_2 := KF_trans k_1 k_2
    refine pk_ob1 (pk_mono (w_f_X6_addStep_0 h_14 (20000 + x4)) (fun _ k => KF_fr k (by decide))) (fun h_15 k_3 => ?_)
    replace k_3 := KF_trans k_2 k_3
    exact pk_mono (kf_f_X2_readAsk_0_97 kR_X2_readLevel hk_kR_X2_readLevel kR_X2_readAsk hk_kR_X2_readAsk kR_X2_readOne hk_kR_X2_readOne h_15) (fun _ k => KF_trans k_3 k)
  · exact pk_mono (kf_f_X2_readAsk_0_97 kR_X2_readLevel hk_kR_X2_readLevel kR_X2_readAsk hk_kR_X2_readAsk kR_X2_readOne hk_kR_X2_readOne h) (fun _ k => KF_trans (KF_refl h) k)
theorem kf_f_X2_readAsk_0_62 (kR_X2_readLevel : HS → Int32 → Int32 → Option HS) (hk_kR_X2_readLevel : ∀ (h : HS) (x0 : Int32) (x1 : Int32), pk (kR_X2_readLevel h x0 x1) (fun a => KF h a)) (kR_X2_readAsk : HS → Int32 → Option HS) (hk_kR_X2_readAsk : ∀ (h : HS) (x0 : Int32), pk (kR_X2_readAsk h x0) (fun a => KF h a)) (kR_X2_readOne : HS → Int32 → Option HS) (hk_kR_X2_readOne : ∀ (h : HS) (x0 : Int32), pk (kR_X2_readOne h x0) (fun a => KF h a)) (h : HS) (x3 : Int32) (x4 : Int32) : pk (f_X2_readAsk_0_62 kR_X2_readLevel kR_X2_readAsk kR_X2_readOne h x3 x4) (fun a => KF h a) := by
  unfold f_X2_readAsk_0_62
  refine pk_ob1 (kf_f_X2_fail h 1) (fun h_11 k_1 => ?_)
  replace k_1 := KF_trans (KF_refl h) k_1
  exact pk_mono (kf_f_X2_readAsk_0_68 kR_X2_readLevel hk_kR_X2_readLevel kR_X2_readAsk hk_kR_X2_readAsk kR_X2_readOne hk_kR_X2_readOne h_11 x3 x4) (fun _ k => KF_trans k_1 k)
theorem kf_f_X2_readAsk_0_34 (kR_X2_readLevel : HS → Int32 → Int32 → Option HS) (hk_kR_X2_readLevel : ∀ (h : HS) (x0 : Int32) (x1 : Int32), pk (kR_X2_readLevel h x0 x1) (fun a => KF h a)) (kR_X2_readAsk : HS → Int32 → Option HS) (hk_kR_X2_readAsk : ∀ (h : HS) (x0 : Int32), pk (kR_X2_readAsk h x0) (fun a => KF h a)) (kR_X2_readOne : HS → Int32 → Option HS) (hk_kR_X2_readOne : ∀ (h : HS) (x0 : Int32), pk (kR_X2_readOne h x0) (fun a => KF h a)) (h : HS) : pk (f_X2_readAsk_0_34 kR_X2_readLevel kR_X2_readAsk kR_X2_readOne h) (fun a => KF h a) := by
  unfold f_X2_readAsk_0_34
  exact pk_some (KF_refl h)
theorem kf_f_X2_readAsk_0_b (kR_X2_readLevel : HS → Int32 → Int32 → Option HS) (hk_kR_X2_readLevel : ∀ (h : HS) (x0 : Int32) (x1 : Int32), pk (kR_X2_readLevel h x0 x1) (fun a => KF h a)) (kR_X2_readAsk : HS → Int32 → Option HS) (hk_kR_X2_readAsk : ∀ (h : HS) (x0 : Int32), pk (kR_X2_readAsk h x0) (fun a => KF h a)) (kR_X2_readOne : HS → Int32 → Option HS) (hk_kR_X2_readOne : ∀ (h : HS) (x0 : Int32), pk (kR_X2_readOne h x0) (fun a => KF h a)) (h : HS) (p1 : Int32) : pk (f_X2_readAsk_0_b kR_X2_readLevel kR_X2_readAsk kR_X2_readOne h p1) (fun a => KF h a) := by
  unfold f_X2_readAsk_0_b
  refine pk_ob2 (pk_mono (w_f_X7_kind h) (fun _ k => KF_fr k (by decide))) (fun r_1 h_1 k_1 => ?_)
  replace k_1 := KF_trans (KF_refl h) k_1
  refine pk_if (fun _ => ?_) (fun _ => ?_)
  · refine pk_ob2 (kf_f_X2_opens h_1 p1) (fun r_7 h_7 k_2 => ?_)
    replace k_2 := KF_trans k_1 k_2
    refine pk_if (fun _ => ?_) (fun _ => ?_)
    · exact pk_mono (kf_f_X2_readAsk_0_34 kR_X2_readLevel hk_kR_X2_readLevel kR_X2_readAsk hk_kR_X2_readAsk kR_X2_readOne hk_kR_X2_readOne h_7) (fun _ k => KF_trans k_2 k)
    · refine pk_ob1 (hk_kR_X2_readAsk h_7 (p1 + 1)) (fun h_9 k_3 => ?_)
      replace k_3 := KF_trans k_2 k_3
      refine pk_ob1 (pk_mono (w_f_X6_addStep_0 h_9 20028) (fun _ k => KF_fr k (by decide))) (fun h_10 k_4 => ?_)
      replace k_4 := KF_trans k_3 k_4
      exact pk_mono (kf_f_X2_readAsk_0_34 kR_X2_readLevel hk_kR_X2_readLevel kR_X2_readAsk hk_kR_X2_readAsk kR_X2_readOne hk_kR_X2_readOne h_10) (fun _ k => KF_trans k_4 k)
  · refine pk_ob1 (hk_kR_X2_readLevel h_1 3 p1) (fun h_3 k_5 => ?_)
    replace k_5 := KF_trans k_1 k_5
    refine pk_ob2 (pk_mono (w_f_X7_kind h_3) (fun _ k => KF_fr k (by decide))) (fun r_4 h_4 k_6 => ?_)
    replace k_6 := KF_trans k_5 k_6
    refine pk_if (fun _ => ?_) (fun _ => ?_)
    · exact pk_mono (kf_f_X2_readAsk_0_62 kR_X2_readLevel hk_kR_X2_readLevel kR_X2_readAsk hk_kR_X2_readAsk kR_X2_readOne hk_kR_X2_readOne h_4 p1 r_4) (fun _ k => KF_trans k_6 k)
    · refine pk_if (fun _ => ?_) (fun _ => ?_)
      · exact pk_mono (kf_f_X2_readAsk_0_68 kR_X2_readLevel hk_kR_X2_readLevel kR_X2_readAsk hk_kR_X2_readAsk kR_X2_readOne hk_kR_X2_readOne h_4 p1 r_4) (fun _ k => KF_trans k_6 k)
      · exact pk_mono (kf_f_X2_readAsk_0_62 kR_X2_readLevel hk_kR_X2_readLevel kR_X2_readAsk hk_kR_X2_readAsk kR_X2_readOne hk_kR_X2_readOne h_4 p1 r_4) (fun _ k => KF_trans k_6 k)
theorem kf_f_X2_readOne_0_121 (kR_X2_readLevel : HS → Int32 → Int32 → Option HS) (hk_kR_X2_readLevel : ∀ (h : HS) (x0 : Int32) (x1 : Int32), pk (kR_X2_readLevel h x0 x1) (fun a => KF h a)) (kR_X2_readAsk : HS → Int32 → Option HS) (hk_kR_X2_readAsk : ∀ (h : HS) (x0 : Int32), pk (kR_X2_readAsk h x0) (fun a => KF h a)) (kR_X2_readOne : HS → Int32 → Option HS) (hk_kR_X2_readOne : ∀ (h : HS) (x0 : Int32), pk (kR_X2_readOne h x0) (fun a => KF h a)) (h : HS) : pk (f_X2_readOne_0_121 kR_X2_readLevel kR_X2_readAsk kR_X2_readOne h) (fun a => KF h a) := by
  unfold f_X2_readOne_0_121
  exact pk_some (KF_refl h)
theorem kf_f_X2_readOne_0_44 (kR_X2_readLevel : HS → Int32 → Int32 → Option HS) (hk_kR_X2_readLevel : ∀ (h : HS) (x0 : Int32) (x1 : Int32), pk (kR_X2_readLevel h x0 x1) (fun a => KF h a)) (kR_X2_readAsk : HS → Int32 → Option HS) (hk_kR_X2_readAsk : ∀ (h : HS) (x0 : Int32), pk (kR_X2_readAsk h x0) (fun a => KF h a)) (kR_X2_readOne : HS → Int32 → Option HS) (hk_kR_X2_readOne : ∀ (h : HS) (x0 : Int32), pk (kR_X2_readOne h x0) (fun a => KF h a)) (h : HS) (x3 : Int32) (x4 : Int32) : pk (f_X2_readOne_0_44 kR_X2_readLevel kR_X2_readAsk kR_X2_readOne h x3 x4) (fun a => KF h a) := by
  unfold f_X2_readOne_0_44
  refine pk_if (fun _ => ?_) (fun _ => ?_)
  · refine pk_ob2 (kf_f_X2_opens h x3) (fun r_14 h_14 k_1 => ?_)
    replace k_1 := KF_trans (KF_refl h) k_1
    refine pk_if (fun _ => ?_) (fun _ => ?_)
    · exact pk_mono (kf_f_X2_readOne_0_121 kR_X2_readLevel hk_kR_X2_readLevel kR_X2_readAsk hk_kR_X2_readAsk kR_X2_readOne hk_kR_X2_readOne h_14) (fun _ k => KF_trans k_1 k)
    · refine pk_ob1 (hk_kR_X2_readLevel h_14 3 (x3 + 1)) (fun h_16 k_2 => ?_)
      replace k_2 := KF_trans k_1 k_2
      refine pk_ob1 (kf_f_X2_expect h_16 14) (fun h_17 k_3 => ?_)
      replace k_3 := KF_trans k_2 k_3
      exact pk_mono (kf_f_X2_readOne_0_121 kR_X2_readLevel hk_kR_X2_readLevel kR_X2_readAsk hk_kR_X2_readAsk kR_X2_readOne hk_kR_X2_readOne h_17) (fun _ k => KF_trans k_3 k)
  · refine pk_if (fun _ => ?_) (fun _ => ?_)
    · refine pk_ob2 (kf_f_X2_opens h x3) (fun r_10 h_10 k_4 => ?_)
      replace k_4 := KF_trans (KF_refl h) k_4
      refine pk_if (fun _ => ?_) (fun _ => ?_)
      · exact pk_mono (kf_f_X2_readOne_0_121 kR_X2_readLevel hk_kR_X2_readLevel kR_X2_readAsk hk_kR_X2_readAsk kR_X2_readOne hk_kR_X2_readOne h_10) (fun _ k => KF_trans k_4 k)
      · refine pk_ob1 (hk_kR_X2_readOne h_10 (x3 + 1)) (fun h_12 k_5 => ?_)
        replace k_5 := KF_trans k_4 k_5
        refine pk_ob1 (pk_mono (w_f_X6_addStep_0 h_12 20038) (fun _ k => KF_fr k (by decide))) (fun h_13 k_6 => ?_)
        replace k_6 := KF_trans k_5 k_6
        exact pk_mono (kf_f_X2_readOne_0_121 kR_X2_readLevel hk_kR_X2_readLevel kR_X2_readAsk hk_kR_X2_readAsk kR_X2_readOne hk_kR_X2_readOne h_13) (fun _ k => KF_trans k_6 k)
    · refine pk_ob1 (kf_f_X2_fail h 1) (fun h_9 k_7 => ?_)
      replace k_7 := KF_trans (KF_refl h) k_7
      exact pk_mono (kf_f_X2_readOne_0_121 kR_X2_readLevel hk_kR_X2_readLevel kR_X2_readAsk hk_kR_X2_readAsk kR_X2_readOne hk_kR_X2_readOne h_9) (fun _ k => KF_trans k_7 k)
theorem kf_f_X2_readOne_0_b (kR_X2_readLevel : HS → Int32 → Int32 → Option HS) (hk_kR_X2_readLevel : ∀ (h : HS) (x0 : Int32) (x1 : Int32), pk (kR_X2_readLevel h x0 x1) (fun a => KF h a)) (kR_X2_readAsk : HS → Int32 → Option HS) (hk_kR_X2_readAsk : ∀ (h : HS) (x0 : Int32), pk (kR_X2_readAsk h x0) (fun a => KF h a)) (kR_X2_readOne : HS → Int32 → Option HS) (hk_kR_X2_readOne : ∀ (h : HS) (x0 : Int32), pk (kR_X2_readOne h x0) (fun a => KF h a)) (h : HS) (p1 : Int32) : pk (f_X2_readOne_0_b kR_X2_readLevel kR_X2_readAsk kR_X2_readOne h p1) (fun a => KF h a) := by
  unfold f_X2_readOne_0_b
  refine pk_ob2 (pk_mono (w_f_X7_kind h) (fun _ k => KF_fr k (by decide))) (fun r_1 h_1 k_1 => ?_)
  replace k_1 := KF_trans (KF_refl h) k_1
  refine pk_if (fun _ => ?_) (fun _ => ?_)
  · refine pk_ob1 (kf_f_X2_readValue_0 h_1) (fun h_6 k_2 => ?_)
    replace k_2 := KF_trans k_1 k_2
    exact pk_mono (kf_f_X2_readOne_0_121 kR_X2_readLevel hk_kR_X2_readLevel kR_X2_readAsk hk_kR_X2_readAsk kR_X2_readOne hk_kR_X2_readOne h_6) (fun _ k => KF_trans k_2 k)
  · refine pk_if (fun _ => ?_) (fun _ => ?_)
    · exact pk_mono (kf_f_X2_readOne_0_44 kR_X2_readLevel hk_kR_X2_readLevel kR_X2_readAsk hk_kR_X2_readAsk kR_X2_readOne hk_kR_X2_readOne h_1 p1 r_1) (fun _ k => KF_trans k_1 k)
    · refine pk_if (fun _ => ?_) (fun _ => ?_)
      · exact pk_mono (kf_f_X2_readOne_0_44 kR_X2_readLevel hk_kR_X2_readLevel kR_X2_readAsk hk_kR_X2_readAsk kR_X2_readOne hk_kR_X2_readOne h_1 p1 r_1) (fun _ k => KF_trans k_1 k)
      · refine pk_ob1 (kf_f_X2_readName_0 h_1) (fun h_5 k_3 => ?_)
        replace k_3 := KF_trans k_1 k_3
        exact pk_mono (kf_f_X2_readOne_0_121 kR_X2_readLevel hk_kR_X2_readLevel kR_X2_readAsk hk_kR_X2_readAsk kR_X2_readOne hk_kR_X2_readOne h_5) (fun _ k => KF_trans k_3 k)
theorem kf_G_read_0 : ∀ (n t : Nat) (h : HS) (p1 p2 : Int32), pk (G_read_0 n t h p1 p2) (fun a => KF h a) := by
  intro n
  induction n with
  | zero => intro t h p1 p2; exact (by simp [G_read_0]; exact pk_none)
  | succ n ih =>
    intro t h p1 p2
    match t with
    | 0 => exact kf_f_X2_readLevel_0_b (fun h p1 p2 => G_read_0 n 0 h p1 p2) (fun h p1 p2 => ih 0 h p1 p2) (fun h p1 => G_read_0 n 1 h p1 0) (fun h p1 => ih 1 h p1 0) (fun h p1 => G_read_0 n 2 h p1 0) (fun h p1 => ih 2 h p1 0) h p1 p2
    | 1 => exact kf_f_X2_readAsk_0_b (fun h p1 p2 => G_read_0 n 0 h p1 p2) (fun h p1 p2 => ih 0 h p1 p2) (fun h p1 => G_read_0 n 1 h p1 0) (fun h p1 => ih 1 h p1 0) (fun h p1 => G_read_0 n 2 h p1 0) (fun h p1 => ih 2 h p1 0) h p1
    | t + 2 => exact kf_f_X2_readOne_0_b (fun h p1 p2 => G_read_0 n 0 h p1 p2) (fun h p1 p2 => ih 0 h p1 p2) (fun h p1 => G_read_0 n 1 h p1 0) (fun h p1 => ih 1 h p1 0) (fun h p1 => G_read_0 n 2 h p1 0) (fun h p1 => ih 2 h p1 0) h p1
theorem kf_f_X2_readClause_0_25 (h : HS) : pk (f_X2_readClause_0_25 h) (fun a => KF h a) := by
  unfold f_X2_readClause_0_25
  refine pk_ob1 (kf_f_X2_fail h 1) (fun h_15 k_1 => ?_)
  replace k_1 := KF_trans (KF_refl h) k_1
  exact pk_mono (pk_mono (w_f_X2_readClause_0_158 h_15) (fun _ k => KF_fr k (by decide))) (fun _ k => KF_trans k_1 k)
theorem kf_f_X2_readClause_0_141 (h : HS) : pk (f_X2_readClause_0_141 h) (fun a => KF h a) := by
  unfold f_X2_readClause_0_141
  refine pk_ob1 (kf_f_X2_expect h 15) (fun h_16 k_1 => ?_)
  replace k_1 := KF_trans (KF_refl h) k_1
  exact pk_mono (pk_mono (w_f_X2_readClause_0_158 (sI h_16 9 1 ((eI h_16 9 1) + 1))) (fun _ k => KF_fr k (by decide))) (fun _ k => KF_trans (KF_trans k_1 (KF_fr (Fr_sI (S := [(0, 9, 1)]) (by decide) (Fr_refl _ _)) (by decide))) k)
theorem kf_f_X2_readClause_0_119 (h : HS) (y0 : Int32) : pk (f_X2_readClause_0_119 h y0) (fun a => KF h a) := by
  unfold f_X2_readClause_0_119
  refine pk_ob1 (kf_G_read_0 200 0 h y0 0) (fun h_17 k_1 => ?_)
  replace k_1 := KF_trans (KF_refl h) k_1
  refine pk_ob1 (pk_mono (w_f_X6_closeLaw_0 h_17 (eI h_17 5 2)) (fun _ k => KF_fr k (by decide))) (fun h_18 k_2 => ?_)
  replace k_2 := KF_trans k_1 k_2
  exact pk_mono (kf_f_X2_readClause_0_141 h_18) (fun _ k => KF_trans k_2 k)
theorem kf_f_X2_readClause_0 (h : HS) : pk (f_X2_readClause_0 h) (fun a => KF h a) := by
  unfold f_X2_readClause_0
  refine pk_ob2 (pk_mono (w_f_X7_kind h) (fun _ k => KF_fr k (by decide))) (fun r_1 h_1 k_1 => ?_)
  replace k_1 := KF_trans (KF_refl h) k_1
  refine pk_if (fun _ => ?_) (fun _ => ?_)
  · exact pk_mono (kf_f_X2_readClause_0_25 (sI h_1 5 2 (r_1 - 16))) (fun _ k => KF_trans (KF_trans k_1 (KF_fr (Fr_sI (S := [(0, 5, 2)]) (by decide) (Fr_refl _ _)) (by decide))) k)
  · refine pk_if (fun _ => ?_) (fun _ => ?_)
    · refine pk_ob2 (pk_mono (w_f_X6_hasLaw_0 (sI h_1 5 2 (r_1 - 16)) (r_1 - 16)) (fun _ k => KF_fr k (by decide))) (fun r_4 h_4 k_2 => ?_)
      replace k_2 := KF_trans (KF_trans k_1 (KF_fr (Fr_sI (S := [(0, 5, 2)]) (by decide) (Fr_refl _ _)) (by decide))) k_2
      refine pk_if (fun _ => ?_) (fun _ => ?_)
      · refine pk_if (fun _ => ?_) (fun _ => ?_)
        · refine pk_ob1 (pk_mono (w_f_X6_setClause_0 h_4 (eI h_4 9 1) 0 r_1) (fun _ k => KF_fr k (by decide))) (fun h_7 k_3 => ?_)
          replace k_3 := KF_trans k_2 k_3
          refine pk_ob1 (pk_mono (w_f_X7_advance h_7) (fun _ k => KF_fr k (by decide))) (fun h_8 k_4 => ?_)
          replace k_4 := KF_trans k_3 k_4
          refine pk_if (fun _ => ?_) (fun _ => ?_)
          · refine pk_ob1 (kf_f_X2_readDeed_0 h_8 r_1) (fun h_10 k_5 => ?_)
            replace k_5 := KF_trans k_4 k_5
            exact pk_mono (kf_f_X2_readClause_0_141 h_10) (fun _ k => KF_trans k_5 k)
          · refine pk_ob1 (pk_mono (w_f_X6_beginLaw_0 h_8 (eI h_8 5 2)) (fun _ k => KF_fr k (by decide))) (fun h_11 k_6 => ?_)
            replace k_6 := KF_trans k_4 k_6
            refine pk_if (fun _ => ?_) (fun _ => ?_)
            · exact pk_mono (kf_f_X2_readClause_0_119 h_11 0) (fun _ k => KF_trans k_6 k)
            · exact pk_mono (kf_f_X2_readClause_0_119 h_11 3) (fun _ k => KF_trans k_6 k)
        · refine pk_ob1 (kf_f_X2_fail h_4 6) (fun h_13 k_7 => ?_)
          replace k_7 := KF_trans k_2 k_7
          exact pk_mono (pk_mono (w_f_X2_readClause_0_158 h_13) (fun _ k => KF_fr k (by decide))) (fun _ k => KF_trans k_7 k)
      · refine pk_ob1 (kf_f_X2_fail h_4 4) (fun h_14 k_8 => ?_)
        replace k_8 := KF_trans k_2 k_8
        exact pk_mono (pk_mono (w_f_X2_readClause_0_158 h_14) (fun _ k => KF_fr k (by decide))) (fun _ k => KF_trans k_8 k)
    · exact pk_mono (kf_f_X2_readClause_0_25 (sI h_1 5 2 (r_1 - 16))) (fun _ k => KF_trans (KF_trans k_1 (KF_fr (Fr_sI (S := [(0, 5, 2)]) (by decide) (Fr_refl _ _)) (by decide))) k)
theorem kf_f_X2_readValue_1 (h : HS) : pk (f_X2_readValue_1 h) (fun a => KF h a) := by
  unfold f_X2_readValue_1
  refine pk_ob2 (pk_mono (w_f_X7_value h) (fun _ k => KF_fr k (by decide))) (fun r_1 h_1 k_1 => ?_)
  replace k_1 := KF_trans (KF_refl h) k_1
  refine pk_if (fun _ => ?_) (fun _ => ?_)
  · refine pk_ob2 (pk_mono (w_f_X7_value h_1) (fun _ k => KF_fr k (by decide))) (fun r_3 h_3 k_2 => ?_)
    replace k_2 := KF_trans k_1 k_2
    refine pk_ob1 (pk_mono (w_f_X6_addStep_1 h_3 r_3) (fun _ k => KF_fr k (by decide))) (fun h_4 k_3 => ?_)
    replace k_3 := KF_trans k_2 k_3
    refine pk_ob1 (pk_mono (w_f_X7_advance h_4) (fun _ k => KF_fr k (by decide))) (fun h_5 k_4 => ?_)
    replace k_4 := KF_trans k_3 k_4
    exact pk_some k_4
  · refine pk_ob1 (kf_f_X2_fail h_1 2) (fun h_6 k_5 => ?_)
    replace k_5 := KF_trans k_1 k_5
    exact pk_some k_5
theorem kf_f_X2_readName_1 (h : HS) : pk (f_X2_readName_1 h) (fun a => KF h a) := by
  unfold f_X2_readName_1
  refine pk_ob2 (pk_mono (w_f_X7_kind h) (fun _ k => KF_fr k (by decide))) (fun r_1 h_1 k_1 => ?_)
  replace k_1 := KF_trans (KF_refl h) k_1
  refine pk_if (fun _ => ?_) (fun _ => ?_)
  · exact pk_mono (pk_mono (w_f_X2_readName_1_31 h_1) (fun _ k => KF_fr k (by decide))) (fun _ k => KF_trans k_1 k)
  · refine pk_if (fun _ => ?_) (fun _ => ?_)
    · exact pk_mono (pk_mono (w_f_X2_readName_1_31 h_1) (fun _ k => KF_fr k (by decide))) (fun _ k => KF_trans k_1 k)
    · refine pk_if (fun _ => ?_) (fun _ => ?_)
      · exact pk_mono (pk_mono (w_f_X2_readName_1_31 h_1) (fun _ k => KF_fr k (by decide))) (fun _ k => KF_trans k_1 k)
      · refine pk_ob1 (kf_f_X2_fail h_1 5) (fun h_5 k_2 => ?_)
        replace k_2 := KF_trans k_1 k_2
        exact pk_some k_2
theorem kf_f_X2_readNumber_1_43 (h : HS) : pk (f_X2_readNumber_1_43 h) (fun a => KF h a) := by
  unfold f_X2_readNumber_1_43
  refine pk_ob1 (kf_f_X2_fail h 2) (fun h_12 k_1 => ?_)
  replace k_1 := KF_trans (KF_refl h) k_1
  exact pk_mono (pk_mono (w_f_X2_readNumber_1_69 h_12) (fun _ k => KF_fr k (by decide))) (fun _ k => KF_trans k_1 k)
theorem kf_f_X2_readNumber_1 (h : HS) (p1 : Int32) (p2 : Int32) (p3 : Int32) : pk (f_X2_readNumber_1 h p1 p2 p3) (fun a => KF h a) := by
  unfold f_X2_readNumber_1
  refine pk_if (fun _ => ?_) (fun _ => ?_)
  · refine pk_ob2 (pk_mono (w_f_X7_kind h) (fun _ k => KF_fr k (by decide))) (fun r_2 h_2 k_1 => ?_)
    replace k_1 := KF_trans (KF_refl h) k_1
    refine pk_if (fun _ => ?_) (fun _ => ?_)
    · refine pk_ob2 (pk_mono (w_f_X7_value h_2) (fun _ k => KF_fr k (by decide))) (fun r_4 h_4 k_2 => ?_)
      replace k_2 := KF_trans k_1 k_2
      refine pk_if (fun _ => ?_) (fun _ => ?_)
      · exact pk_mono (kf_f_X2_readNumber_1_43 h_4) (fun _ k => KF_trans k_2 k)
      · refine pk_ob2 (pk_mono (w_f_X7_value h_4) (fun _ k => KF_fr k (by decide))) (fun r_6 h_6 k_3 => ?_)
        replace k_3 := KF_trans k_2 k_3
        refine pk_if (fun _ => ?_) (fun _ => ?_)
        · refine pk_ob2 (pk_mono (w_f_X7_value h_6) (fun _ k => KF_fr k (by decide))) (fun r_8 h_8 k_4 => ?_)
          replace k_4 := KF_trans k_3 k_4
          refine pk_ob1 (pk_mono (w_f_X6_setClause_1 h_8 (eI h_6 10 1) p1 r_8) (fun _ k => KF_fr k (by decide))) (fun h_9 k_5 => ?_)
          replace k_5 := KF_trans k_4 k_5
          refine pk_ob1 (pk_mono (w_f_X7_advance h_9) (fun _ k => KF_fr k (by decide))) (fun h_10 k_6 => ?_)
          replace k_6 := KF_trans k_5 k_6
          exact pk_mono (pk_mono (w_f_X2_readNumber_1_69 h_10) (fun _ k => KF_fr k (by decide))) (fun _ k => KF_trans k_6 k)
        · exact pk_mono (kf_f_X2_readNumber_1_43 h_6) (fun _ k => KF_trans k_3 k)
    · refine pk_ob1 (kf_f_X2_fail h_2 1) (fun h_11 k_7 => ?_)
      replace k_7 := KF_trans k_1 k_7
      exact pk_mono (pk_mono (w_f_X2_readNumber_1_69 h_11) (fun _ k => KF_fr k (by decide))) (fun _ k => KF_trans k_7 k)
  · exact pk_some (KF_refl h)
theorem kf_f_X2_readDeed_1 (h : HS) (p1 : Int32) : pk (f_X2_readDeed_1 h p1) (fun a => KF h a) := by
  unfold f_X2_readDeed_1
  refine pk_if (fun _ => ?_) (fun _ => ?_)
  · refine pk_ob1 (kf_f_X2_readNumber_1 h 1 1 99) (fun h_11 k_1 => ?_)
    replace k_1 := KF_trans (KF_refl h) k_1
    exact pk_some k_1
  · refine pk_ob1 (kf_f_X2_readNumber_1 h 1 0 9) (fun h_2 k_2 => ?_)
    replace k_2 := KF_trans (KF_refl h) k_2
    refine pk_if (fun _ => ?_) (fun _ => ?_)
    · refine pk_ob1 (kf_f_X2_expect h_2 24) (fun h_7 k_3 => ?_)
      replace k_3 := KF_trans k_2 k_3
      refine pk_ob1 (kf_f_X2_readNumber_1 h_7 2 0 5) (fun h_8 k_4 => ?_)
      replace k_4 := KF_trans k_3 k_4
      refine pk_ob1 (kf_f_X2_expect h_8 33) (fun h_9 k_5 => ?_)
      replace k_5 := KF_trans k_4 k_5
      refine pk_ob1 (kf_f_X2_readNumber_1 h_9 3 0 2) (fun h_10 k_6 => ?_)
      replace k_6 := KF_trans k_5 k_6
      exact pk_mono (pk_mono (w_f_X2_readDeed_1_90 h_10) (fun _ k => KF_fr k (by decide))) (fun _ k => KF_trans k_6 k)
    · refine pk_if (fun _ => ?_) (fun _ => ?_)
      · refine pk_ob1 (kf_f_X2_expect h_2 25) (fun h_5 k_7 => ?_)
        replace k_7 := KF_trans k_2 k_7
        refine pk_ob1 (kf_f_X2_readNumber_1 h_5 2 0 3) (fun h_6 k_8 => ?_)
        replace k_8 := KF_trans k_7 k_8
        exact pk_mono (pk_mono (w_f_X2_readDeed_1_90 h_6) (fun _ k => KF_fr k (by decide))) (fun _ k => KF_trans k_8 k)
      · exact pk_mono (pk_mono (w_f_X2_readDeed_1_90 h_2) (fun _ k => KF_fr k (by decide))) (fun _ k => KF_trans k_2 k)
theorem kf_f_X2_readLevel_1_105 (kR_X2_readLevel : HS → Int32 → Int32 → Option HS) (hk_kR_X2_readLevel : ∀ (h : HS) (x0 : Int32) (x1 : Int32), pk (kR_X2_readLevel h x0 x1) (fun a => KF h a)) (kR_X2_readAsk : HS → Int32 → Option HS) (hk_kR_X2_readAsk : ∀ (h : HS) (x0 : Int32), pk (kR_X2_readAsk h x0) (fun a => KF h a)) (kR_X2_readOne : HS → Int32 → Option HS) (hk_kR_X2_readOne : ∀ (h : HS) (x0 : Int32), pk (kR_X2_readOne h x0) (fun a => KF h a)) (h : HS) : pk (f_X2_readLevel_1_105 kR_X2_readLevel kR_X2_readAsk kR_X2_readOne h) (fun a => KF h a) := by
  unfold f_X2_readLevel_1_105
  exact pk_some (KF_refl h)
theorem kf_f_X2_readLevel_1_42 (kR_X2_readLevel : HS → Int32 → Int32 → Option HS) (hk_kR_X2_readLevel : ∀ (h : HS) (x0 : Int32) (x1 : Int32), pk (kR_X2_readLevel h x0 x1) (fun a => KF h a)) (kR_X2_readAsk : HS → Int32 → Option HS) (hk_kR_X2_readAsk : ∀ (h : HS) (x0 : Int32), pk (kR_X2_readAsk h x0) (fun a => KF h a)) (kR_X2_readOne : HS → Int32 → Option HS) (hk_kR_X2_readOne : ∀ (h : HS) (x0 : Int32), pk (kR_X2_readOne h x0) (fun a => KF h a)) : ∀ (n : Nat) (h : HS) (x3 : Int32) (x4 : Int32) (x5 : Int32), pk (f_X2_readLevel_1_42 kR_X2_readLevel kR_X2_readAsk kR_X2_readOne n h x3 x4 x5) (fun a => KF h a) := by
  intro n
  induction n with
  | zero => intro h x3 x4 x5; exact pk_none
  | succ n ih =>
    intro h x3 x4 x5
    rw [f_X2_readLevel_1_42_s]
    refine pk_if (fun _ => ?_) (fun _ => ?_)
    · exact pk_mono (kf_f_X2_readLevel_1_105 kR_X2_readLevel hk_kR_X2_readLevel kR_X2_readAsk hk_kR_X2_readAsk kR_X2_readOne hk_kR_X2_readOne h) (fun _ k => KF_trans (KF_refl h) k)
    · refine pk_if (fun _ => ?_) (fun _ => ?_)
      · refine pk_ob2 (pk_mono (w_f_X7_kind h) (fun _ k => KF_fr k (by decide))) (fun r_8 h_8 k_1 => ?_)
        replace k_1 := KF_trans (KF_refl h) k_1
        refine pk_obf (fun r_9 => ?_)
        refine pk_if (fun _ => ?_) (fun _ => ?_)
        · refine pk_ob2 (pk_mono (w_f_X7_kind h_8) (fun _ k => KF_fr k (by decide))) (fun r_11 h_11 k_2 => ?_)
          replace k_2 := KF_trans k_1 k_2
          refine pk_ob1 (pk_mono (w_f_X7_advance h_11) (fun _ k => KF_fr k (by decide))) (fun h_12 k_3 => ?_)
          replace k_3 := KF_trans k_2 k_3
          refine pk_ob1 (hk_kR_X2_readLevel h_12 (x3 + 1) x4) (fun h_13 k_4 => ?_)
          replace k_4 := KF_trans k_3 k_4
          refine pk_ob1 (pk_mono (w_f_X6_addStep_1 h_13 (20000 + r_11)) (fun _ k => KF_fr k (by decide))) (fun h_14 k_5 => ?_)
          replace k_5 := KF_trans k_4 k_5
          exact pk_mono (ih h_14 x3 x4 (x5 + 1)) (fun _ k => KF_trans k_5 k)
        · exact pk_mono (kf_f_X2_readLevel_1_105 kR_X2_readLevel hk_kR_X2_readLevel kR_X2_readAsk hk_kR_X2_readAsk kR_X2_readOne hk_kR_X2_readOne h_8) (fun _ k => KF_trans k_1 k)
      · exact pk_mono (kf_f_X2_readLevel_1_105 kR_X2_readLevel hk_kR_X2_readLevel kR_X2_readAsk hk_kR_X2_readAsk kR_X2_readOne hk_kR_X2_readOne h) (fun _ k => KF_trans (KF_refl h) k)
theorem kf_f_X2_readLevel_1_b (kR_X2_readLevel : HS → Int32 → Int32 → Option HS) (hk_kR_X2_readLevel : ∀ (h : HS) (x0 : Int32) (x1 : Int32), pk (kR_X2_readLevel h x0 x1) (fun a => KF h a)) (kR_X2_readAsk : HS → Int32 → Option HS) (hk_kR_X2_readAsk : ∀ (h : HS) (x0 : Int32), pk (kR_X2_readAsk h x0) (fun a => KF h a)) (kR_X2_readOne : HS → Int32 → Option HS) (hk_kR_X2_readOne : ∀ (h : HS) (x0 : Int32), pk (kR_X2_readOne h x0) (fun a => KF h a)) (h : HS) (p1 : Int32) (p2 : Int32) : pk (f_X2_readLevel_1_b kR_X2_readLevel kR_X2_readAsk kR_X2_readOne h p1 p2) (fun a => KF h a) := by
  unfold f_X2_readLevel_1_b
  refine pk_if (fun _ => ?_) (fun _ => ?_)
  · refine pk_ob1 (hk_kR_X2_readAsk h p2) (fun h_5 k_1 => ?_)
    replace k_1 := KF_trans (KF_refl h) k_1
    exact pk_some k_1
  · refine pk_if (fun _ => ?_) (fun _ => ?_)
    · refine pk_ob1 (hk_kR_X2_readOne h p2) (fun h_4 k_2 => ?_)
      replace k_2 := KF_trans (KF_refl h) k_2
      exact pk_some k_2
    · refine pk_ob1 (hk_kR_X2_readLevel h (p1 + 1) p2) (fun h_3 k_3 => ?_)
      replace k_3 := KF_trans (KF_refl h) k_3
      exact pk_mono (kf_f_X2_readLevel_1_42 kR_X2_readLevel hk_kR_X2_readLevel kR_X2_readAsk hk_kR_X2_readAsk kR_X2_readOne hk_kR_X2_readOne 8589934592 h_3 p1 p2 0) (fun _ k => KF_trans k_3 k)
theorem kf_f_X2_readAsk_1_97 (kR_X2_readLevel : HS → Int32 → Int32 → Option HS) (hk_kR_X2_readLevel : ∀ (h : HS) (x0 : Int32) (x1 : Int32), pk (kR_X2_readLevel h x0 x1) (fun a => KF h a)) (kR_X2_readAsk : HS → Int32 → Option HS) (hk_kR_X2_readAsk : ∀ (h : HS) (x0 : Int32), pk (kR_X2_readAsk h x0) (fun a => KF h a)) (kR_X2_readOne : HS → Int32 → Option HS) (hk_kR_X2_readOne : ∀ (h : HS) (x0 : Int32), pk (kR_X2_readOne h x0) (fun a => KF h a)) (h : HS) : pk (f_X2_readAsk_1_97 kR_X2_readLevel kR_X2_readAsk kR_X2_readOne h) (fun a => KF h a) := by
  unfold f_X2_readAsk_1_97
  exact pk_some (KF_refl h)
theorem kf_f_X2_readAsk_1_68 (kR_X2_readLevel : HS → Int32 → Int32 → Option HS) (hk_kR_X2_readLevel : ∀ (h : HS) (x0 : Int32) (x1 : Int32), pk (kR_X2_readLevel h x0 x1) (fun a => KF h a)) (kR_X2_readAsk : HS → Int32 → Option HS) (hk_kR_X2_readAsk : ∀ (h : HS) (x0 : Int32), pk (kR_X2_readAsk h x0) (fun a => KF h a)) (kR_X2_readOne : HS → Int32 → Option HS) (hk_kR_X2_readOne : ∀ (h : HS) (x0 : Int32), pk (kR_X2_readOne h x0) (fun a => KF h a)) (h : HS) (x3 : Int32) (x4 : Int32) : pk (f_X2_readAsk_1_68 kR_X2_readLevel kR_X2_readAsk kR_X2_readOne h x3 x4) (fun a => KF h a) := by
  unfold f_X2_readAsk_1_68
  refine pk_if (fun _ => ?_) (fun _ => ?_)
  · refine pk_ob1 (pk_mono (w_f_X7_advance h) (fun _ k => KF_fr k (by decide))) (fun h_13 k_1 => ?_)
    replace k_1 := KF_trans (KF_refl h) k_1
    refine pk_ob1 (hk_kR_X2_readLevel h_13 3 x3) (fun h_14 k_2 => ?_)
    replace k_2 := KF_trans k_1 k_2
    refine pk_ob1 (pk_mono (w_f_X6_addStep_1 h_14 (20000 + x4)) (fun _ k => KF_fr k (by decide))) (fun h_15 k_3 => ?_)
    replace k_3 := KF_trans k_2 k_3
    exact pk_mono (kf_f_X2_readAsk_1_97 kR_X2_readLevel hk_kR_X2_readLevel kR_X2_readAsk hk_kR_X2_readAsk kR_X2_readOne hk_kR_X2_readOne h_15) (fun _ k => KF_trans k_3 k)
  · exact pk_mono (kf_f_X2_readAsk_1_97 kR_X2_readLevel hk_kR_X2_readLevel kR_X2_readAsk hk_kR_X2_readAsk kR_X2_readOne hk_kR_X2_readOne h) (fun _ k => KF_trans (KF_refl h) k)
theorem kf_f_X2_readAsk_1_62 (kR_X2_readLevel : HS → Int32 → Int32 → Option HS) (hk_kR_X2_readLevel : ∀ (h : HS) (x0 : Int32) (x1 : Int32), pk (kR_X2_readLevel h x0 x1) (fun a => KF h a)) (kR_X2_readAsk : HS → Int32 → Option HS) (hk_kR_X2_readAsk : ∀ (h : HS) (x0 : Int32), pk (kR_X2_readAsk h x0) (fun a => KF h a)) (kR_X2_readOne : HS → Int32 → Option HS) (hk_kR_X2_readOne : ∀ (h : HS) (x0 : Int32), pk (kR_X2_readOne h x0) (fun a => KF h a)) (h : HS) (x3 : Int32) (x4 : Int32) : pk (f_X2_readAsk_1_62 kR_X2_readLevel kR_X2_readAsk kR_X2_readOne h x3 x4) (fun a => KF h a) := by
  unfold f_X2_readAsk_1_62
  refine pk_ob1 (kf_f_X2_fail h 1) (fun h_11 k_1 => ?_)
  replace k_1 := KF_trans (KF_refl h) k_1
  exact pk_mono (kf_f_X2_readAsk_1_68 kR_X2_readLevel hk_kR_X2_readLevel kR_X2_readAsk hk_kR_X2_readAsk kR_X2_readOne hk_kR_X2_readOne h_11 x3 x4) (fun _ k => KF_trans k_1 k)
theorem kf_f_X2_readAsk_1_34 (kR_X2_readLevel : HS → Int32 → Int32 → Option HS) (hk_kR_X2_readLevel : ∀ (h : HS) (x0 : Int32) (x1 : Int32), pk (kR_X2_readLevel h x0 x1) (fun a => KF h a)) (kR_X2_readAsk : HS → Int32 → Option HS) (hk_kR_X2_readAsk : ∀ (h : HS) (x0 : Int32), pk (kR_X2_readAsk h x0) (fun a => KF h a)) (kR_X2_readOne : HS → Int32 → Option HS) (hk_kR_X2_readOne : ∀ (h : HS) (x0 : Int32), pk (kR_X2_readOne h x0) (fun a => KF h a)) (h : HS) : pk (f_X2_readAsk_1_34 kR_X2_readLevel kR_X2_readAsk kR_X2_readOne h) (fun a => KF h a) := by
  unfold f_X2_readAsk_1_34
  exact pk_some (KF_refl h)
theorem kf_f_X2_readAsk_1_b (kR_X2_readLevel : HS → Int32 → Int32 → Option HS) (hk_kR_X2_readLevel : ∀ (h : HS) (x0 : Int32) (x1 : Int32), pk (kR_X2_readLevel h x0 x1) (fun a => KF h a)) (kR_X2_readAsk : HS → Int32 → Option HS) (hk_kR_X2_readAsk : ∀ (h : HS) (x0 : Int32), pk (kR_X2_readAsk h x0) (fun a => KF h a)) (kR_X2_readOne : HS → Int32 → Option HS) (hk_kR_X2_readOne : ∀ (h : HS) (x0 : Int32), pk (kR_X2_readOne h x0) (fun a => KF h a)) (h : HS) (p1 : Int32) : pk (f_X2_readAsk_1_b kR_X2_readLevel kR_X2_readAsk kR_X2_readOne h p1) (fun a => KF h a) := by
  unfold f_X2_readAsk_1_b
  refine pk_ob2 (pk_mono (w_f_X7_kind h) (fun _ k => KF_fr k (by decide))) (fun r_1 h_1 k_1 => ?_)
  replace k_1 := KF_trans (KF_refl h) k_1
  refine pk_if (fun _ => ?_) (fun _ => ?_)
  · refine pk_ob2 (kf_f_X2_opens h_1 p1) (fun r_7 h_7 k_2 => ?_)
    replace k_2 := KF_trans k_1 k_2
    refine pk_if (fun _ => ?_) (fun _ => ?_)
    · exact pk_mono (kf_f_X2_readAsk_1_34 kR_X2_readLevel hk_kR_X2_readLevel kR_X2_readAsk hk_kR_X2_readAsk kR_X2_readOne hk_kR_X2_readOne h_7) (fun _ k => KF_trans k_2 k)
    · refine pk_ob1 (hk_kR_X2_readAsk h_7 (p1 + 1)) (fun h_9 k_3 => ?_)
      replace k_3 := KF_trans k_2 k_3
      refine pk_ob1 (pk_mono (w_f_X6_addStep_1 h_9 20028) (fun _ k => KF_fr k (by decide))) (fun h_10 k_4 => ?_)
      replace k_4 := KF_trans k_3 k_4
      exact pk_mono (kf_f_X2_readAsk_1_34 kR_X2_readLevel hk_kR_X2_readLevel kR_X2_readAsk hk_kR_X2_readAsk kR_X2_readOne hk_kR_X2_readOne h_10) (fun _ k => KF_trans k_4 k)
  · refine pk_ob1 (hk_kR_X2_readLevel h_1 3 p1) (fun h_3 k_5 => ?_)
    replace k_5 := KF_trans k_1 k_5
    refine pk_ob2 (pk_mono (w_f_X7_kind h_3) (fun _ k => KF_fr k (by decide))) (fun r_4 h_4 k_6 => ?_)
    replace k_6 := KF_trans k_5 k_6
    refine pk_if (fun _ => ?_) (fun _ => ?_)
    · exact pk_mono (kf_f_X2_readAsk_1_62 kR_X2_readLevel hk_kR_X2_readLevel kR_X2_readAsk hk_kR_X2_readAsk kR_X2_readOne hk_kR_X2_readOne h_4 p1 r_4) (fun _ k => KF_trans k_6 k)
    · refine pk_if (fun _ => ?_) (fun _ => ?_)
      · exact pk_mono (kf_f_X2_readAsk_1_68 kR_X2_readLevel hk_kR_X2_readLevel kR_X2_readAsk hk_kR_X2_readAsk kR_X2_readOne hk_kR_X2_readOne h_4 p1 r_4) (fun _ k => KF_trans k_6 k)
      · exact pk_mono (kf_f_X2_readAsk_1_62 kR_X2_readLevel hk_kR_X2_readLevel kR_X2_readAsk hk_kR_X2_readAsk kR_X2_readOne hk_kR_X2_readOne h_4 p1 r_4) (fun _ k => KF_trans k_6 k)
theorem kf_f_X2_readOne_1_121 (kR_X2_readLevel : HS → Int32 → Int32 → Option HS) (hk_kR_X2_readLevel : ∀ (h : HS) (x0 : Int32) (x1 : Int32), pk (kR_X2_readLevel h x0 x1) (fun a => KF h a)) (kR_X2_readAsk : HS → Int32 → Option HS) (hk_kR_X2_readAsk : ∀ (h : HS) (x0 : Int32), pk (kR_X2_readAsk h x0) (fun a => KF h a)) (kR_X2_readOne : HS → Int32 → Option HS) (hk_kR_X2_readOne : ∀ (h : HS) (x0 : Int32), pk (kR_X2_readOne h x0) (fun a => KF h a)) (h : HS) : pk (f_X2_readOne_1_121 kR_X2_readLevel kR_X2_readAsk kR_X2_readOne h) (fun a => KF h a) := by
  unfold f_X2_readOne_1_121
  exact pk_some (KF_refl h)
theorem kf_f_X2_readOne_1_44 (kR_X2_readLevel : HS → Int32 → Int32 → Option HS) (hk_kR_X2_readLevel : ∀ (h : HS) (x0 : Int32) (x1 : Int32), pk (kR_X2_readLevel h x0 x1) (fun a => KF h a)) (kR_X2_readAsk : HS → Int32 → Option HS) (hk_kR_X2_readAsk : ∀ (h : HS) (x0 : Int32), pk (kR_X2_readAsk h x0) (fun a => KF h a)) (kR_X2_readOne : HS → Int32 → Option HS) (hk_kR_X2_readOne : ∀ (h : HS) (x0 : Int32), pk (kR_X2_readOne h x0) (fun a => KF h a)) (h : HS) (x3 : Int32) (x4 : Int32) : pk (f_X2_readOne_1_44 kR_X2_readLevel kR_X2_readAsk kR_X2_readOne h x3 x4) (fun a => KF h a) := by
  unfold f_X2_readOne_1_44
  refine pk_if (fun _ => ?_) (fun _ => ?_)
  · refine pk_ob2 (kf_f_X2_opens h x3) (fun r_14 h_14 k_1 => ?_)
    replace k_1 := KF_trans (KF_refl h) k_1
    refine pk_if (fun _ => ?_) (fun _ => ?_)
    · exact pk_mono (kf_f_X2_readOne_1_121 kR_X2_readLevel hk_kR_X2_readLevel kR_X2_readAsk hk_kR_X2_readAsk kR_X2_readOne hk_kR_X2_readOne h_14) (fun _ k => KF_trans k_1 k)
    · refine pk_ob1 (hk_kR_X2_readLevel h_14 3 (x3 + 1)) (fun h_16 k_2 => ?_)
      replace k_2 := KF_trans k_1 k_2
      refine pk_ob1 (kf_f_X2_expect h_16 14) (fun h_17 k_3 => ?_)
      replace k_3 := KF_trans k_2 k_3
      exact pk_mono (kf_f_X2_readOne_1_121 kR_X2_readLevel hk_kR_X2_readLevel kR_X2_readAsk hk_kR_X2_readAsk kR_X2_readOne hk_kR_X2_readOne h_17) (fun _ k => KF_trans k_3 k)
  · refine pk_if (fun _ => ?_) (fun _ => ?_)
    · refine pk_ob2 (kf_f_X2_opens h x3) (fun r_10 h_10 k_4 => ?_)
      replace k_4 := KF_trans (KF_refl h) k_4
      refine pk_if (fun _ => ?_) (fun _ => ?_)
      · exact pk_mono (kf_f_X2_readOne_1_121 kR_X2_readLevel hk_kR_X2_readLevel kR_X2_readAsk hk_kR_X2_readAsk kR_X2_readOne hk_kR_X2_readOne h_10) (fun _ k => KF_trans k_4 k)
      · refine pk_ob1 (hk_kR_X2_readOne h_10 (x3 + 1)) (fun h_12 k_5 => ?_)
        replace k_5 := KF_trans k_4 k_5
        refine pk_ob1 (pk_mono (w_f_X6_addStep_1 h_12 20038) (fun _ k => KF_fr k (by decide))) (fun h_13 k_6 => ?_)
        replace k_6 := KF_trans k_5 k_6
        exact pk_mono (kf_f_X2_readOne_1_121 kR_X2_readLevel hk_kR_X2_readLevel kR_X2_readAsk hk_kR_X2_readAsk kR_X2_readOne hk_kR_X2_readOne h_13) (fun _ k => KF_trans k_6 k)
    · refine pk_ob1 (kf_f_X2_fail h 1) (fun h_9 k_7 => ?_)
      replace k_7 := KF_trans (KF_refl h) k_7
      exact pk_mono (kf_f_X2_readOne_1_121 kR_X2_readLevel hk_kR_X2_readLevel kR_X2_readAsk hk_kR_X2_readAsk kR_X2_readOne hk_kR_X2_readOne h_9) (fun _ k => KF_trans k_7 k)
theorem kf_f_X2_readOne_1_b (kR_X2_readLevel : HS → Int32 → Int32 → Option HS) (hk_kR_X2_readLevel : ∀ (h : HS) (x0 : Int32) (x1 : Int32), pk (kR_X2_readLevel h x0 x1) (fun a => KF h a)) (kR_X2_readAsk : HS → Int32 → Option HS) (hk_kR_X2_readAsk : ∀ (h : HS) (x0 : Int32), pk (kR_X2_readAsk h x0) (fun a => KF h a)) (kR_X2_readOne : HS → Int32 → Option HS) (hk_kR_X2_readOne : ∀ (h : HS) (x0 : Int32), pk (kR_X2_readOne h x0) (fun a => KF h a)) (h : HS) (p1 : Int32) : pk (f_X2_readOne_1_b kR_X2_readLevel kR_X2_readAsk kR_X2_readOne h p1) (fun a => KF h a) := by
  unfold f_X2_readOne_1_b
  refine pk_ob2 (pk_mono (w_f_X7_kind h) (fun _ k => KF_fr k (by decide))) (fun r_1 h_1 k_1 => ?_)
  replace k_1 := KF_trans (KF_refl h) k_1
  refine pk_if (fun _ => ?_) (fun _ => ?_)
  · refine pk_ob1 (kf_f_X2_readValue_1 h_1) (fun h_6 k_2 => ?_)
    replace k_2 := KF_trans k_1 k_2
    exact pk_mono (kf_f_X2_readOne_1_121 kR_X2_readLevel hk_kR_X2_readLevel kR_X2_readAsk hk_kR_X2_readAsk kR_X2_readOne hk_kR_X2_readOne h_6) (fun _ k => KF_trans k_2 k)
  · refine pk_if (fun _ => ?_) (fun _ => ?_)
    · exact pk_mono (kf_f_X2_readOne_1_44 kR_X2_readLevel hk_kR_X2_readLevel kR_X2_readAsk hk_kR_X2_readAsk kR_X2_readOne hk_kR_X2_readOne h_1 p1 r_1) (fun _ k => KF_trans k_1 k)
    · refine pk_if (fun _ => ?_) (fun _ => ?_)
      · exact pk_mono (kf_f_X2_readOne_1_44 kR_X2_readLevel hk_kR_X2_readLevel kR_X2_readAsk hk_kR_X2_readAsk kR_X2_readOne hk_kR_X2_readOne h_1 p1 r_1) (fun _ k => KF_trans k_1 k)
      · refine pk_ob1 (kf_f_X2_readName_1 h_1) (fun h_5 k_3 => ?_)
        replace k_3 := KF_trans k_1 k_3
        exact pk_mono (kf_f_X2_readOne_1_121 kR_X2_readLevel hk_kR_X2_readLevel kR_X2_readAsk hk_kR_X2_readAsk kR_X2_readOne hk_kR_X2_readOne h_5) (fun _ k => KF_trans k_3 k)
theorem kf_G_read_1 : ∀ (n t : Nat) (h : HS) (p1 p2 : Int32), pk (G_read_1 n t h p1 p2) (fun a => KF h a) := by
  intro n
  induction n with
  | zero => intro t h p1 p2; exact (by simp [G_read_1]; exact pk_none)
  | succ n ih =>
    intro t h p1 p2
    match t with
    | 0 => exact kf_f_X2_readLevel_1_b (fun h p1 p2 => G_read_1 n 0 h p1 p2) (fun h p1 p2 => ih 0 h p1 p2) (fun h p1 => G_read_1 n 1 h p1 0) (fun h p1 => ih 1 h p1 0) (fun h p1 => G_read_1 n 2 h p1 0) (fun h p1 => ih 2 h p1 0) h p1 p2
    | 1 => exact kf_f_X2_readAsk_1_b (fun h p1 p2 => G_read_1 n 0 h p1 p2) (fun h p1 p2 => ih 0 h p1 p2) (fun h p1 => G_read_1 n 1 h p1 0) (fun h p1 => ih 1 h p1 0) (fun h p1 => G_read_1 n 2 h p1 0) (fun h p1 => ih 2 h p1 0) h p1
    | t + 2 => exact kf_f_X2_readOne_1_b (fun h p1 p2 => G_read_1 n 0 h p1 p2) (fun h p1 p2 => ih 0 h p1 p2) (fun h p1 => G_read_1 n 1 h p1 0) (fun h p1 => ih 1 h p1 0) (fun h p1 => G_read_1 n 2 h p1 0) (fun h p1 => ih 2 h p1 0) h p1
theorem kf_f_X2_readClause_1_25 (h : HS) : pk (f_X2_readClause_1_25 h) (fun a => KF h a) := by
  unfold f_X2_readClause_1_25
  refine pk_ob1 (kf_f_X2_fail h 1) (fun h_15 k_1 => ?_)
  replace k_1 := KF_trans (KF_refl h) k_1
  exact pk_mono (pk_mono (w_f_X2_readClause_1_158 h_15) (fun _ k => KF_fr k (by decide))) (fun _ k => KF_trans k_1 k)
theorem kf_f_X2_readClause_1_141 (h : HS) : pk (f_X2_readClause_1_141 h) (fun a => KF h a) := by
  unfold f_X2_readClause_1_141
  refine pk_ob1 (kf_f_X2_expect h 15) (fun h_16 k_1 => ?_)
  replace k_1 := KF_trans (KF_refl h) k_1
  exact pk_mono (pk_mono (w_f_X2_readClause_1_158 (sI h_16 10 1 ((eI h_16 10 1) + 1))) (fun _ k => KF_fr k (by decide))) (fun _ k => KF_trans (KF_trans k_1 (KF_fr (Fr_sI (S := [(0, 10, 1)]) (by decide) (Fr_refl _ _)) (by decide))) k)
theorem kf_f_X2_readClause_1_119 (h : HS) (y0 : Int32) : pk (f_X2_readClause_1_119 h y0) (fun a => KF h a) := by
  unfold f_X2_readClause_1_119
  refine pk_ob1 (kf_G_read_1 200 0 h y0 0) (fun h_17 k_1 => ?_)
  replace k_1 := KF_trans (KF_refl h) k_1
  refine pk_ob1 (pk_mono (w_f_X6_closeLaw_1 h_17 (eI h_17 5 2)) (fun _ k => KF_fr k (by decide))) (fun h_18 k_2 => ?_)
  replace k_2 := KF_trans k_1 k_2
  exact pk_mono (kf_f_X2_readClause_1_141 h_18) (fun _ k => KF_trans k_2 k)
theorem kf_f_X2_readClause_1 (h : HS) : pk (f_X2_readClause_1 h) (fun a => KF h a) := by
  unfold f_X2_readClause_1
  refine pk_ob2 (pk_mono (w_f_X7_kind h) (fun _ k => KF_fr k (by decide))) (fun r_1 h_1 k_1 => ?_)
  replace k_1 := KF_trans (KF_refl h) k_1
  refine pk_if (fun _ => ?_) (fun _ => ?_)
  · exact pk_mono (kf_f_X2_readClause_1_25 (sI h_1 5 2 (r_1 - 16))) (fun _ k => KF_trans (KF_trans k_1 (KF_fr (Fr_sI (S := [(0, 5, 2)]) (by decide) (Fr_refl _ _)) (by decide))) k)
  · refine pk_if (fun _ => ?_) (fun _ => ?_)
    · refine pk_ob2 (pk_mono (w_f_X6_hasLaw_1 (sI h_1 5 2 (r_1 - 16)) (r_1 - 16)) (fun _ k => KF_fr k (by decide))) (fun r_4 h_4 k_2 => ?_)
      replace k_2 := KF_trans (KF_trans k_1 (KF_fr (Fr_sI (S := [(0, 5, 2)]) (by decide) (Fr_refl _ _)) (by decide))) k_2
      refine pk_if (fun _ => ?_) (fun _ => ?_)
      · refine pk_if (fun _ => ?_) (fun _ => ?_)
        · refine pk_ob1 (pk_mono (w_f_X6_setClause_1 h_4 (eI h_4 10 1) 0 r_1) (fun _ k => KF_fr k (by decide))) (fun h_7 k_3 => ?_)
          replace k_3 := KF_trans k_2 k_3
          refine pk_ob1 (pk_mono (w_f_X7_advance h_7) (fun _ k => KF_fr k (by decide))) (fun h_8 k_4 => ?_)
          replace k_4 := KF_trans k_3 k_4
          refine pk_if (fun _ => ?_) (fun _ => ?_)
          · refine pk_ob1 (kf_f_X2_readDeed_1 h_8 r_1) (fun h_10 k_5 => ?_)
            replace k_5 := KF_trans k_4 k_5
            exact pk_mono (kf_f_X2_readClause_1_141 h_10) (fun _ k => KF_trans k_5 k)
          · refine pk_ob1 (pk_mono (w_f_X6_beginLaw_1 h_8 (eI h_8 5 2)) (fun _ k => KF_fr k (by decide))) (fun h_11 k_6 => ?_)
            replace k_6 := KF_trans k_4 k_6
            refine pk_if (fun _ => ?_) (fun _ => ?_)
            · exact pk_mono (kf_f_X2_readClause_1_119 h_11 0) (fun _ k => KF_trans k_6 k)
            · exact pk_mono (kf_f_X2_readClause_1_119 h_11 3) (fun _ k => KF_trans k_6 k)
        · refine pk_ob1 (kf_f_X2_fail h_4 6) (fun h_13 k_7 => ?_)
          replace k_7 := KF_trans k_2 k_7
          exact pk_mono (pk_mono (w_f_X2_readClause_1_158 h_13) (fun _ k => KF_fr k (by decide))) (fun _ k => KF_trans k_7 k)
      · refine pk_ob1 (kf_f_X2_fail h_4 4) (fun h_14 k_8 => ?_)
        replace k_8 := KF_trans k_2 k_8
        exact pk_mono (pk_mono (w_f_X2_readClause_1_158 h_14) (fun _ k => KF_fr k (by decide))) (fun _ k => KF_trans k_8 k)
    · exact pk_mono (kf_f_X2_readClause_1_25 (sI h_1 5 2 (r_1 - 16))) (fun _ k => KF_trans (KF_trans k_1 (KF_fr (Fr_sI (S := [(0, 5, 2)]) (by decide) (Fr_refl _ _)) (by decide))) k)
theorem kf_f_X2_readValue_2 (h : HS) : pk (f_X2_readValue_2 h) (fun a => KF h a) := by
  unfold f_X2_readValue_2
  refine pk_ob2 (pk_mono (w_f_X7_value h) (fun _ k => KF_fr k (by decide))) (fun r_1 h_1 k_1 => ?_)
  replace k_1 := KF_trans (KF_refl h) k_1
  refine pk_if (fun _ => ?_) (fun _ => ?_)
  · refine pk_ob2 (pk_mono (w_f_X7_value h_1) (fun _ k => KF_fr k (by decide))) (fun r_3 h_3 k_2 => ?_)
    replace k_2 := KF_trans k_1 k_2
    refine pk_ob1 (pk_mono (w_f_X6_addStep_2 h_3 r_3) (fun _ k => KF_fr k (by decide))) (fun h_4 k_3 => ?_)
    replace k_3 := KF_trans k_2 k_3
    refine pk_ob1 (pk_mono (w_f_X7_advance h_4) (fun _ k => KF_fr k (by decide))) (fun h_5 k_4 => ?_)
    replace k_4 := KF_trans k_3 k_4
    exact pk_some k_4
  · refine pk_ob1 (kf_f_X2_fail h_1 2) (fun h_6 k_5 => ?_)
    replace k_5 := KF_trans k_1 k_5
    exact pk_some k_5
theorem kf_f_X2_readName_2 (h : HS) : pk (f_X2_readName_2 h) (fun a => KF h a) := by
  unfold f_X2_readName_2
  refine pk_ob2 (pk_mono (w_f_X7_kind h) (fun _ k => KF_fr k (by decide))) (fun r_1 h_1 k_1 => ?_)
  replace k_1 := KF_trans (KF_refl h) k_1
  refine pk_if (fun _ => ?_) (fun _ => ?_)
  · exact pk_mono (pk_mono (w_f_X2_readName_2_31 h_1) (fun _ k => KF_fr k (by decide))) (fun _ k => KF_trans k_1 k)
  · refine pk_if (fun _ => ?_) (fun _ => ?_)
    · exact pk_mono (pk_mono (w_f_X2_readName_2_31 h_1) (fun _ k => KF_fr k (by decide))) (fun _ k => KF_trans k_1 k)
    · refine pk_if (fun _ => ?_) (fun _ => ?_)
      · exact pk_mono (pk_mono (w_f_X2_readName_2_31 h_1) (fun _ k => KF_fr k (by decide))) (fun _ k => KF_trans k_1 k)
      · refine pk_ob1 (kf_f_X2_fail h_1 5) (fun h_5 k_2 => ?_)
        replace k_2 := KF_trans k_1 k_2
        exact pk_some k_2
theorem kf_f_X2_readNumber_2_43 (h : HS) : pk (f_X2_readNumber_2_43 h) (fun a => KF h a) := by
  unfold f_X2_readNumber_2_43
  refine pk_ob1 (kf_f_X2_fail h 2) (fun h_12 k_1 => ?_)
  replace k_1 := KF_trans (KF_refl h) k_1
  exact pk_mono (pk_mono (w_f_X2_readNumber_2_69 h_12) (fun _ k => KF_fr k (by decide))) (fun _ k => KF_trans k_1 k)
theorem kf_f_X2_readNumber_2 (h : HS) (p1 : Int32) (p2 : Int32) (p3 : Int32) : pk (f_X2_readNumber_2 h p1 p2 p3) (fun a => KF h a) := by
  unfold f_X2_readNumber_2
  refine pk_if (fun _ => ?_) (fun _ => ?_)
  · refine pk_ob2 (pk_mono (w_f_X7_kind h) (fun _ k => KF_fr k (by decide))) (fun r_2 h_2 k_1 => ?_)
    replace k_1 := KF_trans (KF_refl h) k_1
    refine pk_if (fun _ => ?_) (fun _ => ?_)
    · refine pk_ob2 (pk_mono (w_f_X7_value h_2) (fun _ k => KF_fr k (by decide))) (fun r_4 h_4 k_2 => ?_)
      replace k_2 := KF_trans k_1 k_2
      refine pk_if (fun _ => ?_) (fun _ => ?_)
      · exact pk_mono (kf_f_X2_readNumber_2_43 h_4) (fun _ k => KF_trans k_2 k)
      · refine pk_ob2 (pk_mono (w_f_X7_value h_4) (fun _ k => KF_fr k (by decide))) (fun r_6 h_6 k_3 => ?_)
        replace k_3 := KF_trans k_2 k_3
        refine pk_if (fun _ => ?_) (fun _ => ?_)
        · refine pk_ob2 (pk_mono (w_f_X7_value h_6) (fun _ k => KF_fr k (by decide))) (fun r_8 h_8 k_4 => ?_)
          replace k_4 := KF_trans k_3 k_4
          refine pk_ob1 (pk_mono (w_f_X6_setClause_2 h_8 (eI h_6 11 1) p1 r_8) (fun _ k => KF_fr k (by decide))) (fun h_9 k_5 => ?_)
          replace k_5 := KF_trans k_4 k_5
          refine pk_ob1 (pk_mono (w_f_X7_advance h_9) (fun _ k => KF_fr k (by decide))) (fun h_10 k_6 => ?_)
          replace k_6 := KF_trans k_5 k_6
          exact pk_mono (pk_mono (w_f_X2_readNumber_2_69 h_10) (fun _ k => KF_fr k (by decide))) (fun _ k => KF_trans k_6 k)
        · exact pk_mono (kf_f_X2_readNumber_2_43 h_6) (fun _ k => KF_trans k_3 k)
    · refine pk_ob1 (kf_f_X2_fail h_2 1) (fun h_11 k_7 => ?_)
      replace k_7 := KF_trans k_1 k_7
      exact pk_mono (pk_mono (w_f_X2_readNumber_2_69 h_11) (fun _ k => KF_fr k (by decide))) (fun _ k => KF_trans k_7 k)
  · exact pk_some (KF_refl h)
theorem kf_f_X2_readDeed_2 (h : HS) (p1 : Int32) : pk (f_X2_readDeed_2 h p1) (fun a => KF h a) := by
  unfold f_X2_readDeed_2
  refine pk_if (fun _ => ?_) (fun _ => ?_)
  · refine pk_ob1 (kf_f_X2_readNumber_2 h 1 1 99) (fun h_11 k_1 => ?_)
    replace k_1 := KF_trans (KF_refl h) k_1
    exact pk_some k_1
  · refine pk_ob1 (kf_f_X2_readNumber_2 h 1 0 9) (fun h_2 k_2 => ?_)
    replace k_2 := KF_trans (KF_refl h) k_2
    refine pk_if (fun _ => ?_) (fun _ => ?_)
    · refine pk_ob1 (kf_f_X2_expect h_2 24) (fun h_7 k_3 => ?_)
      replace k_3 := KF_trans k_2 k_3
      refine pk_ob1 (kf_f_X2_readNumber_2 h_7 2 0 5) (fun h_8 k_4 => ?_)
      replace k_4 := KF_trans k_3 k_4
      refine pk_ob1 (kf_f_X2_expect h_8 33) (fun h_9 k_5 => ?_)
      replace k_5 := KF_trans k_4 k_5
      refine pk_ob1 (kf_f_X2_readNumber_2 h_9 3 0 2) (fun h_10 k_6 => ?_)
      replace k_6 := KF_trans k_5 k_6
      exact pk_mono (pk_mono (w_f_X2_readDeed_2_90 h_10) (fun _ k => KF_fr k (by decide))) (fun _ k => KF_trans k_6 k)
    · refine pk_if (fun _ => ?_) (fun _ => ?_)
      · refine pk_ob1 (kf_f_X2_expect h_2 25) (fun h_5 k_7 => ?_)
        replace k_7 := KF_trans k_2 k_7
        refine pk_ob1 (kf_f_X2_readNumber_2 h_5 2 0 3) (fun h_6 k_8 => ?_)
        replace k_8 := KF_trans k_7 k_8
        exact pk_mono (pk_mono (w_f_X2_readDeed_2_90 h_6) (fun _ k => KF_fr k (by decide))) (fun _ k => KF_trans k_8 k)
      · exact pk_mono (pk_mono (w_f_X2_readDeed_2_90 h_2) (fun _ k => KF_fr k (by decide))) (fun _ k => KF_trans k_2 k)
theorem kf_f_X2_readLevel_2_105 (kR_X2_readLevel : HS → Int32 → Int32 → Option HS) (hk_kR_X2_readLevel : ∀ (h : HS) (x0 : Int32) (x1 : Int32), pk (kR_X2_readLevel h x0 x1) (fun a => KF h a)) (kR_X2_readAsk : HS → Int32 → Option HS) (hk_kR_X2_readAsk : ∀ (h : HS) (x0 : Int32), pk (kR_X2_readAsk h x0) (fun a => KF h a)) (kR_X2_readOne : HS → Int32 → Option HS) (hk_kR_X2_readOne : ∀ (h : HS) (x0 : Int32), pk (kR_X2_readOne h x0) (fun a => KF h a)) (h : HS) : pk (f_X2_readLevel_2_105 kR_X2_readLevel kR_X2_readAsk kR_X2_readOne h) (fun a => KF h a) := by
  unfold f_X2_readLevel_2_105
  exact pk_some (KF_refl h)
theorem kf_f_X2_readLevel_2_42 (kR_X2_readLevel : HS → Int32 → Int32 → Option HS) (hk_kR_X2_readLevel : ∀ (h : HS) (x0 : Int32) (x1 : Int32), pk (kR_X2_readLevel h x0 x1) (fun a => KF h a)) (kR_X2_readAsk : HS → Int32 → Option HS) (hk_kR_X2_readAsk : ∀ (h : HS) (x0 : Int32), pk (kR_X2_readAsk h x0) (fun a => KF h a)) (kR_X2_readOne : HS → Int32 → Option HS) (hk_kR_X2_readOne : ∀ (h : HS) (x0 : Int32), pk (kR_X2_readOne h x0) (fun a => KF h a)) : ∀ (n : Nat) (h : HS) (x3 : Int32) (x4 : Int32) (x5 : Int32), pk (f_X2_readLevel_2_42 kR_X2_readLevel kR_X2_readAsk kR_X2_readOne n h x3 x4 x5) (fun a => KF h a) := by
  intro n
  induction n with
  | zero => intro h x3 x4 x5; exact pk_none
  | succ n ih =>
    intro h x3 x4 x5
    rw [f_X2_readLevel_2_42_s]
    refine pk_if (fun _ => ?_) (fun _ => ?_)
    · exact pk_mono (kf_f_X2_readLevel_2_105 kR_X2_readLevel hk_kR_X2_readLevel kR_X2_readAsk hk_kR_X2_readAsk kR_X2_readOne hk_kR_X2_readOne h) (fun _ k => KF_trans (KF_refl h) k)
    · refine pk_if (fun _ => ?_) (fun _ => ?_)
      · refine pk_ob2 (pk_mono (w_f_X7_kind h) (fun _ k => KF_fr k (by decide))) (fun r_8 h_8 k_1 => ?_)
        replace k_1 := KF_trans (KF_refl h) k_1
        refine pk_obf (fun r_9 => ?_)
        refine pk_if (fun _ => ?_) (fun _ => ?_)
        · refine pk_ob2 (pk_mono (w_f_X7_kind h_8) (fun _ k => KF_fr k (by decide))) (fun r_11 h_11 k_2 => ?_)
          replace k_2 := KF_trans k_1 k_2
          refine pk_ob1 (pk_mono (w_f_X7_advance h_11) (fun _ k => KF_fr k (by decide))) (fun h_12 k_3 => ?_)
          replace k_3 := KF_trans k_2 k_3
          refine pk_ob1 (hk_kR_X2_readLevel h_12 (x3 + 1) x4) (fun h_13 k_4 => ?_)
          replace k_4 := KF_trans k_3 k_4
          refine pk_ob1 (pk_mono (w_f_X6_addStep_2 h_13 (20000 + r_11)) (fun _ k => KF_fr k (by decide))) (fun h_14 k_5 => ?_)
          replace k_5 := KF_trans k_4 k_5
          exact pk_mono (ih h_14 x3 x4 (x5 + 1)) (fun _ k => KF_trans k_5 k)
        · exact pk_mono (kf_f_X2_readLevel_2_105 kR_X2_readLevel hk_kR_X2_readLevel kR_X2_readAsk hk_kR_X2_readAsk kR_X2_readOne hk_kR_X2_readOne h_8) (fun _ k => KF_trans k_1 k)
      · exact pk_mono (kf_f_X2_readLevel_2_105 kR_X2_readLevel hk_kR_X2_readLevel kR_X2_readAsk hk_kR_X2_readAsk kR_X2_readOne hk_kR_X2_readOne h) (fun _ k => KF_trans (KF_refl h) k)
theorem kf_f_X2_readLevel_2_b (kR_X2_readLevel : HS → Int32 → Int32 → Option HS) (hk_kR_X2_readLevel : ∀ (h : HS) (x0 : Int32) (x1 : Int32), pk (kR_X2_readLevel h x0 x1) (fun a => KF h a)) (kR_X2_readAsk : HS → Int32 → Option HS) (hk_kR_X2_readAsk : ∀ (h : HS) (x0 : Int32), pk (kR_X2_readAsk h x0) (fun a => KF h a)) (kR_X2_readOne : HS → Int32 → Option HS) (hk_kR_X2_readOne : ∀ (h : HS) (x0 : Int32), pk (kR_X2_readOne h x0) (fun a => KF h a)) (h : HS) (p1 : Int32) (p2 : Int32) : pk (f_X2_readLevel_2_b kR_X2_readLevel kR_X2_readAsk kR_X2_readOne h p1 p2) (fun a => KF h a) := by
  unfold f_X2_readLevel_2_b
  refine pk_if (fun _ => ?_) (fun _ => ?_)
  · refine pk_ob1 (hk_kR_X2_readAsk h p2) (fun h_5 k_1 => ?_)
    replace k_1 := KF_trans (KF_refl h) k_1
    exact pk_some k_1
  · refine pk_if (fun _ => ?_) (fun _ => ?_)
    · refine pk_ob1 (hk_kR_X2_readOne h p2) (fun h_4 k_2 => ?_)
      replace k_2 := KF_trans (KF_refl h) k_2
      exact pk_some k_2
    · refine pk_ob1 (hk_kR_X2_readLevel h (p1 + 1) p2) (fun h_3 k_3 => ?_)
      replace k_3 := KF_trans (KF_refl h) k_3
      exact pk_mono (kf_f_X2_readLevel_2_42 kR_X2_readLevel hk_kR_X2_readLevel kR_X2_readAsk hk_kR_X2_readAsk kR_X2_readOne hk_kR_X2_readOne 8589934592 h_3 p1 p2 0) (fun _ k => KF_trans k_3 k)
theorem kf_f_X2_readAsk_2_97 (kR_X2_readLevel : HS → Int32 → Int32 → Option HS) (hk_kR_X2_readLevel : ∀ (h : HS) (x0 : Int32) (x1 : Int32), pk (kR_X2_readLevel h x0 x1) (fun a => KF h a)) (kR_X2_readAsk : HS → Int32 → Option HS) (hk_kR_X2_readAsk : ∀ (h : HS) (x0 : Int32), pk (kR_X2_readAsk h x0) (fun a => KF h a)) (kR_X2_readOne : HS → Int32 → Option HS) (hk_kR_X2_readOne : ∀ (h : HS) (x0 : Int32), pk (kR_X2_readOne h x0) (fun a => KF h a)) (h : HS) : pk (f_X2_readAsk_2_97 kR_X2_readLevel kR_X2_readAsk kR_X2_readOne h) (fun a => KF h a) := by
  unfold f_X2_readAsk_2_97
  exact pk_some (KF_refl h)
theorem kf_f_X2_readAsk_2_68 (kR_X2_readLevel : HS → Int32 → Int32 → Option HS) (hk_kR_X2_readLevel : ∀ (h : HS) (x0 : Int32) (x1 : Int32), pk (kR_X2_readLevel h x0 x1) (fun a => KF h a)) (kR_X2_readAsk : HS → Int32 → Option HS) (hk_kR_X2_readAsk : ∀ (h : HS) (x0 : Int32), pk (kR_X2_readAsk h x0) (fun a => KF h a)) (kR_X2_readOne : HS → Int32 → Option HS) (hk_kR_X2_readOne : ∀ (h : HS) (x0 : Int32), pk (kR_X2_readOne h x0) (fun a => KF h a)) (h : HS) (x3 : Int32) (x4 : Int32) : pk (f_X2_readAsk_2_68 kR_X2_readLevel kR_X2_readAsk kR_X2_readOne h x3 x4) (fun a => KF h a) := by
  unfold f_X2_readAsk_2_68
  refine pk_if (fun _ => ?_) (fun _ => ?_)
  · refine pk_ob1 (pk_mono (w_f_X7_advance h) (fun _ k => KF_fr k (by decide))) (fun h_13 k_1 => ?_)
    replace k_1 := KF_trans (KF_refl h) k_1
    refine pk_ob1 (hk_kR_X2_readLevel h_13 3 x3) (fun h_14 k_2 => ?_)
    replace k_2 := KF_trans k_1 k_2
    refine pk_ob1 (pk_mono (w_f_X6_addStep_2 h_14 (20000 + x4)) (fun _ k => KF_fr k (by decide))) (fun h_15 k_3 => ?_)
    replace k_3 := KF_trans k_2 k_3
    exact pk_mono (kf_f_X2_readAsk_2_97 kR_X2_readLevel hk_kR_X2_readLevel kR_X2_readAsk hk_kR_X2_readAsk kR_X2_readOne hk_kR_X2_readOne h_15) (fun _ k => KF_trans k_3 k)
  · exact pk_mono (kf_f_X2_readAsk_2_97 kR_X2_readLevel hk_kR_X2_readLevel kR_X2_readAsk hk_kR_X2_readAsk kR_X2_readOne hk_kR_X2_readOne h) (fun _ k => KF_trans (KF_refl h) k)
theorem kf_f_X2_readAsk_2_62 (kR_X2_readLevel : HS → Int32 → Int32 → Option HS) (hk_kR_X2_readLevel : ∀ (h : HS) (x0 : Int32) (x1 : Int32), pk (kR_X2_readLevel h x0 x1) (fun a => KF h a)) (kR_X2_readAsk : HS → Int32 → Option HS) (hk_kR_X2_readAsk : ∀ (h : HS) (x0 : Int32), pk (kR_X2_readAsk h x0) (fun a => KF h a)) (kR_X2_readOne : HS → Int32 → Option HS) (hk_kR_X2_readOne : ∀ (h : HS) (x0 : Int32), pk (kR_X2_readOne h x0) (fun a => KF h a)) (h : HS) (x3 : Int32) (x4 : Int32) : pk (f_X2_readAsk_2_62 kR_X2_readLevel kR_X2_readAsk kR_X2_readOne h x3 x4) (fun a => KF h a) := by
  unfold f_X2_readAsk_2_62
  refine pk_ob1 (kf_f_X2_fail h 1) (fun h_11 k_1 => ?_)
  replace k_1 := KF_trans (KF_refl h) k_1
  exact pk_mono (kf_f_X2_readAsk_2_68 kR_X2_readLevel hk_kR_X2_readLevel kR_X2_readAsk hk_kR_X2_readAsk kR_X2_readOne hk_kR_X2_readOne h_11 x3 x4) (fun _ k => KF_trans k_1 k)
theorem kf_f_X2_readAsk_2_34 (kR_X2_readLevel : HS → Int32 → Int32 → Option HS) (hk_kR_X2_readLevel : ∀ (h : HS) (x0 : Int32) (x1 : Int32), pk (kR_X2_readLevel h x0 x1) (fun a => KF h a)) (kR_X2_readAsk : HS → Int32 → Option HS) (hk_kR_X2_readAsk : ∀ (h : HS) (x0 : Int32), pk (kR_X2_readAsk h x0) (fun a => KF h a)) (kR_X2_readOne : HS → Int32 → Option HS) (hk_kR_X2_readOne : ∀ (h : HS) (x0 : Int32), pk (kR_X2_readOne h x0) (fun a => KF h a)) (h : HS) : pk (f_X2_readAsk_2_34 kR_X2_readLevel kR_X2_readAsk kR_X2_readOne h) (fun a => KF h a) := by
  unfold f_X2_readAsk_2_34
  exact pk_some (KF_refl h)
theorem kf_f_X2_readAsk_2_b (kR_X2_readLevel : HS → Int32 → Int32 → Option HS) (hk_kR_X2_readLevel : ∀ (h : HS) (x0 : Int32) (x1 : Int32), pk (kR_X2_readLevel h x0 x1) (fun a => KF h a)) (kR_X2_readAsk : HS → Int32 → Option HS) (hk_kR_X2_readAsk : ∀ (h : HS) (x0 : Int32), pk (kR_X2_readAsk h x0) (fun a => KF h a)) (kR_X2_readOne : HS → Int32 → Option HS) (hk_kR_X2_readOne : ∀ (h : HS) (x0 : Int32), pk (kR_X2_readOne h x0) (fun a => KF h a)) (h : HS) (p1 : Int32) : pk (f_X2_readAsk_2_b kR_X2_readLevel kR_X2_readAsk kR_X2_readOne h p1) (fun a => KF h a) := by
  unfold f_X2_readAsk_2_b
  refine pk_ob2 (pk_mono (w_f_X7_kind h) (fun _ k => KF_fr k (by decide))) (fun r_1 h_1 k_1 => ?_)
  replace k_1 := KF_trans (KF_refl h) k_1
  refine pk_if (fun _ => ?_) (fun _ => ?_)
  · refine pk_ob2 (kf_f_X2_opens h_1 p1) (fun r_7 h_7 k_2 => ?_)
    replace k_2 := KF_trans k_1 k_2
    refine pk_if (fun _ => ?_) (fun _ => ?_)
    · exact pk_mono (kf_f_X2_readAsk_2_34 kR_X2_readLevel hk_kR_X2_readLevel kR_X2_readAsk hk_kR_X2_readAsk kR_X2_readOne hk_kR_X2_readOne h_7) (fun _ k => KF_trans k_2 k)
    · refine pk_ob1 (hk_kR_X2_readAsk h_7 (p1 + 1)) (fun h_9 k_3 => ?_)
      replace k_3 := KF_trans k_2 k_3
      refine pk_ob1 (pk_mono (w_f_X6_addStep_2 h_9 20028) (fun _ k => KF_fr k (by decide))) (fun h_10 k_4 => ?_)
      replace k_4 := KF_trans k_3 k_4
      exact pk_mono (kf_f_X2_readAsk_2_34 kR_X2_readLevel hk_kR_X2_readLevel kR_X2_readAsk hk_kR_X2_readAsk kR_X2_readOne hk_kR_X2_readOne h_10) (fun _ k => KF_trans k_4 k)
  · refine pk_ob1 (hk_kR_X2_readLevel h_1 3 p1) (fun h_3 k_5 => ?_)
    replace k_5 := KF_trans k_1 k_5
    refine pk_ob2 (pk_mono (w_f_X7_kind h_3) (fun _ k => KF_fr k (by decide))) (fun r_4 h_4 k_6 => ?_)
    replace k_6 := KF_trans k_5 k_6
    refine pk_if (fun _ => ?_) (fun _ => ?_)
    · exact pk_mono (kf_f_X2_readAsk_2_62 kR_X2_readLevel hk_kR_X2_readLevel kR_X2_readAsk hk_kR_X2_readAsk kR_X2_readOne hk_kR_X2_readOne h_4 p1 r_4) (fun _ k => KF_trans k_6 k)
    · refine pk_if (fun _ => ?_) (fun _ => ?_)
      · exact pk_mono (kf_f_X2_readAsk_2_68 kR_X2_readLevel hk_kR_X2_readLevel kR_X2_readAsk hk_kR_X2_readAsk kR_X2_readOne hk_kR_X2_readOne h_4 p1 r_4) (fun _ k => KF_trans k_6 k)
      · exact pk_mono (kf_f_X2_readAsk_2_62 kR_X2_readLevel hk_kR_X2_readLevel kR_X2_readAsk hk_kR_X2_readAsk kR_X2_readOne hk_kR_X2_readOne h_4 p1 r_4) (fun _ k => KF_trans k_6 k)
theorem kf_f_X2_readOne_2_121 (kR_X2_readLevel : HS → Int32 → Int32 → Option HS) (hk_kR_X2_readLevel : ∀ (h : HS) (x0 : Int32) (x1 : Int32), pk (kR_X2_readLevel h x0 x1) (fun a => KF h a)) (kR_X2_readAsk : HS → Int32 → Option HS) (hk_kR_X2_readAsk : ∀ (h : HS) (x0 : Int32), pk (kR_X2_readAsk h x0) (fun a => KF h a)) (kR_X2_readOne : HS → Int32 → Option HS) (hk_kR_X2_readOne : ∀ (h : HS) (x0 : Int32), pk (kR_X2_readOne h x0) (fun a => KF h a)) (h : HS) : pk (f_X2_readOne_2_121 kR_X2_readLevel kR_X2_readAsk kR_X2_readOne h) (fun a => KF h a) := by
  unfold f_X2_readOne_2_121
  exact pk_some (KF_refl h)
theorem kf_f_X2_readOne_2_44 (kR_X2_readLevel : HS → Int32 → Int32 → Option HS) (hk_kR_X2_readLevel : ∀ (h : HS) (x0 : Int32) (x1 : Int32), pk (kR_X2_readLevel h x0 x1) (fun a => KF h a)) (kR_X2_readAsk : HS → Int32 → Option HS) (hk_kR_X2_readAsk : ∀ (h : HS) (x0 : Int32), pk (kR_X2_readAsk h x0) (fun a => KF h a)) (kR_X2_readOne : HS → Int32 → Option HS) (hk_kR_X2_readOne : ∀ (h : HS) (x0 : Int32), pk (kR_X2_readOne h x0) (fun a => KF h a)) (h : HS) (x3 : Int32) (x4 : Int32) : pk (f_X2_readOne_2_44 kR_X2_readLevel kR_X2_readAsk kR_X2_readOne h x3 x4) (fun a => KF h a) := by
  unfold f_X2_readOne_2_44
  refine pk_if (fun _ => ?_) (fun _ => ?_)
  · refine pk_ob2 (kf_f_X2_opens h x3) (fun r_14 h_14 k_1 => ?_)
    replace k_1 := KF_trans (KF_refl h) k_1
    refine pk_if (fun _ => ?_) (fun _ => ?_)
    · exact pk_mono (kf_f_X2_readOne_2_121 kR_X2_readLevel hk_kR_X2_readLevel kR_X2_readAsk hk_kR_X2_readAsk kR_X2_readOne hk_kR_X2_readOne h_14) (fun _ k => KF_trans k_1 k)
    · refine pk_ob1 (hk_kR_X2_readLevel h_14 3 (x3 + 1)) (fun h_16 k_2 => ?_)
      replace k_2 := KF_trans k_1 k_2
      refine pk_ob1 (kf_f_X2_expect h_16 14) (fun h_17 k_3 => ?_)
      replace k_3 := KF_trans k_2 k_3
      exact pk_mono (kf_f_X2_readOne_2_121 kR_X2_readLevel hk_kR_X2_readLevel kR_X2_readAsk hk_kR_X2_readAsk kR_X2_readOne hk_kR_X2_readOne h_17) (fun _ k => KF_trans k_3 k)
  · refine pk_if (fun _ => ?_) (fun _ => ?_)
    · refine pk_ob2 (kf_f_X2_opens h x3) (fun r_10 h_10 k_4 => ?_)
      replace k_4 := KF_trans (KF_refl h) k_4
      refine pk_if (fun _ => ?_) (fun _ => ?_)
      · exact pk_mono (kf_f_X2_readOne_2_121 kR_X2_readLevel hk_kR_X2_readLevel kR_X2_readAsk hk_kR_X2_readAsk kR_X2_readOne hk_kR_X2_readOne h_10) (fun _ k => KF_trans k_4 k)
      · refine pk_ob1 (hk_kR_X2_readOne h_10 (x3 + 1)) (fun h_12 k_5 => ?_)
        replace k_5 := KF_trans k_4 k_5
        refine pk_ob1 (pk_mono (w_f_X6_addStep_2 h_12 20038) (fun _ k => KF_fr k (by decide))) (fun h_13 k_6 => ?_)
        replace k_6 := KF_trans k_5 k_6
        exact pk_mono (kf_f_X2_readOne_2_121 kR_X2_readLevel hk_kR_X2_readLevel kR_X2_readAsk hk_kR_X2_readAsk kR_X2_readOne hk_kR_X2_readOne h_13) (fun _ k => KF_trans k_6 k)
    · refine pk_ob1 (kf_f_X2_fail h 1) (fun h_9 k_7 => ?_)
      replace k_7 := KF_trans (KF_refl h) k_7
      exact pk_mono (kf_f_X2_readOne_2_121 kR_X2_readLevel hk_kR_X2_readLevel kR_X2_readAsk hk_kR_X2_readAsk kR_X2_readOne hk_kR_X2_readOne h_9) (fun _ k => KF_trans k_7 k)
theorem kf_f_X2_readOne_2_b (kR_X2_readLevel : HS → Int32 → Int32 → Option HS) (hk_kR_X2_readLevel : ∀ (h : HS) (x0 : Int32) (x1 : Int32), pk (kR_X2_readLevel h x0 x1) (fun a => KF h a)) (kR_X2_readAsk : HS → Int32 → Option HS) (hk_kR_X2_readAsk : ∀ (h : HS) (x0 : Int32), pk (kR_X2_readAsk h x0) (fun a => KF h a)) (kR_X2_readOne : HS → Int32 → Option HS) (hk_kR_X2_readOne : ∀ (h : HS) (x0 : Int32), pk (kR_X2_readOne h x0) (fun a => KF h a)) (h : HS) (p1 : Int32) : pk (f_X2_readOne_2_b kR_X2_readLevel kR_X2_readAsk kR_X2_readOne h p1) (fun a => KF h a) := by
  unfold f_X2_readOne_2_b
  refine pk_ob2 (pk_mono (w_f_X7_kind h) (fun _ k => KF_fr k (by decide))) (fun r_1 h_1 k_1 => ?_)
  replace k_1 := KF_trans (KF_refl h) k_1
  refine pk_if (fun _ => ?_) (fun _ => ?_)
  · refine pk_ob1 (kf_f_X2_readValue_2 h_1) (fun h_6 k_2 => ?_)
    replace k_2 := KF_trans k_1 k_2
    exact pk_mono (kf_f_X2_readOne_2_121 kR_X2_readLevel hk_kR_X2_readLevel kR_X2_readAsk hk_kR_X2_readAsk kR_X2_readOne hk_kR_X2_readOne h_6) (fun _ k => KF_trans k_2 k)
  · refine pk_if (fun _ => ?_) (fun _ => ?_)
    · exact pk_mono (kf_f_X2_readOne_2_44 kR_X2_readLevel hk_kR_X2_readLevel kR_X2_readAsk hk_kR_X2_readAsk kR_X2_readOne hk_kR_X2_readOne h_1 p1 r_1) (fun _ k => KF_trans k_1 k)
    · refine pk_if (fun _ => ?_) (fun _ => ?_)
      · exact pk_mono (kf_f_X2_readOne_2_44 kR_X2_readLevel hk_kR_X2_readLevel kR_X2_readAsk hk_kR_X2_readAsk kR_X2_readOne hk_kR_X2_readOne h_1 p1 r_1) (fun _ k => KF_trans k_1 k)
      · refine pk_ob1 (kf_f_X2_readName_2 h_1) (fun h_5 k_3 => ?_)
        replace k_3 := KF_trans k_1 k_3
        exact pk_mono (kf_f_X2_readOne_2_121 kR_X2_readLevel hk_kR_X2_readLevel kR_X2_readAsk hk_kR_X2_readAsk kR_X2_readOne hk_kR_X2_readOne h_5) (fun _ k => KF_trans k_3 k)
theorem kf_G_read_2 : ∀ (n t : Nat) (h : HS) (p1 p2 : Int32), pk (G_read_2 n t h p1 p2) (fun a => KF h a) := by
  intro n
  induction n with
  | zero => intro t h p1 p2; exact (by simp [G_read_2]; exact pk_none)
  | succ n ih =>
    intro t h p1 p2
    match t with
    | 0 => exact kf_f_X2_readLevel_2_b (fun h p1 p2 => G_read_2 n 0 h p1 p2) (fun h p1 p2 => ih 0 h p1 p2) (fun h p1 => G_read_2 n 1 h p1 0) (fun h p1 => ih 1 h p1 0) (fun h p1 => G_read_2 n 2 h p1 0) (fun h p1 => ih 2 h p1 0) h p1 p2
    | 1 => exact kf_f_X2_readAsk_2_b (fun h p1 p2 => G_read_2 n 0 h p1 p2) (fun h p1 p2 => ih 0 h p1 p2) (fun h p1 => G_read_2 n 1 h p1 0) (fun h p1 => ih 1 h p1 0) (fun h p1 => G_read_2 n 2 h p1 0) (fun h p1 => ih 2 h p1 0) h p1
    | t + 2 => exact kf_f_X2_readOne_2_b (fun h p1 p2 => G_read_2 n 0 h p1 p2) (fun h p1 p2 => ih 0 h p1 p2) (fun h p1 => G_read_2 n 1 h p1 0) (fun h p1 => ih 1 h p1 0) (fun h p1 => G_read_2 n 2 h p1 0) (fun h p1 => ih 2 h p1 0) h p1
theorem kf_f_X2_readClause_2_25 (h : HS) : pk (f_X2_readClause_2_25 h) (fun a => KF h a) := by
  unfold f_X2_readClause_2_25
  refine pk_ob1 (kf_f_X2_fail h 1) (fun h_15 k_1 => ?_)
  replace k_1 := KF_trans (KF_refl h) k_1
  exact pk_mono (pk_mono (w_f_X2_readClause_2_158 h_15) (fun _ k => KF_fr k (by decide))) (fun _ k => KF_trans k_1 k)
theorem kf_f_X2_readClause_2_141 (h : HS) : pk (f_X2_readClause_2_141 h) (fun a => KF h a) := by
  unfold f_X2_readClause_2_141
  refine pk_ob1 (kf_f_X2_expect h 15) (fun h_16 k_1 => ?_)
  replace k_1 := KF_trans (KF_refl h) k_1
  exact pk_mono (pk_mono (w_f_X2_readClause_2_158 (sI h_16 11 1 ((eI h_16 11 1) + 1))) (fun _ k => KF_fr k (by decide))) (fun _ k => KF_trans (KF_trans k_1 (KF_fr (Fr_sI (S := [(0, 11, 1)]) (by decide) (Fr_refl _ _)) (by decide))) k)
theorem kf_f_X2_readClause_2_119 (h : HS) (y0 : Int32) : pk (f_X2_readClause_2_119 h y0) (fun a => KF h a) := by
  unfold f_X2_readClause_2_119
  refine pk_ob1 (kf_G_read_2 200 0 h y0 0) (fun h_17 k_1 => ?_)
  replace k_1 := KF_trans (KF_refl h) k_1
  refine pk_ob1 (pk_mono (w_f_X6_closeLaw_2 h_17 (eI h_17 5 2)) (fun _ k => KF_fr k (by decide))) (fun h_18 k_2 => ?_)
  replace k_2 := KF_trans k_1 k_2
  exact pk_mono (kf_f_X2_readClause_2_141 h_18) (fun _ k => KF_trans k_2 k)
theorem kf_f_X2_readClause_2 (h : HS) : pk (f_X2_readClause_2 h) (fun a => KF h a) := by
  unfold f_X2_readClause_2
  refine pk_ob2 (pk_mono (w_f_X7_kind h) (fun _ k => KF_fr k (by decide))) (fun r_1 h_1 k_1 => ?_)
  replace k_1 := KF_trans (KF_refl h) k_1
  refine pk_if (fun _ => ?_) (fun _ => ?_)
  · exact pk_mono (kf_f_X2_readClause_2_25 (sI h_1 5 2 (r_1 - 16))) (fun _ k => KF_trans (KF_trans k_1 (KF_fr (Fr_sI (S := [(0, 5, 2)]) (by decide) (Fr_refl _ _)) (by decide))) k)
  · refine pk_if (fun _ => ?_) (fun _ => ?_)
    · refine pk_ob2 (pk_mono (w_f_X6_hasLaw_2 (sI h_1 5 2 (r_1 - 16)) (r_1 - 16)) (fun _ k => KF_fr k (by decide))) (fun r_4 h_4 k_2 => ?_)
      replace k_2 := KF_trans (KF_trans k_1 (KF_fr (Fr_sI (S := [(0, 5, 2)]) (by decide) (Fr_refl _ _)) (by decide))) k_2
      refine pk_if (fun _ => ?_) (fun _ => ?_)
      · refine pk_if (fun _ => ?_) (fun _ => ?_)
        · refine pk_ob1 (pk_mono (w_f_X6_setClause_2 h_4 (eI h_4 11 1) 0 r_1) (fun _ k => KF_fr k (by decide))) (fun h_7 k_3 => ?_)
          replace k_3 := KF_trans k_2 k_3
          refine pk_ob1 (pk_mono (w_f_X7_advance h_7) (fun _ k => KF_fr k (by decide))) (fun h_8 k_4 => ?_)
          replace k_4 := KF_trans k_3 k_4
          refine pk_if (fun _ => ?_) (fun _ => ?_)
          · refine pk_ob1 (kf_f_X2_readDeed_2 h_8 r_1) (fun h_10 k_5 => ?_)
            replace k_5 := KF_trans k_4 k_5
            exact pk_mono (kf_f_X2_readClause_2_141 h_10) (fun _ k => KF_trans k_5 k)
          · refine pk_ob1 (pk_mono (w_f_X6_beginLaw_2 h_8 (eI h_8 5 2)) (fun _ k => KF_fr k (by decide))) (fun h_11 k_6 => ?_)
            replace k_6 := KF_trans k_4 k_6
            refine pk_if (fun _ => ?_) (fun _ => ?_)
            · exact pk_mono (kf_f_X2_readClause_2_119 h_11 0) (fun _ k => KF_trans k_6 k)
            · exact pk_mono (kf_f_X2_readClause_2_119 h_11 3) (fun _ k => KF_trans k_6 k)
        · refine pk_ob1 (kf_f_X2_fail h_4 6) (fun h_13 k_7 => ?_)
          replace k_7 := KF_trans k_2 k_7
          exact pk_mono (pk_mono (w_f_X2_readClause_2_158 h_13) (fun _ k => KF_fr k (by decide))) (fun _ k => KF_trans k_7 k)
      · refine pk_ob1 (kf_f_X2_fail h_4 4) (fun h_14 k_8 => ?_)
        replace k_8 := KF_trans k_2 k_8
        exact pk_mono (pk_mono (w_f_X2_readClause_2_158 h_14) (fun _ k => KF_fr k (by decide))) (fun _ k => KF_trans k_8 k)
    · exact pk_mono (kf_f_X2_readClause_2_25 (sI h_1 5 2 (r_1 - 16))) (fun _ k => KF_trans (KF_trans k_1 (KF_fr (Fr_sI (S := [(0, 5, 2)]) (by decide) (Fr_refl _ _)) (by decide))) k)
theorem kf_f_X2_readValue_3 (h : HS) : pk (f_X2_readValue_3 h) (fun a => KF h a) := by
  unfold f_X2_readValue_3
  refine pk_ob2 (pk_mono (w_f_X7_value h) (fun _ k => KF_fr k (by decide))) (fun r_1 h_1 k_1 => ?_)
  replace k_1 := KF_trans (KF_refl h) k_1
  refine pk_if (fun _ => ?_) (fun _ => ?_)
  · refine pk_ob2 (pk_mono (w_f_X7_value h_1) (fun _ k => KF_fr k (by decide))) (fun r_3 h_3 k_2 => ?_)
    replace k_2 := KF_trans k_1 k_2
    refine pk_ob1 (pk_mono (w_f_X6_addStep_3 h_3 r_3) (fun _ k => KF_fr k (by decide))) (fun h_4 k_3 => ?_)
    replace k_3 := KF_trans k_2 k_3
    refine pk_ob1 (pk_mono (w_f_X7_advance h_4) (fun _ k => KF_fr k (by decide))) (fun h_5 k_4 => ?_)
    replace k_4 := KF_trans k_3 k_4
    exact pk_some k_4
  · refine pk_ob1 (kf_f_X2_fail h_1 2) (fun h_6 k_5 => ?_)
    replace k_5 := KF_trans k_1 k_5
    exact pk_some k_5
theorem kf_f_X2_readName_3 (h : HS) : pk (f_X2_readName_3 h) (fun a => KF h a) := by
  unfold f_X2_readName_3
  refine pk_ob2 (pk_mono (w_f_X7_kind h) (fun _ k => KF_fr k (by decide))) (fun r_1 h_1 k_1 => ?_)
  replace k_1 := KF_trans (KF_refl h) k_1
  refine pk_if (fun _ => ?_) (fun _ => ?_)
  · exact pk_mono (pk_mono (w_f_X2_readName_3_31 h_1) (fun _ k => KF_fr k (by decide))) (fun _ k => KF_trans k_1 k)
  · refine pk_if (fun _ => ?_) (fun _ => ?_)
    · exact pk_mono (pk_mono (w_f_X2_readName_3_31 h_1) (fun _ k => KF_fr k (by decide))) (fun _ k => KF_trans k_1 k)
    · refine pk_if (fun _ => ?_) (fun _ => ?_)
      · exact pk_mono (pk_mono (w_f_X2_readName_3_31 h_1) (fun _ k => KF_fr k (by decide))) (fun _ k => KF_trans k_1 k)
      · refine pk_ob1 (kf_f_X2_fail h_1 5) (fun h_5 k_2 => ?_)
        replace k_2 := KF_trans k_1 k_2
        exact pk_some k_2
theorem kf_f_X2_readNumber_3_43 (h : HS) : pk (f_X2_readNumber_3_43 h) (fun a => KF h a) := by
  unfold f_X2_readNumber_3_43
  refine pk_ob1 (kf_f_X2_fail h 2) (fun h_12 k_1 => ?_)
  replace k_1 := KF_trans (KF_refl h) k_1
  exact pk_mono (pk_mono (w_f_X2_readNumber_3_69 h_12) (fun _ k => KF_fr k (by decide))) (fun _ k => KF_trans k_1 k)
theorem kf_f_X2_readNumber_3 (h : HS) (p1 : Int32) (p2 : Int32) (p3 : Int32) : pk (f_X2_readNumber_3 h p1 p2 p3) (fun a => KF h a) := by
  unfold f_X2_readNumber_3
  refine pk_if (fun _ => ?_) (fun _ => ?_)
  · refine pk_ob2 (pk_mono (w_f_X7_kind h) (fun _ k => KF_fr k (by decide))) (fun r_2 h_2 k_1 => ?_)
    replace k_1 := KF_trans (KF_refl h) k_1
    refine pk_if (fun _ => ?_) (fun _ => ?_)
    · refine pk_ob2 (pk_mono (w_f_X7_value h_2) (fun _ k => KF_fr k (by decide))) (fun r_4 h_4 k_2 => ?_)
      replace k_2 := KF_trans k_1 k_2
      refine pk_if (fun _ => ?_) (fun _ => ?_)
      · exact pk_mono (kf_f_X2_readNumber_3_43 h_4) (fun _ k => KF_trans k_2 k)
      · refine pk_ob2 (pk_mono (w_f_X7_value h_4) (fun _ k => KF_fr k (by decide))) (fun r_6 h_6 k_3 => ?_)
        replace k_3 := KF_trans k_2 k_3
        refine pk_if (fun _ => ?_) (fun _ => ?_)
        · refine pk_ob2 (pk_mono (w_f_X7_value h_6) (fun _ k => KF_fr k (by decide))) (fun r_8 h_8 k_4 => ?_)
          replace k_4 := KF_trans k_3 k_4
          refine pk_ob1 (pk_mono (w_f_X6_setClause_3 h_8 (eI h_6 12 1) p1 r_8) (fun _ k => KF_fr k (by decide))) (fun h_9 k_5 => ?_)
          replace k_5 := KF_trans k_4 k_5
          refine pk_ob1 (pk_mono (w_f_X7_advance h_9) (fun _ k => KF_fr k (by decide))) (fun h_10 k_6 => ?_)
          replace k_6 := KF_trans k_5 k_6
          exact pk_mono (pk_mono (w_f_X2_readNumber_3_69 h_10) (fun _ k => KF_fr k (by decide))) (fun _ k => KF_trans k_6 k)
        · exact pk_mono (kf_f_X2_readNumber_3_43 h_6) (fun _ k => KF_trans k_3 k)
    · refine pk_ob1 (kf_f_X2_fail h_2 1) (fun h_11 k_7 => ?_)
      replace k_7 := KF_trans k_1 k_7
      exact pk_mono (pk_mono (w_f_X2_readNumber_3_69 h_11) (fun _ k => KF_fr k (by decide))) (fun _ k => KF_trans k_7 k)
  · exact pk_some (KF_refl h)
theorem kf_f_X2_readDeed_3 (h : HS) (p1 : Int32) : pk (f_X2_readDeed_3 h p1) (fun a => KF h a) := by
  unfold f_X2_readDeed_3
  refine pk_if (fun _ => ?_) (fun _ => ?_)
  · refine pk_ob1 (kf_f_X2_readNumber_3 h 1 1 99) (fun h_11 k_1 => ?_)
    replace k_1 := KF_trans (KF_refl h) k_1
    exact pk_some k_1
  · refine pk_ob1 (kf_f_X2_readNumber_3 h 1 0 9) (fun h_2 k_2 => ?_)
    replace k_2 := KF_trans (KF_refl h) k_2
    refine pk_if (fun _ => ?_) (fun _ => ?_)
    · refine pk_ob1 (kf_f_X2_expect h_2 24) (fun h_7 k_3 => ?_)
      replace k_3 := KF_trans k_2 k_3
      refine pk_ob1 (kf_f_X2_readNumber_3 h_7 2 0 5) (fun h_8 k_4 => ?_)
      replace k_4 := KF_trans k_3 k_4
      refine pk_ob1 (kf_f_X2_expect h_8 33) (fun h_9 k_5 => ?_)
      replace k_5 := KF_trans k_4 k_5
      refine pk_ob1 (kf_f_X2_readNumber_3 h_9 3 0 2) (fun h_10 k_6 => ?_)
      replace k_6 := KF_trans k_5 k_6
      exact pk_mono (pk_mono (w_f_X2_readDeed_3_90 h_10) (fun _ k => KF_fr k (by decide))) (fun _ k => KF_trans k_6 k)
    · refine pk_if (fun _ => ?_) (fun _ => ?_)
      · refine pk_ob1 (kf_f_X2_expect h_2 25) (fun h_5 k_7 => ?_)
        replace k_7 := KF_trans k_2 k_7
        refine pk_ob1 (kf_f_X2_readNumber_3 h_5 2 0 3) (fun h_6 k_8 => ?_)
        replace k_8 := KF_trans k_7 k_8
        exact pk_mono (pk_mono (w_f_X2_readDeed_3_90 h_6) (fun _ k => KF_fr k (by decide))) (fun _ k => KF_trans k_8 k)
      · exact pk_mono (pk_mono (w_f_X2_readDeed_3_90 h_2) (fun _ k => KF_fr k (by decide))) (fun _ k => KF_trans k_2 k)
theorem kf_f_X2_readLevel_3_105 (kR_X2_readLevel : HS → Int32 → Int32 → Option HS) (hk_kR_X2_readLevel : ∀ (h : HS) (x0 : Int32) (x1 : Int32), pk (kR_X2_readLevel h x0 x1) (fun a => KF h a)) (kR_X2_readAsk : HS → Int32 → Option HS) (hk_kR_X2_readAsk : ∀ (h : HS) (x0 : Int32), pk (kR_X2_readAsk h x0) (fun a => KF h a)) (kR_X2_readOne : HS → Int32 → Option HS) (hk_kR_X2_readOne : ∀ (h : HS) (x0 : Int32), pk (kR_X2_readOne h x0) (fun a => KF h a)) (h : HS) : pk (f_X2_readLevel_3_105 kR_X2_readLevel kR_X2_readAsk kR_X2_readOne h) (fun a => KF h a) := by
  unfold f_X2_readLevel_3_105
  exact pk_some (KF_refl h)
theorem kf_f_X2_readLevel_3_42 (kR_X2_readLevel : HS → Int32 → Int32 → Option HS) (hk_kR_X2_readLevel : ∀ (h : HS) (x0 : Int32) (x1 : Int32), pk (kR_X2_readLevel h x0 x1) (fun a => KF h a)) (kR_X2_readAsk : HS → Int32 → Option HS) (hk_kR_X2_readAsk : ∀ (h : HS) (x0 : Int32), pk (kR_X2_readAsk h x0) (fun a => KF h a)) (kR_X2_readOne : HS → Int32 → Option HS) (hk_kR_X2_readOne : ∀ (h : HS) (x0 : Int32), pk (kR_X2_readOne h x0) (fun a => KF h a)) : ∀ (n : Nat) (h : HS) (x3 : Int32) (x4 : Int32) (x5 : Int32), pk (f_X2_readLevel_3_42 kR_X2_readLevel kR_X2_readAsk kR_X2_readOne n h x3 x4 x5) (fun a => KF h a) := by
  intro n
  induction n with
  | zero => intro h x3 x4 x5; exact pk_none
  | succ n ih =>
    intro h x3 x4 x5
    rw [f_X2_readLevel_3_42_s]
    refine pk_if (fun _ => ?_) (fun _ => ?_)
    · exact pk_mono (kf_f_X2_readLevel_3_105 kR_X2_readLevel hk_kR_X2_readLevel kR_X2_readAsk hk_kR_X2_readAsk kR_X2_readOne hk_kR_X2_readOne h) (fun _ k => KF_trans (KF_refl h) k)
    · refine pk_if (fun _ => ?_) (fun _ => ?_)
      · refine pk_ob2 (pk_mono (w_f_X7_kind h) (fun _ k => KF_fr k (by decide))) (fun r_8 h_8 k_1 => ?_)
        replace k_1 := KF_trans (KF_refl h) k_1
        refine pk_obf (fun r_9 => ?_)
        refine pk_if (fun _ => ?_) (fun _ => ?_)
        · refine pk_ob2 (pk_mono (w_f_X7_kind h_8) (fun _ k => KF_fr k (by decide))) (fun r_11 h_11 k_2 => ?_)
          replace k_2 := KF_trans k_1 k_2
          refine pk_ob1 (pk_mono (w_f_X7_advance h_11) (fun _ k => KF_fr k (by decide))) (fun h_12 k_3 => ?_)
          replace k_3 := KF_trans k_2 k_3
          refine pk_ob1 (hk_kR_X2_readLevel h_12 (x3 + 1) x4) (fun h_13 k_4 => ?_)
          replace k_4 := KF_trans k_3 k_4
          refine pk_ob1 (pk_mono (w_f_X6_addStep_3 h_13 (20000 + r_11)) (fun _ k => KF_fr k (by decide))) (fun h_14 k_5 => ?_)
          replace k_5 := KF_trans k_4 k_5
          exact pk_mono (ih h_14 x3 x4 (x5 + 1)) (fun _ k => KF_trans k_5 k)
        · exact pk_mono (kf_f_X2_readLevel_3_105 kR_X2_readLevel hk_kR_X2_readLevel kR_X2_readAsk hk_kR_X2_readAsk kR_X2_readOne hk_kR_X2_readOne h_8) (fun _ k => KF_trans k_1 k)
      · exact pk_mono (kf_f_X2_readLevel_3_105 kR_X2_readLevel hk_kR_X2_readLevel kR_X2_readAsk hk_kR_X2_readAsk kR_X2_readOne hk_kR_X2_readOne h) (fun _ k => KF_trans (KF_refl h) k)
theorem kf_f_X2_readLevel_3_b (kR_X2_readLevel : HS → Int32 → Int32 → Option HS) (hk_kR_X2_readLevel : ∀ (h : HS) (x0 : Int32) (x1 : Int32), pk (kR_X2_readLevel h x0 x1) (fun a => KF h a)) (kR_X2_readAsk : HS → Int32 → Option HS) (hk_kR_X2_readAsk : ∀ (h : HS) (x0 : Int32), pk (kR_X2_readAsk h x0) (fun a => KF h a)) (kR_X2_readOne : HS → Int32 → Option HS) (hk_kR_X2_readOne : ∀ (h : HS) (x0 : Int32), pk (kR_X2_readOne h x0) (fun a => KF h a)) (h : HS) (p1 : Int32) (p2 : Int32) : pk (f_X2_readLevel_3_b kR_X2_readLevel kR_X2_readAsk kR_X2_readOne h p1 p2) (fun a => KF h a) := by
  unfold f_X2_readLevel_3_b
  refine pk_if (fun _ => ?_) (fun _ => ?_)
  · refine pk_ob1 (hk_kR_X2_readAsk h p2) (fun h_5 k_1 => ?_)
    replace k_1 := KF_trans (KF_refl h) k_1
    exact pk_some k_1
  · refine pk_if (fun _ => ?_) (fun _ => ?_)
    · refine pk_ob1 (hk_kR_X2_readOne h p2) (fun h_4 k_2 => ?_)
      replace k_2 := KF_trans (KF_refl h) k_2
      exact pk_some k_2
    · refine pk_ob1 (hk_kR_X2_readLevel h (p1 + 1) p2) (fun h_3 k_3 => ?_)
      replace k_3 := KF_trans (KF_refl h) k_3
      exact pk_mono (kf_f_X2_readLevel_3_42 kR_X2_readLevel hk_kR_X2_readLevel kR_X2_readAsk hk_kR_X2_readAsk kR_X2_readOne hk_kR_X2_readOne 8589934592 h_3 p1 p2 0) (fun _ k => KF_trans k_3 k)
theorem kf_f_X2_readAsk_3_97 (kR_X2_readLevel : HS → Int32 → Int32 → Option HS) (hk_kR_X2_readLevel : ∀ (h : HS) (x0 : Int32) (x1 : Int32), pk (kR_X2_readLevel h x0 x1) (fun a => KF h a)) (kR_X2_readAsk : HS → Int32 → Option HS) (hk_kR_X2_readAsk : ∀ (h : HS) (x0 : Int32), pk (kR_X2_readAsk h x0) (fun a => KF h a)) (kR_X2_readOne : HS → Int32 → Option HS) (hk_kR_X2_readOne : ∀ (h : HS) (x0 : Int32), pk (kR_X2_readOne h x0) (fun a => KF h a)) (h : HS) : pk (f_X2_readAsk_3_97 kR_X2_readLevel kR_X2_readAsk kR_X2_readOne h) (fun a => KF h a) := by
  unfold f_X2_readAsk_3_97
  exact pk_some (KF_refl h)
theorem kf_f_X2_readAsk_3_68 (kR_X2_readLevel : HS → Int32 → Int32 → Option HS) (hk_kR_X2_readLevel : ∀ (h : HS) (x0 : Int32) (x1 : Int32), pk (kR_X2_readLevel h x0 x1) (fun a => KF h a)) (kR_X2_readAsk : HS → Int32 → Option HS) (hk_kR_X2_readAsk : ∀ (h : HS) (x0 : Int32), pk (kR_X2_readAsk h x0) (fun a => KF h a)) (kR_X2_readOne : HS → Int32 → Option HS) (hk_kR_X2_readOne : ∀ (h : HS) (x0 : Int32), pk (kR_X2_readOne h x0) (fun a => KF h a)) (h : HS) (x3 : Int32) (x4 : Int32) : pk (f_X2_readAsk_3_68 kR_X2_readLevel kR_X2_readAsk kR_X2_readOne h x3 x4) (fun a => KF h a) := by
  unfold f_X2_readAsk_3_68
  refine pk_if (fun _ => ?_) (fun _ => ?_)
  · refine pk_ob1 (pk_mono (w_f_X7_advance h) (fun _ k => KF_fr k (by decide))) (fun h_13 k_1 => ?_)
    replace k_1 := KF_trans (KF_refl h) k_1
    refine pk_ob1 (hk_kR_X2_readLevel h_13 3 x3) (fun h_14 k_2 => ?_)
    replace k_2 := KF_trans k_1 k_2
    refine pk_ob1 (pk_mono (w_f_X6_addStep_3 h_14 (20000 + x4)) (fun _ k => KF_fr k (by decide))) (fun h_15 k_3 => ?_)
    replace k_3 := KF_trans k_2 k_3
    exact pk_mono (kf_f_X2_readAsk_3_97 kR_X2_readLevel hk_kR_X2_readLevel kR_X2_readAsk hk_kR_X2_readAsk kR_X2_readOne hk_kR_X2_readOne h_15) (fun _ k => KF_trans k_3 k)
  · exact pk_mono (kf_f_X2_readAsk_3_97 kR_X2_readLevel hk_kR_X2_readLevel kR_X2_readAsk hk_kR_X2_readAsk kR_X2_readOne hk_kR_X2_readOne h) (fun _ k => KF_trans (KF_refl h) k)
theorem kf_f_X2_readAsk_3_62 (kR_X2_readLevel : HS → Int32 → Int32 → Option HS) (hk_kR_X2_readLevel : ∀ (h : HS) (x0 : Int32) (x1 : Int32), pk (kR_X2_readLevel h x0 x1) (fun a => KF h a)) (kR_X2_readAsk : HS → Int32 → Option HS) (hk_kR_X2_readAsk : ∀ (h : HS) (x0 : Int32), pk (kR_X2_readAsk h x0) (fun a => KF h a)) (kR_X2_readOne : HS → Int32 → Option HS) (hk_kR_X2_readOne : ∀ (h : HS) (x0 : Int32), pk (kR_X2_readOne h x0) (fun a => KF h a)) (h : HS) (x3 : Int32) (x4 : Int32) : pk (f_X2_readAsk_3_62 kR_X2_readLevel kR_X2_readAsk kR_X2_readOne h x3 x4) (fun a => KF h a) := by
  unfold f_X2_readAsk_3_62
  refine pk_ob1 (kf_f_X2_fail h 1) (fun h_11 k_1 => ?_)
  replace k_1 := KF_trans (KF_refl h) k_1
  exact pk_mono (kf_f_X2_readAsk_3_68 kR_X2_readLevel hk_kR_X2_readLevel kR_X2_readAsk hk_kR_X2_readAsk kR_X2_readOne hk_kR_X2_readOne h_11 x3 x4) (fun _ k => KF_trans k_1 k)
theorem kf_f_X2_readAsk_3_34 (kR_X2_readLevel : HS → Int32 → Int32 → Option HS) (hk_kR_X2_readLevel : ∀ (h : HS) (x0 : Int32) (x1 : Int32), pk (kR_X2_readLevel h x0 x1) (fun a => KF h a)) (kR_X2_readAsk : HS → Int32 → Option HS) (hk_kR_X2_readAsk : ∀ (h : HS) (x0 : Int32), pk (kR_X2_readAsk h x0) (fun a => KF h a)) (kR_X2_readOne : HS → Int32 → Option HS) (hk_kR_X2_readOne : ∀ (h : HS) (x0 : Int32), pk (kR_X2_readOne h x0) (fun a => KF h a)) (h : HS) : pk (f_X2_readAsk_3_34 kR_X2_readLevel kR_X2_readAsk kR_X2_readOne h) (fun a => KF h a) := by
  unfold f_X2_readAsk_3_34
  exact pk_some (KF_refl h)
theorem kf_f_X2_readAsk_3_b (kR_X2_readLevel : HS → Int32 → Int32 → Option HS) (hk_kR_X2_readLevel : ∀ (h : HS) (x0 : Int32) (x1 : Int32), pk (kR_X2_readLevel h x0 x1) (fun a => KF h a)) (kR_X2_readAsk : HS → Int32 → Option HS) (hk_kR_X2_readAsk : ∀ (h : HS) (x0 : Int32), pk (kR_X2_readAsk h x0) (fun a => KF h a)) (kR_X2_readOne : HS → Int32 → Option HS) (hk_kR_X2_readOne : ∀ (h : HS) (x0 : Int32), pk (kR_X2_readOne h x0) (fun a => KF h a)) (h : HS) (p1 : Int32) : pk (f_X2_readAsk_3_b kR_X2_readLevel kR_X2_readAsk kR_X2_readOne h p1) (fun a => KF h a) := by
  unfold f_X2_readAsk_3_b
  refine pk_ob2 (pk_mono (w_f_X7_kind h) (fun _ k => KF_fr k (by decide))) (fun r_1 h_1 k_1 => ?_)
  replace k_1 := KF_trans (KF_refl h) k_1
  refine pk_if (fun _ => ?_) (fun _ => ?_)
  · refine pk_ob2 (kf_f_X2_opens h_1 p1) (fun r_7 h_7 k_2 => ?_)
    replace k_2 := KF_trans k_1 k_2
    refine pk_if (fun _ => ?_) (fun _ => ?_)
    · exact pk_mono (kf_f_X2_readAsk_3_34 kR_X2_readLevel hk_kR_X2_readLevel kR_X2_readAsk hk_kR_X2_readAsk kR_X2_readOne hk_kR_X2_readOne h_7) (fun _ k => KF_trans k_2 k)
    · refine pk_ob1 (hk_kR_X2_readAsk h_7 (p1 + 1)) (fun h_9 k_3 => ?_)
      replace k_3 := KF_trans k_2 k_3
      refine pk_ob1 (pk_mono (w_f_X6_addStep_3 h_9 20028) (fun _ k => KF_fr k (by decide))) (fun h_10 k_4 => ?_)
      replace k_4 := KF_trans k_3 k_4
      exact pk_mono (kf_f_X2_readAsk_3_34 kR_X2_readLevel hk_kR_X2_readLevel kR_X2_readAsk hk_kR_X2_readAsk kR_X2_readOne hk_kR_X2_readOne h_10) (fun _ k => KF_trans k_4 k)
  · refine pk_ob1 (hk_kR_X2_readLevel h_1 3 p1) (fun h_3 k_5 => ?_)
    replace k_5 := KF_trans k_1 k_5
    refine pk_ob2 (pk_mono (w_f_X7_kind h_3) (fun _ k => KF_fr k (by decide))) (fun r_4 h_4 k_6 => ?_)
    replace k_6 := KF_trans k_5 k_6
    refine pk_if (fun _ => ?_) (fun _ => ?_)
    · exact pk_mono (kf_f_X2_readAsk_3_62 kR_X2_readLevel hk_kR_X2_readLevel kR_X2_readAsk hk_kR_X2_readAsk kR_X2_readOne hk_kR_X2_readOne h_4 p1 r_4) (fun _ k => KF_trans k_6 k)
    · refine pk_if (fun _ => ?_) (fun _ => ?_)
      · exact pk_mono (kf_f_X2_readAsk_3_68 kR_X2_readLevel hk_kR_X2_readLevel kR_X2_readAsk hk_kR_X2_readAsk kR_X2_readOne hk_kR_X2_readOne h_4 p1 r_4) (fun _ k => KF_trans k_6 k)
      · exact pk_mono (kf_f_X2_readAsk_3_62 kR_X2_readLevel hk_kR_X2_readLevel kR_X2_readAsk hk_kR_X2_readAsk kR_X2_readOne hk_kR_X2_readOne h_4 p1 r_4) (fun _ k => KF_trans k_6 k)
theorem kf_f_X2_readOne_3_121 (kR_X2_readLevel : HS → Int32 → Int32 → Option HS) (hk_kR_X2_readLevel : ∀ (h : HS) (x0 : Int32) (x1 : Int32), pk (kR_X2_readLevel h x0 x1) (fun a => KF h a)) (kR_X2_readAsk : HS → Int32 → Option HS) (hk_kR_X2_readAsk : ∀ (h : HS) (x0 : Int32), pk (kR_X2_readAsk h x0) (fun a => KF h a)) (kR_X2_readOne : HS → Int32 → Option HS) (hk_kR_X2_readOne : ∀ (h : HS) (x0 : Int32), pk (kR_X2_readOne h x0) (fun a => KF h a)) (h : HS) : pk (f_X2_readOne_3_121 kR_X2_readLevel kR_X2_readAsk kR_X2_readOne h) (fun a => KF h a) := by
  unfold f_X2_readOne_3_121
  exact pk_some (KF_refl h)
theorem kf_f_X2_readOne_3_44 (kR_X2_readLevel : HS → Int32 → Int32 → Option HS) (hk_kR_X2_readLevel : ∀ (h : HS) (x0 : Int32) (x1 : Int32), pk (kR_X2_readLevel h x0 x1) (fun a => KF h a)) (kR_X2_readAsk : HS → Int32 → Option HS) (hk_kR_X2_readAsk : ∀ (h : HS) (x0 : Int32), pk (kR_X2_readAsk h x0) (fun a => KF h a)) (kR_X2_readOne : HS → Int32 → Option HS) (hk_kR_X2_readOne : ∀ (h : HS) (x0 : Int32), pk (kR_X2_readOne h x0) (fun a => KF h a)) (h : HS) (x3 : Int32) (x4 : Int32) : pk (f_X2_readOne_3_44 kR_X2_readLevel kR_X2_readAsk kR_X2_readOne h x3 x4) (fun a => KF h a) := by
  unfold f_X2_readOne_3_44
  refine pk_if (fun _ => ?_) (fun _ => ?_)
  · refine pk_ob2 (kf_f_X2_opens h x3) (fun r_14 h_14 k_1 => ?_)
    replace k_1 := KF_trans (KF_refl h) k_1
    refine pk_if (fun _ => ?_) (fun _ => ?_)
    · exact pk_mono (kf_f_X2_readOne_3_121 kR_X2_readLevel hk_kR_X2_readLevel kR_X2_readAsk hk_kR_X2_readAsk kR_X2_readOne hk_kR_X2_readOne h_14) (fun _ k => KF_trans k_1 k)
    · refine pk_ob1 (hk_kR_X2_readLevel h_14 3 (x3 + 1)) (fun h_16 k_2 => ?_)
      replace k_2 := KF_trans k_1 k_2
      refine pk_ob1 (kf_f_X2_expect h_16 14) (fun h_17 k_3 => ?_)
      replace k_3 := KF_trans k_2 k_3
      exact pk_mono (kf_f_X2_readOne_3_121 kR_X2_readLevel hk_kR_X2_readLevel kR_X2_readAsk hk_kR_X2_readAsk kR_X2_readOne hk_kR_X2_readOne h_17) (fun _ k => KF_trans k_3 k)
  · refine pk_if (fun _ => ?_) (fun _ => ?_)
    · refine pk_ob2 (kf_f_X2_opens h x3) (fun r_10 h_10 k_4 => ?_)
      replace k_4 := KF_trans (KF_refl h) k_4
      refine pk_if (fun _ => ?_) (fun _ => ?_)
      · exact pk_mono (kf_f_X2_readOne_3_121 kR_X2_readLevel hk_kR_X2_readLevel kR_X2_readAsk hk_kR_X2_readAsk kR_X2_readOne hk_kR_X2_readOne h_10) (fun _ k => KF_trans k_4 k)
      · refine pk_ob1 (hk_kR_X2_readOne h_10 (x3 + 1)) (fun h_12 k_5 => ?_)
        replace k_5 := KF_trans k_4 k_5
        refine pk_ob1 (pk_mono (w_f_X6_addStep_3 h_12 20038) (fun _ k => KF_fr k (by decide))) (fun h_13 k_6 => ?_)
        replace k_6 := KF_trans k_5 k_6
        exact pk_mono (kf_f_X2_readOne_3_121 kR_X2_readLevel hk_kR_X2_readLevel kR_X2_readAsk hk_kR_X2_readAsk kR_X2_readOne hk_kR_X2_readOne h_13) (fun _ k => KF_trans k_6 k)
    · refine pk_ob1 (kf_f_X2_fail h 1) (fun h_9 k_7 => ?_)
      replace k_7 := KF_trans (KF_refl h) k_7
      exact pk_mono (kf_f_X2_readOne_3_121 kR_X2_readLevel hk_kR_X2_readLevel kR_X2_readAsk hk_kR_X2_readAsk kR_X2_readOne hk_kR_X2_readOne h_9) (fun _ k => KF_trans k_7 k)
theorem kf_f_X2_readOne_3_b (kR_X2_readLevel : HS → Int32 → Int32 → Option HS) (hk_kR_X2_readLevel : ∀ (h : HS) (x0 : Int32) (x1 : Int32), pk (kR_X2_readLevel h x0 x1) (fun a => KF h a)) (kR_X2_readAsk : HS → Int32 → Option HS) (hk_kR_X2_readAsk : ∀ (h : HS) (x0 : Int32), pk (kR_X2_readAsk h x0) (fun a => KF h a)) (kR_X2_readOne : HS → Int32 → Option HS) (hk_kR_X2_readOne : ∀ (h : HS) (x0 : Int32), pk (kR_X2_readOne h x0) (fun a => KF h a)) (h : HS) (p1 : Int32) : pk (f_X2_readOne_3_b kR_X2_readLevel kR_X2_readAsk kR_X2_readOne h p1) (fun a => KF h a) := by
  unfold f_X2_readOne_3_b
  refine pk_ob2 (pk_mono (w_f_X7_kind h) (fun _ k => KF_fr k (by decide))) (fun r_1 h_1 k_1 => ?_)
  replace k_1 := KF_trans (KF_refl h) k_1
  refine pk_if (fun _ => ?_) (fun _ => ?_)
  · refine pk_ob1 (kf_f_X2_readValue_3 h_1) (fun h_6 k_2 => ?_)
    replace k_2 := KF_trans k_1 k_2
    exact pk_mono (kf_f_X2_readOne_3_121 kR_X2_readLevel hk_kR_X2_readLevel kR_X2_readAsk hk_kR_X2_readAsk kR_X2_readOne hk_kR_X2_readOne h_6) (fun _ k => KF_trans k_2 k)
  · refine pk_if (fun _ => ?_) (fun _ => ?_)
    · exact pk_mono (kf_f_X2_readOne_3_44 kR_X2_readLevel hk_kR_X2_readLevel kR_X2_readAsk hk_kR_X2_readAsk kR_X2_readOne hk_kR_X2_readOne h_1 p1 r_1) (fun _ k => KF_trans k_1 k)
    · refine pk_if (fun _ => ?_) (fun _ => ?_)
      · exact pk_mono (kf_f_X2_readOne_3_44 kR_X2_readLevel hk_kR_X2_readLevel kR_X2_readAsk hk_kR_X2_readAsk kR_X2_readOne hk_kR_X2_readOne h_1 p1 r_1) (fun _ k => KF_trans k_1 k)
      · refine pk_ob1 (kf_f_X2_readName_3 h_1) (fun h_5 k_3 => ?_)
        replace k_3 := KF_trans k_1 k_3
        exact pk_mono (kf_f_X2_readOne_3_121 kR_X2_readLevel hk_kR_X2_readLevel kR_X2_readAsk hk_kR_X2_readAsk kR_X2_readOne hk_kR_X2_readOne h_5) (fun _ k => KF_trans k_3 k)
theorem kf_G_read_3 : ∀ (n t : Nat) (h : HS) (p1 p2 : Int32), pk (G_read_3 n t h p1 p2) (fun a => KF h a) := by
  intro n
  induction n with
  | zero => intro t h p1 p2; exact (by simp [G_read_3]; exact pk_none)
  | succ n ih =>
    intro t h p1 p2
    match t with
    | 0 => exact kf_f_X2_readLevel_3_b (fun h p1 p2 => G_read_3 n 0 h p1 p2) (fun h p1 p2 => ih 0 h p1 p2) (fun h p1 => G_read_3 n 1 h p1 0) (fun h p1 => ih 1 h p1 0) (fun h p1 => G_read_3 n 2 h p1 0) (fun h p1 => ih 2 h p1 0) h p1 p2
    | 1 => exact kf_f_X2_readAsk_3_b (fun h p1 p2 => G_read_3 n 0 h p1 p2) (fun h p1 p2 => ih 0 h p1 p2) (fun h p1 => G_read_3 n 1 h p1 0) (fun h p1 => ih 1 h p1 0) (fun h p1 => G_read_3 n 2 h p1 0) (fun h p1 => ih 2 h p1 0) h p1
    | t + 2 => exact kf_f_X2_readOne_3_b (fun h p1 p2 => G_read_3 n 0 h p1 p2) (fun h p1 p2 => ih 0 h p1 p2) (fun h p1 => G_read_3 n 1 h p1 0) (fun h p1 => ih 1 h p1 0) (fun h p1 => G_read_3 n 2 h p1 0) (fun h p1 => ih 2 h p1 0) h p1
theorem kf_f_X2_readClause_3_25 (h : HS) : pk (f_X2_readClause_3_25 h) (fun a => KF h a) := by
  unfold f_X2_readClause_3_25
  refine pk_ob1 (kf_f_X2_fail h 1) (fun h_15 k_1 => ?_)
  replace k_1 := KF_trans (KF_refl h) k_1
  exact pk_mono (pk_mono (w_f_X2_readClause_3_158 h_15) (fun _ k => KF_fr k (by decide))) (fun _ k => KF_trans k_1 k)
theorem kf_f_X2_readClause_3_141 (h : HS) : pk (f_X2_readClause_3_141 h) (fun a => KF h a) := by
  unfold f_X2_readClause_3_141
  refine pk_ob1 (kf_f_X2_expect h 15) (fun h_16 k_1 => ?_)
  replace k_1 := KF_trans (KF_refl h) k_1
  exact pk_mono (pk_mono (w_f_X2_readClause_3_158 (sI h_16 12 1 ((eI h_16 12 1) + 1))) (fun _ k => KF_fr k (by decide))) (fun _ k => KF_trans (KF_trans k_1 (KF_fr (Fr_sI (S := [(0, 12, 1)]) (by decide) (Fr_refl _ _)) (by decide))) k)
theorem kf_f_X2_readClause_3_119 (h : HS) (y0 : Int32) : pk (f_X2_readClause_3_119 h y0) (fun a => KF h a) := by
  unfold f_X2_readClause_3_119
  refine pk_ob1 (kf_G_read_3 200 0 h y0 0) (fun h_17 k_1 => ?_)
  replace k_1 := KF_trans (KF_refl h) k_1
  refine pk_ob1 (pk_mono (w_f_X6_closeLaw_3 h_17 (eI h_17 5 2)) (fun _ k => KF_fr k (by decide))) (fun h_18 k_2 => ?_)
  replace k_2 := KF_trans k_1 k_2
  exact pk_mono (kf_f_X2_readClause_3_141 h_18) (fun _ k => KF_trans k_2 k)
theorem kf_f_X2_readClause_3 (h : HS) : pk (f_X2_readClause_3 h) (fun a => KF h a) := by
  unfold f_X2_readClause_3
  refine pk_ob2 (pk_mono (w_f_X7_kind h) (fun _ k => KF_fr k (by decide))) (fun r_1 h_1 k_1 => ?_)
  replace k_1 := KF_trans (KF_refl h) k_1
  refine pk_if (fun _ => ?_) (fun _ => ?_)
  · exact pk_mono (kf_f_X2_readClause_3_25 (sI h_1 5 2 (r_1 - 16))) (fun _ k => KF_trans (KF_trans k_1 (KF_fr (Fr_sI (S := [(0, 5, 2)]) (by decide) (Fr_refl _ _)) (by decide))) k)
  · refine pk_if (fun _ => ?_) (fun _ => ?_)
    · refine pk_ob2 (pk_mono (w_f_X6_hasLaw_3 (sI h_1 5 2 (r_1 - 16)) (r_1 - 16)) (fun _ k => KF_fr k (by decide))) (fun r_4 h_4 k_2 => ?_)
      replace k_2 := KF_trans (KF_trans k_1 (KF_fr (Fr_sI (S := [(0, 5, 2)]) (by decide) (Fr_refl _ _)) (by decide))) k_2
      refine pk_if (fun _ => ?_) (fun _ => ?_)
      · refine pk_if (fun _ => ?_) (fun _ => ?_)
        · refine pk_ob1 (pk_mono (w_f_X6_setClause_3 h_4 (eI h_4 12 1) 0 r_1) (fun _ k => KF_fr k (by decide))) (fun h_7 k_3 => ?_)
          replace k_3 := KF_trans k_2 k_3
          refine pk_ob1 (pk_mono (w_f_X7_advance h_7) (fun _ k => KF_fr k (by decide))) (fun h_8 k_4 => ?_)
          replace k_4 := KF_trans k_3 k_4
          refine pk_if (fun _ => ?_) (fun _ => ?_)
          · refine pk_ob1 (kf_f_X2_readDeed_3 h_8 r_1) (fun h_10 k_5 => ?_)
            replace k_5 := KF_trans k_4 k_5
            exact pk_mono (kf_f_X2_readClause_3_141 h_10) (fun _ k => KF_trans k_5 k)
          · refine pk_ob1 (pk_mono (w_f_X6_beginLaw_3 h_8 (eI h_8 5 2)) (fun _ k => KF_fr k (by decide))) (fun h_11 k_6 => ?_)
            replace k_6 := KF_trans k_4 k_6
            refine pk_if (fun _ => ?_) (fun _ => ?_)
            · exact pk_mono (kf_f_X2_readClause_3_119 h_11 0) (fun _ k => KF_trans k_6 k)
            · exact pk_mono (kf_f_X2_readClause_3_119 h_11 3) (fun _ k => KF_trans k_6 k)
        · refine pk_ob1 (kf_f_X2_fail h_4 6) (fun h_13 k_7 => ?_)
          replace k_7 := KF_trans k_2 k_7
          exact pk_mono (pk_mono (w_f_X2_readClause_3_158 h_13) (fun _ k => KF_fr k (by decide))) (fun _ k => KF_trans k_7 k)
      · refine pk_ob1 (kf_f_X2_fail h_4 4) (fun h_14 k_8 => ?_)
        replace k_8 := KF_trans k_2 k_8
        exact pk_mono (pk_mono (w_f_X2_readClause_3_158 h_14) (fun _ k => KF_fr k (by decide))) (fun _ k => KF_trans k_8 k)
    · exact pk_mono (kf_f_X2_readClause_3_25 (sI h_1 5 2 (r_1 - 16))) (fun _ k => KF_trans (KF_trans k_1 (KF_fr (Fr_sI (S := [(0, 5, 2)]) (by decide) (Fr_refl _ _)) (by decide))) k)
/-! text 0: the steps that are read are of one type -/
theorem cst_0 {B : Int → Int} {L : Int} {P : Nat → Int} {h h' : HS} {s : Int32} (e : f_X6_addStep_0 h s = some h') (t0 : L ≤ 300) (t1 : TE B L h P) (t2 : 0 ≤ at_ h) (t3 : at_ h < (eI h 4 3).toInt) (a0 : 0 ≤ (eI h 9 5).toInt) (a1 : (eI h 9 5).toInt < 300) : (eI h' 9 5).toInt = (eI h 9 5).toInt + 1 ∧ eA h' 9 2 = upd (eA h 9 2) (eI h 9 5).toInt.toNat s ∧ at_ h' = at_ h ∧ eI h' 5 0 = eI h 5 0 ∧ kd h' = kd h ∧ ((eI h 9 5).toInt + 1 ≤ at_ h → CT B L P 9 h') := by
  have z1 : (1 : Int32).toInt = 1 := rfl
  have eh := cp_addStep_0 e a0 a1
  have a := fb_addI (x := eI h 9 5) (y := 1) (by omega) (by omega)
  subst eh
  have f : Fr [(1, 9, 2), (0, 9, 5)] h (sI (sA h 9 2 (upd (eA h 9 2) (eI h 9 5).toInt.toNat s)) 9 5 (eI h 9 5 + 1)) := Fr_sI (by decide) (Fr_sA (by decide) (Fr_refl _ _))
  have q : (eI (sI (sA h 9 2 (upd (eA h 9 2) (eI h 9 5).toInt.toNat s)) 9 5 (eI h 9 5 + 1)) 9 5).toInt = (eI h 9 5).toInt + 1 := a.trans (by omega)
  exact ⟨q, rfl, rfl, rfl, rfl, fun l => ⟨t0, TE_fr t1 f (by decide) (by decide) (by decide) (by decide), t2, t3, by omega, by rw [q]; exact l⟩⟩
def TOne_0 (B : Int → Int) (L : Int) (P : Nat → Int) (n : Nat) : Prop := ∀ (h h' : HS) (op : Int32), G_read_0 n 2 h op 0 = some h' → CT B L P 9 h → 0 ≤ op.toInt → op.toInt ≤ 8 → eI h' 5 0 = 0 → CT B L P 9 h' ∧ TYR 9 h h' (17 - 2 * op.toInt) false
def TAsk_0 (B : Int → Int) (L : Int) (P : Nat → Int) (n : Nat) : Prop := ∀ (h h' : HS) (op : Int32), G_read_0 n 1 h op 0 = some h' → CT B L P 9 h → 0 ≤ op.toInt → op.toInt ≤ 8 → eI h' 5 0 = 0 → CT B L P 9 h' ∧ TYR 9 h h' (20 - 2 * op.toInt) true
def TLev_0 (B : Int → Int) (L : Int) (P : Nat → Int) (n : Nat) : Prop := ∀ (l : Int32) (h h' : HS) (op : Int32), G_read_0 n 0 h l op = some h' → 0 ≤ l.toInt → l.toInt ≤ 5 → CT B L P 9 h → 0 ≤ op.toInt → op.toInt ≤ 8 → eI h' 5 0 = 0 → CT B L P 9 h' ∧ TYR 9 h h' (22 - 2 * op.toInt - l.toInt) (decide (l.toInt ≤ 2))
theorem tleaf_0 {B : Int → Int} {L : Int} {P : Nat → Int} {h h1 h' : HS} {s : Int32} (ct : CT B L P 9 h) (k : ¬ kd h = 0) (e1 : f_X6_addStep_0 h s = some h1) (e2 : f_X7_advance h1 = some h') (hs : s.toInt < 20000) : CT B L P 9 h' ∧ TYR 9 h h' 1 false := by
  obtain ⟨t0, t1, t2, t3, t4, t5⟩ := id ct
  have lt : at_ h < 300 := by
    obtain ⟨-, -, u3, u4⟩ := id t1
    have i1 := u4 (eI h 4 4).toInt.toNat (by unfold at_ at *; omega)
    unfold kd at k
    have ne : ¬ (eI h 4 4).toInt = (eI h 4 3).toInt - 1 := fun q => k (i1.2.2.mpr (by unfold at_ at *; omega))
    unfold at_ at *
    omega
  have eh := cp_addStep_0 e1 t4 (by omega)
  obtain ⟨q1, q2, q3, q4, q5, -⟩ := cst_0 e1 t0 t1 t2 t3 t4 (by omega)
  -- advance looks at the tokens alone
  have f1 : Fr [(1, 9, 2), (0, 9, 5)] h h1 := by rw [eh]; exact Fr_sI (by decide) (Fr_sA (by decide) (Fr_refl _ _))
  have te1 : TE B L h1 P := TE_fr t1 f1 (by decide) (by decide) (by decide) (by decide)
  have c43 : eI h1 4 3 = eI h 4 3 := f1.1 4 3 (by decide)
  have z1 : (1 : Int32).toInt = 1 := rfl
  have s1 := fb_subI (x := eI h1 4 3) (y := 1) (by have := te1.2.1; omega) (by have := te1.2.2.1; omega)
  have a44 : eI h1 4 4 = eI h 4 4 := f1.1 4 4 (by decide)
  have ne : ¬ at_ h1 = (eI h1 4 3).toInt - 1 := by
    intro q
    have i1 := te1.2.2.2 (eI h1 4 4).toInt.toNat (by unfold at_ at q; have := te1.2.1; omega)
    have : kd h1 = 0 := i1.2.2.mpr (by unfold at_ at q; have := te1.2.1; omega)
    omega
  unfold f_X7_advance f_X7_advance_23 at e2
  have s2 := fb_addI (x := eI h1 4 4) (y := 1) (by unfold at_ at q3 t2; omega) (by unfold at_ at q3 lt; omega)
  have at1 : at_ h1 = (eI h1 4 4).toInt := rfl
  rw [if_neg (fun c => by have := gi_of_le c; rw [c43] at s1 this ne; omega)] at e2
  have eh' : h' = sI h1 4 4 (eI h1 4 4 + 1) := (Option.some.inj e2).symm
  have at' : at_ h' = at_ h + 1 := by
    rw [eh']
    show (eI h1 4 4 + 1).toInt = _
    omega
  have f2 : Fr [(0, 4, 4)] h1 h' := by rw [eh']; exact Fr_sI (by decide) (Fr_refl _ _)
  have r5 : eI h' 9 5 = eI h1 9 5 := f2.1 9 5 (by decide)
  have r2 : eA h' 9 2 = eA h1 9 2 := f2.2.1 9 2 (by decide)
  refine ⟨⟨t0, TE_fr te1 f2 (by decide) (by decide) (by decide) (by decide), by omega, ?_, by rw [r5]; omega, by rw [r5]; omega⟩, tyr_leaf t4 (by rw [r5]; exact q1) (by rw [r2]; exact q2) at' hs⟩
  rw [f2.1 4 3 (by decide)]
  rw [c43] at ne ⊢
  omega
theorem tone_0 {B : Int → Int} {L : Int} {P : Nat → Int} {n : Nat} (ih1 : TOne_0 B L P n) (ih2 : TLev_0 B L P n) : TOne_0 B L P (n + 1) := by
  have z1 : (1 : Int32).toInt = 1 := rfl
  have z2 : (2 : Int32).toInt = 2 := rfl
  have z3 : (3 : Int32).toInt = 3 := rfl
  have z8 : (8 : Int32).toInt = 8 := rfl
  have z10 : (10 : Int32).toInt = 10 := rfl
  have z13 : (13 : Int32).toInt = 13 := rfl
  have z14 : (14 : Int32).toInt = 14 := rfl
  have z29 : (29 : Int32).toInt = 29 := rfl
  have z37 : (37 : Int32).toInt = 37 := rfl
  have z9999 : (9999 : Int32).toInt = 9999 := rfl
  have z10000 : (10000 : Int32).toInt = 10000 := rfl
  intro h h' op e ct op0 op8 fz
  have e : f_X2_readOne_0_b (fun h p1 p2 => G_read_0 n 0 h p1 p2) (fun h p1 => G_read_0 n 1 h p1 0) (fun h p1 => G_read_0 n 2 h p1 0) h op = some h' := e
  unfold f_X2_readOne_0_b at e
  obtain ⟨r1, h1, e1, e⟩ := ob2_some e
  obtain ⟨q1, q2⟩ := CT_kind ct e1
  obtain rfl : h = h1 := q1.symm
  replace q2 : r1.toInt = kd h := q2
  by_cases k2 : kd h = 2
  · rw [if_pos (gi_eq (by omega))] at e
    obtain ⟨h6, e6, e⟩ := ob1_some e
    unfold f_X2_readOne_0_121 at e
    cases e
    unfold f_X2_readValue_0 at e6
    obtain ⟨r3, h3, e3, e6⟩ := ob2_some e6
    obtain ⟨q3, q4⟩ := CT_value ct e3
    obtain rfl : h = h3 := q3.symm
    by_cases c : r3 ≤ 9999
    · rw [if_pos c] at e6
      have dc := gi_of_le c
      obtain ⟨r5, h5, e5, e6⟩ := ob2_some e6
      obtain ⟨q5, q6⟩ := CT_value ct e5
      obtain rfl : h = h5 := q5.symm
      obtain ⟨h7, e7, e6⟩ := ob1_some e6
      obtain ⟨h8, e8, e6⟩ := ob1_some e6
      cases e6
      replace q4 : r3.toInt = vl h := q4
      replace q6 : r5.toInt = vl h := q6
      obtain ⟨y1, y2⟩ := tleaf_0 ct (by omega) e7 e8 (by omega)
      exact ⟨y1, TYR_le y2 (by omega)⟩
    · rw [if_neg c] at e6
      obtain ⟨h7, e7, e6⟩ := ob1_some e6
      cases e6
      exact absurd fz (fail_nz e7 (by decide))
  · rw [if_neg (fun q => by have := gi_of_eq q; omega)] at e
    have go44 : f_X2_readOne_0_44 (fun h p1 p2 => G_read_0 n 0 h p1 p2) (fun h p1 => G_read_0 n 1 h p1 0) (fun h p1 => G_read_0 n 2 h p1 0) h op r1 = some h' → CT B L P 9 h' ∧ TYR 9 h h' (17 - 2 * op.toInt) false := by
      intro e
      unfold f_X2_readOne_0_44 at e
      have opens : ∀ (a : Int32 × HS), f_X2_opens h op = some a → ¬ kd h = 0 → (¬ eI a.2 5 0 = 0 ∧ a.1 = 0) ∨ (a.1 = 1 ∧ op.toInt < 8 ∧ CT B L P 9 a.2 ∧ at_ a.2 = at_ h + 1 ∧ eI a.2 9 5 = eI h 9 5 ∧ eA a.2 9 2 = eA h 9 2) := by
        intro a ea nk
        unfold f_X2_opens at ea
        by_cases c : op < 8
        · rw [if_pos c] at ea
          obtain ⟨h2, e2, ea⟩ := ob1_some ea
          cases ea
          obtain ⟨y1, y2, y3, y4, y5, y6⟩ := CT_adv (by decide) ct nk e2
          exact Or.inr ⟨rfl, by have := gi_of_lt c; omega, y1, y2, y4, y5⟩
        · rw [if_neg c] at ea
          obtain ⟨h2, e2, ea⟩ := ob1_some ea
          cases ea
          exact Or.inl ⟨fail_nz e2 (by decide), rfl⟩
      by_cases c13 : r1 = 13
      · rw [if_pos c13] at e
        have d13 := gi_of_eq c13
        obtain ⟨r14, h14, e14, e⟩ := ob2_some e
        rcases opens _ e14 (by omega) with ⟨y1, y2⟩ | ⟨y1, y2, y3, y4, y5, y6⟩
        · replace y2 : r14 = 0 := y2
          rw [if_pos y2] at e
          unfold f_X2_readOne_0_121 at e
          cases e
          exact absurd fz y1
        · replace y1 : r14 = 1 := y1
          rw [if_neg (by rw [y1]; decide)] at e
          obtain ⟨h16, e16, e⟩ := ob1_some e
          obtain ⟨h17, e17, e⟩ := ob1_some e
          unfold f_X2_readOne_0_121 at e
          cases e
          have f16 : eI h16 5 0 = 0 := kf_f_X2_expect _ _ _ e17 fz
          have a1 := fb_addI (x := op) (y := 1) (by omega) (by omega)
          obtain ⟨w1, w2⟩ := ih2 3 h14 h16 (op + 1) e16 (by omega) (by omega) y3 (by omega) (by omega) f16
          unfold f_X2_expect f_X2_expect_29 at e17
          rw [if_pos f16] at e17
          obtain ⟨rk1, hk, ek, e17⟩ := ob2_some e17
          obtain ⟨u1, u2⟩ := CT_kind w1 ek
          obtain rfl : h16 = hk := u1.symm
          replace u2 : rk1.toInt = kd h16 := u2
          by_cases c14 : rk1 = 14
          · rw [if_pos c14] at e17
            have d14 := gi_of_eq c14
            obtain ⟨h5, e5, e17⟩ := ob1_some e17
            cases e17
            obtain ⟨v1, v2, v3, v4, v5, v6⟩ := CT_adv (by decide) w1 (by omega) e5
            refine ⟨v1, TYR_le (tyr_wrap y5 y6 y4 w2 v4 v5 v2) (by omega)⟩
          · rw [if_neg c14] at e17
            obtain ⟨h4, e4, e17⟩ := ob1_some e17
            cases e17
            exact absurd fz (fail_nz e4 (by decide))
      · rw [if_neg c13] at e
        by_cases c10 : r1 = 10
        · rw [if_pos c10] at e
          have d10 := gi_of_eq c10
          obtain ⟨r10, h10, e10, e⟩ := ob2_some e
          rcases opens _ e10 (by omega) with ⟨y1, y2⟩ | ⟨y1, y2, y3, y4, y5, y6⟩
          · replace y2 : r10 = 0 := y2
            rw [if_pos y2] at e
            unfold f_X2_readOne_0_121 at e
            cases e
            exact absurd fz y1
          · replace y1 : r10 = 1 := y1
            rw [if_neg (by rw [y1]; decide)] at e
            obtain ⟨h12, e12, e⟩ := ob1_some e
            obtain ⟨h13, e13, e⟩ := ob1_some e
            unfold f_X2_readOne_0_121 at e
            cases e
            have f12 : eI h12 5 0 = 0 := by rw [← (w_f_X6_addStep_0 _ _ _ e13).1 5 0 (by decide)]; exact fz
            have a1 := fb_addI (x := op) (y := 1) (by omega) (by omega)
            obtain ⟨w1, w2⟩ := ih1 h10 h12 (op + 1) e12 y3 (by omega) (by omega) f12
            obtain ⟨t0, t1, t2, t3, t4, t5⟩ := id w1
            have tc := t1.2.2.1
            replace y4 : at_ h10 = at_ h + 1 := y4
            replace y5 : eI h10 9 5 = eI h 9 5 := y5
            have l1 := w2.2.1
            have l0 := ct.2.2.2.2.2
            rw [y5] at l1
            obtain ⟨v1, v2, v3, v4, v5, v6⟩ := cst_0 e13 t0 t1 t2 t3 t4 (by omega)
            exact ⟨v6 (by omega), TYR_le (tyr_un ct.2.2.2.2.1 y5 y6 y4 w2 v1 v2 v3 (fun S => rfl) (by omega)) (by omega)⟩
        · rw [if_neg c10] at e
          obtain ⟨h9, e9, e⟩ := ob1_some e
          unfold f_X2_readOne_0_121 at e
          cases e
          exact absurd fz (fail_nz e9 (by decide))
    by_cases c29 : r1 < 29
    · rw [if_pos c29] at e
      exact go44 e
    · rw [if_neg c29] at e
      have d29 := gi_of_nlt c29
      by_cases c37 : (37 : Int32) < r1
      · rw [if_pos c37] at e
        exact go44 e
      · rw [if_neg c37] at e
        have d37 := gi_of_nlt c37
        obtain ⟨h5, e5, e⟩ := ob1_some e
        unfold f_X2_readOne_0_121 at e
        cases e
        unfold f_X2_readName_0 at e5
        obtain ⟨r3, h3, e3, e5⟩ := ob2_some e5
        obtain ⟨q3, q4⟩ := CT_kind ct e3
        obtain rfl : h = h3 := q3.symm
        have good : f_X2_readName_0_31 h = some h' → CT B L P 9 h' ∧ TYR 9 h h' (17 - 2 * op.toInt) false := by
          intro e6
          unfold f_X2_readName_0_31 at e6
          obtain ⟨r5, h6, e6', e6⟩ := ob2_some e6
          obtain ⟨q5, q6⟩ := CT_kind ct e6'
          obtain rfl : h = h6 := q5.symm
          replace q6 : r5.toInt = kd h := q6
          obtain ⟨h7, e7, e6⟩ := ob1_some e6
          obtain ⟨h8, e8, e6⟩ := ob1_some e6
          cases e6
          have u1 := fb_addI (x := 10000) (y := r5) (by omega) (by omega)
          have u2 := fb_subI (x := 10000 + r5) (y := 29) (by omega) (by omega)
          obtain ⟨y1, y2⟩ := tleaf_0 ct (by omega) e7 e8 (by omega)
          exact ⟨y1, TYR_le y2 (by omega)⟩
        by_cases c35 : r3 < 35
        · rw [if_pos c35] at e5; exact good e5
        · rw [if_neg c35] at e5
          by_cases c0 : eI h 5 2 = 0
          · rw [if_pos c0] at e5; exact good e5
          · rw [if_neg c0] at e5
            by_cases c1 : eI h 5 2 = 1
            · rw [if_pos c1] at e5; exact good e5
            · rw [if_neg c1] at e5
              obtain ⟨h6, e6, e5⟩ := ob1_some e5
              cases e5
              exact absurd fz (fail_nz e6 (by decide))
theorem task_0 {B : Int → Int} {L : Int} {P : Nat → Int} {n : Nat} (ih1 : TAsk_0 B L P n) (ih2 : TLev_0 B L P n) : TAsk_0 B L P (n + 1) := by
  have z1 : (1 : Int32).toInt = 1 := rfl
  have z3 : (3 : Int32).toInt = 3 := rfl
  have z8 : (8 : Int32).toInt = 8 := rfl
  have z28 : (28 : Int32).toInt = 28 := rfl
  have z20000 : (20000 : Int32).toInt = 20000 := rfl
  intro h h' op e ct op0 op8 fz
  have e : f_X2_readAsk_0_b (fun h p1 p2 => G_read_0 n 0 h p1 p2) (fun h p1 => G_read_0 n 1 h p1 0) (fun h p1 => G_read_0 n 2 h p1 0) h op = some h' := e
  unfold f_X2_readAsk_0_b at e
  obtain ⟨r1, h1, e1, e⟩ := ob2_some e
  obtain ⟨q1, q2⟩ := CT_kind ct e1
  obtain rfl : h = h1 := q1.symm
  replace q2 : r1.toInt = kd h := q2
  by_cases c28 : r1 = 28
  · rw [if_pos c28] at e
    have d28 := gi_of_eq c28
    obtain ⟨r7, h7, e7, e⟩ := ob2_some e
    unfold f_X2_opens at e7
    by_cases c : op < 8
    · rw [if_pos c] at e7
      have dc := gi_of_lt c
      obtain ⟨h2, e2, e7⟩ := ob1_some e7
      cases e7
      obtain ⟨y1, y2, y3, y4, y5, y6⟩ := CT_adv (by decide) ct (by omega) e2
      rw [if_neg (by decide)] at e
      obtain ⟨h9, e9, e⟩ := ob1_some e
      obtain ⟨h10, e10, e⟩ := ob1_some e
      unfold f_X2_readAsk_0_34 at e
      cases e
      have f9 : eI h9 5 0 = 0 := by rw [← (w_f_X6_addStep_0 _ _ _ e10).1 5 0 (by decide)]; exact fz
      have a1 := fb_addI (x := op) (y := 1) (by omega) (by omega)
      obtain ⟨w1, w2⟩ := ih1 h7 h9 (op + 1) e9 y1 (by omega) (by omega) f9
      obtain ⟨t0, t1, t2, t3, t4, t5⟩ := id w1
      have tc := t1.2.2.1
      have l1 := w2.2.1
      have l0 := ct.2.2.2.2.2
      rw [y4] at l1
      obtain ⟨v1, v2, v3, v4, v5, v6⟩ := cst_0 e10 t0 t1 t2 t3 t4 (by omega)
      exact ⟨v6 (by omega), TYR_le (tyr_un ct.2.2.2.2.1 y4 y5 y2 w2 v1 v2 v3 (fun S => rfl) (by omega)) (by omega)⟩
    · rw [if_neg c] at e7
      obtain ⟨h2, e2, e7⟩ := ob1_some e7
      cases e7
      rw [if_pos rfl] at e
      unfold f_X2_readAsk_0_34 at e
      cases e
      exact absurd fz (fail_nz e2 (by decide))
  · rw [if_neg c28] at e
    obtain ⟨h3, e3, e⟩ := ob1_some e
    obtain ⟨r4, h4, e4, e⟩ := ob2_some e
    have k4 : h4 = h3 := cp_kind_same e4
    obtain rfl : h3 = h4 := k4.symm
    have no62 : f_X2_readAsk_0_62 (fun h p1 p2 => G_read_0 n 0 h p1 p2) (fun h p1 => G_read_0 n 1 h p1 0) (fun h p1 => G_read_0 n 2 h p1 0) h3 op r4 = some h' → False := by
      intro e
      unfold f_X2_readAsk_0_62 at e
      obtain ⟨h5, e5, e⟩ := ob1_some e
      have nz := fail_nz e5 (by decide)
      unfold f_X2_readAsk_0_68 f_X2_readAsk_0_97 at e
      rw [if_neg nz] at e
      cases e
      exact nz fz
    by_cases c3 : r4 < 3
    · rw [if_pos c3] at e; exact absurd e no62
    · rw [if_neg c3] at e
      have d3 := gi_of_nlt c3
      by_cases c8 : r4 ≤ 8
      · rw [if_pos c8] at e
        have d8 := gi_of_le c8
        unfold f_X2_readAsk_0_68 f_X2_readAsk_0_97 at e
        by_cases p0 : eI h3 5 0 = 0
        · rw [if_pos p0] at e
          obtain ⟨w1, w2⟩ := ih2 3 h h3 op e3 (by omega) (by omega) ct op0 op8 p0
          obtain ⟨u1, u2⟩ := CT_kind w1 e4
          replace u2 : r4.toInt = kd h3 := u2
          obtain ⟨h13, e13, e⟩ := ob1_some e
          obtain ⟨h14, e14, e⟩ := ob1_some e
          obtain ⟨h15, e15, e⟩ := ob1_some e
          cases e
          obtain ⟨y1, y2, y3, y4, y5, y6⟩ := CT_adv (by decide) w1 (by omega) e13
          have f14 : eI h14 5 0 = 0 := by rw [← (w_f_X6_addStep_0 _ _ _ e15).1 5 0 (by decide)]; exact fz
          obtain ⟨x1, x2⟩ := ih2 3 h13 h14 op e14 (by omega) (by omega) y1 op0 op8 f14
          obtain ⟨t0, t1, t2, t3, t4, t5⟩ := id x1
          have tc := t1.2.2.1
          have l1 := x2.2.1
          have l2 := w2.2.1
          have l0 := ct.2.2.2.2.2
          rw [y4] at l1
          obtain ⟨v1, v2, v3, v4, v5, v6⟩ := cst_0 e15 t0 t1 t2 t3 t4 (by omega)
          have b3 : decide ((3 : Int32).toInt ≤ 2) = false := by decide
          rw [b3] at w2 x2
          have us := fb_addI (x := 20000) (y := r4) (by omega) (by omega)
          refine ⟨v6 (by omega), tyr_bin ct.2.2.2.2.1 w2 y4 y5 y2 x2 v1 v2 v3 (fun S => ?_) (by omega) (by omega) (by omega)⟩
          unfold step1
          rw [if_neg (by omega), if_neg (by omega), if_neg (by omega), if_neg (by omega), if_pos (by omega)]
        · rw [if_neg p0] at e
          cases e
          exact absurd fz p0
      · rw [if_neg c8] at e; exact absurd e no62
theorem tloop_0 {B : Int → Int} {L : Int} {P : Nat → Int} {n : Nat} (ih3 : TLev_0 B L P n) {l op : Int32} (hl : 0 ≤ l.toInt ∧ l.toInt ≤ 4 ∧ ¬ l.toInt = 2) (op0 : 0 ≤ op.toInt) (op8 : op.toInt ≤ 8) {h h' : HS} (ct : CT B L P 9 h) (fz : eI h' 5 0 = 0) : ∀ (k : Nat) (h3 : HS) (x5 : Int32), f_X2_readLevel_0_42 (fun h p1 p2 => G_read_0 n 0 h p1 p2) (fun h p1 => G_read_0 n 1 h p1 0) (fun h p1 => G_read_0 n 2 h p1 0) k h3 l op x5 = some h' → CT B L P 9 h3 → TYR 9 h h3 (22 - 2 * op.toInt - l.toInt) (decide (l.toInt ≤ 2)) → CT B L P 9 h' ∧ TYR 9 h h' (22 - 2 * op.toInt - l.toInt) (decide (l.toInt ≤ 2)) := by
  have z1 : (1 : Int32).toInt = 1 := rfl
  have z20000 : (20000 : Int32).toInt = 20000 := rfl
  have al := fb_addI (x := l) (y := 1) (by omega) (by omega)
  intro k
  induction k with
  | zero => intro h3 x5 e; cases e
  | succ k ihk =>
    intro h3 x5 e c3 y3
    rw [f_X2_readLevel_0_42_s] at e
    unfold f_X2_readLevel_0_105 at e
    have stop : some h3 = some h' → CT B L P 9 h' ∧ TYR 9 h h' (22 - 2 * op.toInt - l.toInt) (decide (l.toInt ≤ 2)) := by
      intro q
      cases q
      exact ⟨c3, y3⟩
    by_cases c1 : (300 : Int32) ≤ x5
    · rw [if_pos c1] at e; exact stop e
    · rw [if_neg c1] at e
      by_cases p0 : eI h3 5 0 = 0
      · rw [if_pos p0] at e
        obtain ⟨r8, h8, e8, e⟩ := ob2_some e
        obtain ⟨u1, u2⟩ := CT_kind c3 e8
        obtain rfl : h3 = h8 := u1.symm
        replace u2 : r8.toInt = kd h3 := u2
        obtain ⟨r9, e9, e⟩ := ob1_some e
        have u9 := cp_levelOf e9
        rw [u2] at u9
        by_cases c9 : r9 = l
        · rw [if_pos c9] at e
          have d9 := gi_of_eq c9
          obtain ⟨r11, h11, e11, e⟩ := ob2_some e
          obtain ⟨u3, u4⟩ := CT_kind c3 e11
          obtain rfl : h3 = h11 := u3.symm
          replace u4 : r11.toInt = kd h3 := u4
          obtain ⟨h12, e12, e⟩ := ob1_some e
          obtain ⟨h13, e13, e⟩ := ob1_some e
          obtain ⟨h14, e14, e⟩ := ob1_some e
          have sp := lv_spec (kd h3)
          obtain ⟨a1, a2, a3, a4, a5, a6⟩ := CT_adv (by decide) c3 (by omega) e12
          have f14 : eI h14 5 0 = 0 := kf_f_X2_readLevel_0_42 _ (fun h p1 p2 => kf_G_read_0 n 0 h p1 p2) _ (fun h p1 => kf_G_read_0 n 1 h p1 0) _ (fun h p1 => kf_G_read_0 n 2 h p1 0) _ _ _ _ _ _ e fz
          have f13 : eI h13 5 0 = 0 := by rw [← (w_f_X6_addStep_0 _ _ _ e14).1 5 0 (by decide)]; exact f14
          obtain ⟨w1, w2⟩ := ih3 (l + 1) h12 h13 op e13 (by omega) (by omega) a1 op0 op8 f13
          rw [show (l + 1).toInt = l.toInt + 1 by omega] at w2
          have bb : decide (l.toInt + 1 ≤ 2) = decide (l.toInt ≤ 2) := by
            by_cases q : l.toInt ≤ 2
            · rw [decide_eq_true q, decide_eq_true (by omega)]
            · rw [decide_eq_false q, decide_eq_false (by omega)]
          rw [bb] at w2
          obtain ⟨t0, t1, t2, t3, t4, t5⟩ := id w1
          have tc := t1.2.2.1
          have l1 := w2.2.1
          have l2 := y3.2.1
          have l0 := ct.2.2.2.2.2
          rw [a4] at l1
          obtain ⟨v1, v2, v3, v4, v5, v6⟩ := cst_0 e14 t0 t1 t2 t3 t4 (by omega)
          have us := fb_addI (x := 20000) (y := r11) (by omega) (by omega)
          refine ihk h14 (x5 + 1) e (v6 (by omega)) (tyr_bin ct.2.2.2.2.1 y3 a4 a5 a2 w2 v1 v2 v3 (fun S => ?_) (by omega) (by omega) (by omega))
          unfold step1
          by_cases q : l.toInt ≤ 2
          · rw [decide_eq_true q]
            rw [if_neg (by omega), if_neg (by omega), if_neg (by omega), if_pos (by omega)]
          · rw [decide_eq_false q]
            rw [if_neg (by omega), if_neg (by omega), if_neg (by omega), if_neg (by omega), if_neg (by omega)]
        · rw [if_neg c9] at e; exact stop e
      · rw [if_neg p0] at e; exact stop e
theorem tlev_0 {B : Int → Int} {L : Int} {P : Nat → Int} {n : Nat} (ih1 : TOne_0 B L P n) (ih2 : TAsk_0 B L P n) (ih3 : TLev_0 B L P n) : TLev_0 B L P (n + 1) := by
  have z1 : (1 : Int32).toInt = 1 := rfl
  have z2 : (2 : Int32).toInt = 2 := rfl
  have z5 : (5 : Int32).toInt = 5 := rfl
  intro l h h' op e l0 l5 ct op0 op8 fz
  have e : f_X2_readLevel_0_b (fun h p1 p2 => G_read_0 n 0 h p1 p2) (fun h p1 => G_read_0 n 1 h p1 0) (fun h p1 => G_read_0 n 2 h p1 0) h l op = some h' := e
  unfold f_X2_readLevel_0_b at e
  by_cases c2 : l = 2
  · rw [if_pos c2] at e
    have d2 := gi_of_eq c2
    obtain ⟨h5, e5, e⟩ := ob1_some e
    cases e
    obtain ⟨y1, y2⟩ := ih2 h h' op e5 ct op0 op8 fz
    rw [show decide (l.toInt ≤ 2) = true from decide_eq_true (by omega)]
    exact ⟨y1, TYR_le y2 (by omega)⟩
  · rw [if_neg c2] at e
    have d2 := gi_of_ne c2
    by_cases c5 : l = 5
    · rw [if_pos c5] at e
      have d5 := gi_of_eq c5
      obtain ⟨h5, e5, e⟩ := ob1_some e
      cases e
      obtain ⟨y1, y2⟩ := ih1 h h' op e5 ct op0 op8 fz
      rw [show decide (l.toInt ≤ 2) = false from decide_eq_false (by omega)]
      exact ⟨y1, TYR_le y2 (by omega)⟩
    · rw [if_neg c5] at e
      have d5 := gi_of_ne c5
      obtain ⟨h3, e3, e⟩ := ob1_some e
      have al := fb_addI (x := l) (y := 1) (by omega) (by omega)
      have f3 : eI h3 5 0 = 0 := kf_f_X2_readLevel_0_42 _ (fun h p1 p2 => kf_G_read_0 n 0 h p1 p2) _ (fun h p1 => kf_G_read_0 n 1 h p1 0) _ (fun h p1 => kf_G_read_0 n 2 h p1 0) _ _ _ _ _ _ e fz
      obtain ⟨y1, y2⟩ := ih3 (l + 1) h h3 op e3 (by omega) (by omega) ct op0 op8 f3
      rw [show (l + 1).toInt = l.toInt + 1 by omega] at y2
      have bb : decide (l.toInt + 1 ≤ 2) = decide (l.toInt ≤ 2) := by
        by_cases q : l.toInt ≤ 2
        · rw [decide_eq_true q, decide_eq_true (by omega)]
        · rw [decide_eq_false q, decide_eq_false (by omega)]
      rw [bb] at y2
      exact tloop_0 ih3 ⟨l0, by omega, by omega⟩ op0 op8 ct fz _ h3 0 e y1 (TYR_le y2 (by omega))
theorem types_0 (B : Int → Int) (L : Int) (P : Nat → Int) : ∀ n : Nat, TOne_0 B L P n ∧ TAsk_0 B L P n ∧ TLev_0 B L P n := by
  intro n
  induction n with
  | zero =>
    refine ⟨?_, ?_, ?_⟩
    · intro h h' op e
      exact absurd e (by simp [G_read_0])
    · intro h h' op e
      exact absurd e (by simp [G_read_0])
    · intro l h h' op e
      exact absurd e (by simp [G_read_0])
  | succ n ih => exact ⟨tone_0 ih.1 ih.2.2, task_0 ih.2.1 ih.2.2, tlev_0 ih.1 ih.2.1 ih.2.2⟩
/-! text 1: the steps that are read are of one type -/
theorem cst_1 {B : Int → Int} {L : Int} {P : Nat → Int} {h h' : HS} {s : Int32} (e : f_X6_addStep_1 h s = some h') (t0 : L ≤ 300) (t1 : TE B L h P) (t2 : 0 ≤ at_ h) (t3 : at_ h < (eI h 4 3).toInt) (a0 : 0 ≤ (eI h 10 5).toInt) (a1 : (eI h 10 5).toInt < 300) : (eI h' 10 5).toInt = (eI h 10 5).toInt + 1 ∧ eA h' 10 2 = upd (eA h 10 2) (eI h 10 5).toInt.toNat s ∧ at_ h' = at_ h ∧ eI h' 5 0 = eI h 5 0 ∧ kd h' = kd h ∧ ((eI h 10 5).toInt + 1 ≤ at_ h → CT B L P 10 h') := by
  have z1 : (1 : Int32).toInt = 1 := rfl
  have eh := cp_addStep_1 e a0 a1
  have a := fb_addI (x := eI h 10 5) (y := 1) (by omega) (by omega)
  subst eh
  have f : Fr [(1, 10, 2), (0, 10, 5)] h (sI (sA h 10 2 (upd (eA h 10 2) (eI h 10 5).toInt.toNat s)) 10 5 (eI h 10 5 + 1)) := Fr_sI (by decide) (Fr_sA (by decide) (Fr_refl _ _))
  have q : (eI (sI (sA h 10 2 (upd (eA h 10 2) (eI h 10 5).toInt.toNat s)) 10 5 (eI h 10 5 + 1)) 10 5).toInt = (eI h 10 5).toInt + 1 := a.trans (by omega)
  exact ⟨q, rfl, rfl, rfl, rfl, fun l => ⟨t0, TE_fr t1 f (by decide) (by decide) (by decide) (by decide), t2, t3, by omega, by rw [q]; exact l⟩⟩
def TOne_1 (B : Int → Int) (L : Int) (P : Nat → Int) (n : Nat) : Prop := ∀ (h h' : HS) (op : Int32), G_read_1 n 2 h op 0 = some h' → CT B L P 10 h → 0 ≤ op.toInt → op.toInt ≤ 8 → eI h' 5 0 = 0 → CT B L P 10 h' ∧ TYR 10 h h' (17 - 2 * op.toInt) false
def TAsk_1 (B : Int → Int) (L : Int) (P : Nat → Int) (n : Nat) : Prop := ∀ (h h' : HS) (op : Int32), G_read_1 n 1 h op 0 = some h' → CT B L P 10 h → 0 ≤ op.toInt → op.toInt ≤ 8 → eI h' 5 0 = 0 → CT B L P 10 h' ∧ TYR 10 h h' (20 - 2 * op.toInt) true
def TLev_1 (B : Int → Int) (L : Int) (P : Nat → Int) (n : Nat) : Prop := ∀ (l : Int32) (h h' : HS) (op : Int32), G_read_1 n 0 h l op = some h' → 0 ≤ l.toInt → l.toInt ≤ 5 → CT B L P 10 h → 0 ≤ op.toInt → op.toInt ≤ 8 → eI h' 5 0 = 0 → CT B L P 10 h' ∧ TYR 10 h h' (22 - 2 * op.toInt - l.toInt) (decide (l.toInt ≤ 2))
theorem tleaf_1 {B : Int → Int} {L : Int} {P : Nat → Int} {h h1 h' : HS} {s : Int32} (ct : CT B L P 10 h) (k : ¬ kd h = 0) (e1 : f_X6_addStep_1 h s = some h1) (e2 : f_X7_advance h1 = some h') (hs : s.toInt < 20000) : CT B L P 10 h' ∧ TYR 10 h h' 1 false := by
  obtain ⟨t0, t1, t2, t3, t4, t5⟩ := id ct
  have lt : at_ h < 300 := by
    obtain ⟨-, -, u3, u4⟩ := id t1
    have i1 := u4 (eI h 4 4).toInt.toNat (by unfold at_ at *; omega)
    unfold kd at k
    have ne : ¬ (eI h 4 4).toInt = (eI h 4 3).toInt - 1 := fun q => k (i1.2.2.mpr (by unfold at_ at *; omega))
    unfold at_ at *
    omega
  have eh := cp_addStep_1 e1 t4 (by omega)
  obtain ⟨q1, q2, q3, q4, q5, -⟩ := cst_1 e1 t0 t1 t2 t3 t4 (by omega)
  -- advance looks at the tokens alone
  have f1 : Fr [(1, 10, 2), (0, 10, 5)] h h1 := by rw [eh]; exact Fr_sI (by decide) (Fr_sA (by decide) (Fr_refl _ _))
  have te1 : TE B L h1 P := TE_fr t1 f1 (by decide) (by decide) (by decide) (by decide)
  have c43 : eI h1 4 3 = eI h 4 3 := f1.1 4 3 (by decide)
  have z1 : (1 : Int32).toInt = 1 := rfl
  have s1 := fb_subI (x := eI h1 4 3) (y := 1) (by have := te1.2.1; omega) (by have := te1.2.2.1; omega)
  have a44 : eI h1 4 4 = eI h 4 4 := f1.1 4 4 (by decide)
  have ne : ¬ at_ h1 = (eI h1 4 3).toInt - 1 := by
    intro q
    have i1 := te1.2.2.2 (eI h1 4 4).toInt.toNat (by unfold at_ at q; have := te1.2.1; omega)
    have : kd h1 = 0 := i1.2.2.mpr (by unfold at_ at q; have := te1.2.1; omega)
    omega
  unfold f_X7_advance f_X7_advance_23 at e2
  have s2 := fb_addI (x := eI h1 4 4) (y := 1) (by unfold at_ at q3 t2; omega) (by unfold at_ at q3 lt; omega)
  have at1 : at_ h1 = (eI h1 4 4).toInt := rfl
  rw [if_neg (fun c => by have := gi_of_le c; rw [c43] at s1 this ne; omega)] at e2
  have eh' : h' = sI h1 4 4 (eI h1 4 4 + 1) := (Option.some.inj e2).symm
  have at' : at_ h' = at_ h + 1 := by
    rw [eh']
    show (eI h1 4 4 + 1).toInt = _
    omega
  have f2 : Fr [(0, 4, 4)] h1 h' := by rw [eh']; exact Fr_sI (by decide) (Fr_refl _ _)
  have r5 : eI h' 10 5 = eI h1 10 5 := f2.1 10 5 (by decide)
  have r2 : eA h' 10 2 = eA h1 10 2 := f2.2.1 10 2 (by decide)
  refine ⟨⟨t0, TE_fr te1 f2 (by decide) (by decide) (by decide) (by decide), by omega, ?_, by rw [r5]; omega, by rw [r5]; omega⟩, tyr_leaf t4 (by rw [r5]; exact q1) (by rw [r2]; exact q2) at' hs⟩
  rw [f2.1 4 3 (by decide)]
  rw [c43] at ne ⊢
  omega
theorem tone_1 {B : Int → Int} {L : Int} {P : Nat → Int} {n : Nat} (ih1 : TOne_1 B L P n) (ih2 : TLev_1 B L P n) : TOne_1 B L P (n + 1) := by
  have z1 : (1 : Int32).toInt = 1 := rfl
  have z2 : (2 : Int32).toInt = 2 := rfl
  have z3 : (3 : Int32).toInt = 3 := rfl
  have z8 : (8 : Int32).toInt = 8 := rfl
  have z10 : (10 : Int32).toInt = 10 := rfl
  have z13 : (13 : Int32).toInt = 13 := rfl
  have z14 : (14 : Int32).toInt = 14 := rfl
  have z29 : (29 : Int32).toInt = 29 := rfl
  have z37 : (37 : Int32).toInt = 37 := rfl
  have z9999 : (9999 : Int32).toInt = 9999 := rfl
  have z10000 : (10000 : Int32).toInt = 10000 := rfl
  intro h h' op e ct op0 op8 fz
  have e : f_X2_readOne_1_b (fun h p1 p2 => G_read_1 n 0 h p1 p2) (fun h p1 => G_read_1 n 1 h p1 0) (fun h p1 => G_read_1 n 2 h p1 0) h op = some h' := e
  unfold f_X2_readOne_1_b at e
  obtain ⟨r1, h1, e1, e⟩ := ob2_some e
  obtain ⟨q1, q2⟩ := CT_kind ct e1
  obtain rfl : h = h1 := q1.symm
  replace q2 : r1.toInt = kd h := q2
  by_cases k2 : kd h = 2
  · rw [if_pos (gi_eq (by omega))] at e
    obtain ⟨h6, e6, e⟩ := ob1_some e
    unfold f_X2_readOne_1_121 at e
    cases e
    unfold f_X2_readValue_1 at e6
    obtain ⟨r3, h3, e3, e6⟩ := ob2_some e6
    obtain ⟨q3, q4⟩ := CT_value ct e3
    obtain rfl : h = h3 := q3.symm
    by_cases c : r3 ≤ 9999
    · rw [if_pos c] at e6
      have dc := gi_of_le c
      obtain ⟨r5, h5, e5, e6⟩ := ob2_some e6
      obtain ⟨q5, q6⟩ := CT_value ct e5
      obtain rfl : h = h5 := q5.symm
      obtain ⟨h7, e7, e6⟩ := ob1_some e6
      obtain ⟨h8, e8, e6⟩ := ob1_some e6
      cases e6
      replace q4 : r3.toInt = vl h := q4
      replace q6 : r5.toInt = vl h := q6
      obtain ⟨y1, y2⟩ := tleaf_1 ct (by omega) e7 e8 (by omega)
      exact ⟨y1, TYR_le y2 (by omega)⟩
    · rw [if_neg c] at e6
      obtain ⟨h7, e7, e6⟩ := ob1_some e6
      cases e6
      exact absurd fz (fail_nz e7 (by decide))
  · rw [if_neg (fun q => by have := gi_of_eq q; omega)] at e
    have go44 : f_X2_readOne_1_44 (fun h p1 p2 => G_read_1 n 0 h p1 p2) (fun h p1 => G_read_1 n 1 h p1 0) (fun h p1 => G_read_1 n 2 h p1 0) h op r1 = some h' → CT B L P 10 h' ∧ TYR 10 h h' (17 - 2 * op.toInt) false := by
      intro e
      unfold f_X2_readOne_1_44 at e
      have opens : ∀ (a : Int32 × HS), f_X2_opens h op = some a → ¬ kd h = 0 → (¬ eI a.2 5 0 = 0 ∧ a.1 = 0) ∨ (a.1 = 1 ∧ op.toInt < 8 ∧ CT B L P 10 a.2 ∧ at_ a.2 = at_ h + 1 ∧ eI a.2 10 5 = eI h 10 5 ∧ eA a.2 10 2 = eA h 10 2) := by
        intro a ea nk
        unfold f_X2_opens at ea
        by_cases c : op < 8
        · rw [if_pos c] at ea
          obtain ⟨h2, e2, ea⟩ := ob1_some ea
          cases ea
          obtain ⟨y1, y2, y3, y4, y5, y6⟩ := CT_adv (by decide) ct nk e2
          exact Or.inr ⟨rfl, by have := gi_of_lt c; omega, y1, y2, y4, y5⟩
        · rw [if_neg c] at ea
          obtain ⟨h2, e2, ea⟩ := ob1_some ea
          cases ea
          exact Or.inl ⟨fail_nz e2 (by decide), rfl⟩
      by_cases c13 : r1 = 13
      · rw [if_pos c13] at e
        have d13 := gi_of_eq c13
        obtain ⟨r14, h14, e14, e⟩ := ob2_some e
        rcases opens _ e14 (by omega) with ⟨y1, y2⟩ | ⟨y1, y2, y3, y4, y5, y6⟩
        · replace y2 : r14 = 0 := y2
          rw [if_pos y2] at e
          unfold f_X2_readOne_1_121 at e
          cases e
          exact absurd fz y1
        · replace y1 : r14 = 1 := y1
          rw [if_neg (by rw [y1]; decide)] at e
          obtain ⟨h16, e16, e⟩ := ob1_some e
          obtain ⟨h17, e17, e⟩ := ob1_some e
          unfold f_X2_readOne_1_121 at e
          cases e
          have f16 : eI h16 5 0 = 0 := kf_f_X2_expect _ _ _ e17 fz
          have a1 := fb_addI (x := op) (y := 1) (by omega) (by omega)
          obtain ⟨w1, w2⟩ := ih2 3 h14 h16 (op + 1) e16 (by omega) (by omega) y3 (by omega) (by omega) f16
          unfold f_X2_expect f_X2_expect_29 at e17
          rw [if_pos f16] at e17
          obtain ⟨rk1, hk, ek, e17⟩ := ob2_some e17
          obtain ⟨u1, u2⟩ := CT_kind w1 ek
          obtain rfl : h16 = hk := u1.symm
          replace u2 : rk1.toInt = kd h16 := u2
          by_cases c14 : rk1 = 14
          · rw [if_pos c14] at e17
            have d14 := gi_of_eq c14
            obtain ⟨h5, e5, e17⟩ := ob1_some e17
            cases e17
            obtain ⟨v1, v2, v3, v4, v5, v6⟩ := CT_adv (by decide) w1 (by omega) e5
            refine ⟨v1, TYR_le (tyr_wrap y5 y6 y4 w2 v4 v5 v2) (by omega)⟩
          · rw [if_neg c14] at e17
            obtain ⟨h4, e4, e17⟩ := ob1_some e17
            cases e17
            exact absurd fz (fail_nz e4 (by decide))
      · rw [if_neg c13] at e
        by_cases c10 : r1 = 10
        · rw [if_pos c10] at e
          have d10 := gi_of_eq c10
          obtain ⟨r10, h10, e10, e⟩ := ob2_some e
          rcases opens _ e10 (by omega) with ⟨y1, y2⟩ | ⟨y1, y2, y3, y4, y5, y6⟩
          · replace y2 : r10 = 0 := y2
            rw [if_pos y2] at e
            unfold f_X2_readOne_1_121 at e
            cases e
            exact absurd fz y1
          · replace y1 : r10 = 1 := y1
            rw [if_neg (by rw [y1]; decide)] at e
            obtain ⟨h12, e12, e⟩ := ob1_some e
            obtain ⟨h13, e13, e⟩ := ob1_some e
            unfold f_X2_readOne_1_121 at e
            cases e
            have f12 : eI h12 5 0 = 0 := by rw [← (w_f_X6_addStep_1 _ _ _ e13).1 5 0 (by decide)]; exact fz
            have a1 := fb_addI (x := op) (y := 1) (by omega) (by omega)
            obtain ⟨w1, w2⟩ := ih1 h10 h12 (op + 1) e12 y3 (by omega) (by omega) f12
            obtain ⟨t0, t1, t2, t3, t4, t5⟩ := id w1
            have tc := t1.2.2.1
            replace y4 : at_ h10 = at_ h + 1 := y4
            replace y5 : eI h10 10 5 = eI h 10 5 := y5
            have l1 := w2.2.1
            have l0 := ct.2.2.2.2.2
            rw [y5] at l1
            obtain ⟨v1, v2, v3, v4, v5, v6⟩ := cst_1 e13 t0 t1 t2 t3 t4 (by omega)
            exact ⟨v6 (by omega), TYR_le (tyr_un ct.2.2.2.2.1 y5 y6 y4 w2 v1 v2 v3 (fun S => rfl) (by omega)) (by omega)⟩
        · rw [if_neg c10] at e
          obtain ⟨h9, e9, e⟩ := ob1_some e
          unfold f_X2_readOne_1_121 at e
          cases e
          exact absurd fz (fail_nz e9 (by decide))
    by_cases c29 : r1 < 29
    · rw [if_pos c29] at e
      exact go44 e
    · rw [if_neg c29] at e
      have d29 := gi_of_nlt c29
      by_cases c37 : (37 : Int32) < r1
      · rw [if_pos c37] at e
        exact go44 e
      · rw [if_neg c37] at e
        have d37 := gi_of_nlt c37
        obtain ⟨h5, e5, e⟩ := ob1_some e
        unfold f_X2_readOne_1_121 at e
        cases e
        unfold f_X2_readName_1 at e5
        obtain ⟨r3, h3, e3, e5⟩ := ob2_some e5
        obtain ⟨q3, q4⟩ := CT_kind ct e3
        obtain rfl : h = h3 := q3.symm
        have good : f_X2_readName_1_31 h = some h' → CT B L P 10 h' ∧ TYR 10 h h' (17 - 2 * op.toInt) false := by
          intro e6
          unfold f_X2_readName_1_31 at e6
          obtain ⟨r5, h6, e6', e6⟩ := ob2_some e6
          obtain ⟨q5, q6⟩ := CT_kind ct e6'
          obtain rfl : h = h6 := q5.symm
          replace q6 : r5.toInt = kd h := q6
          obtain ⟨h7, e7, e6⟩ := ob1_some e6
          obtain ⟨h8, e8, e6⟩ := ob1_some e6
          cases e6
          have u1 := fb_addI (x := 10000) (y := r5) (by omega) (by omega)
          have u2 := fb_subI (x := 10000 + r5) (y := 29) (by omega) (by omega)
          obtain ⟨y1, y2⟩ := tleaf_1 ct (by omega) e7 e8 (by omega)
          exact ⟨y1, TYR_le y2 (by omega)⟩
        by_cases c35 : r3 < 35
        · rw [if_pos c35] at e5; exact good e5
        · rw [if_neg c35] at e5
          by_cases c0 : eI h 5 2 = 0
          · rw [if_pos c0] at e5; exact good e5
          · rw [if_neg c0] at e5
            by_cases c1 : eI h 5 2 = 1
            · rw [if_pos c1] at e5; exact good e5
            · rw [if_neg c1] at e5
              obtain ⟨h6, e6, e5⟩ := ob1_some e5
              cases e5
              exact absurd fz (fail_nz e6 (by decide))
theorem task_1 {B : Int → Int} {L : Int} {P : Nat → Int} {n : Nat} (ih1 : TAsk_1 B L P n) (ih2 : TLev_1 B L P n) : TAsk_1 B L P (n + 1) := by
  have z1 : (1 : Int32).toInt = 1 := rfl
  have z3 : (3 : Int32).toInt = 3 := rfl
  have z8 : (8 : Int32).toInt = 8 := rfl
  have z28 : (28 : Int32).toInt = 28 := rfl
  have z20000 : (20000 : Int32).toInt = 20000 := rfl
  intro h h' op e ct op0 op8 fz
  have e : f_X2_readAsk_1_b (fun h p1 p2 => G_read_1 n 0 h p1 p2) (fun h p1 => G_read_1 n 1 h p1 0) (fun h p1 => G_read_1 n 2 h p1 0) h op = some h' := e
  unfold f_X2_readAsk_1_b at e
  obtain ⟨r1, h1, e1, e⟩ := ob2_some e
  obtain ⟨q1, q2⟩ := CT_kind ct e1
  obtain rfl : h = h1 := q1.symm
  replace q2 : r1.toInt = kd h := q2
  by_cases c28 : r1 = 28
  · rw [if_pos c28] at e
    have d28 := gi_of_eq c28
    obtain ⟨r7, h7, e7, e⟩ := ob2_some e
    unfold f_X2_opens at e7
    by_cases c : op < 8
    · rw [if_pos c] at e7
      have dc := gi_of_lt c
      obtain ⟨h2, e2, e7⟩ := ob1_some e7
      cases e7
      obtain ⟨y1, y2, y3, y4, y5, y6⟩ := CT_adv (by decide) ct (by omega) e2
      rw [if_neg (by decide)] at e
      obtain ⟨h9, e9, e⟩ := ob1_some e
      obtain ⟨h10, e10, e⟩ := ob1_some e
      unfold f_X2_readAsk_1_34 at e
      cases e
      have f9 : eI h9 5 0 = 0 := by rw [← (w_f_X6_addStep_1 _ _ _ e10).1 5 0 (by decide)]; exact fz
      have a1 := fb_addI (x := op) (y := 1) (by omega) (by omega)
      obtain ⟨w1, w2⟩ := ih1 h7 h9 (op + 1) e9 y1 (by omega) (by omega) f9
      obtain ⟨t0, t1, t2, t3, t4, t5⟩ := id w1
      have tc := t1.2.2.1
      have l1 := w2.2.1
      have l0 := ct.2.2.2.2.2
      rw [y4] at l1
      obtain ⟨v1, v2, v3, v4, v5, v6⟩ := cst_1 e10 t0 t1 t2 t3 t4 (by omega)
      exact ⟨v6 (by omega), TYR_le (tyr_un ct.2.2.2.2.1 y4 y5 y2 w2 v1 v2 v3 (fun S => rfl) (by omega)) (by omega)⟩
    · rw [if_neg c] at e7
      obtain ⟨h2, e2, e7⟩ := ob1_some e7
      cases e7
      rw [if_pos rfl] at e
      unfold f_X2_readAsk_1_34 at e
      cases e
      exact absurd fz (fail_nz e2 (by decide))
  · rw [if_neg c28] at e
    obtain ⟨h3, e3, e⟩ := ob1_some e
    obtain ⟨r4, h4, e4, e⟩ := ob2_some e
    have k4 : h4 = h3 := cp_kind_same e4
    obtain rfl : h3 = h4 := k4.symm
    have no62 : f_X2_readAsk_1_62 (fun h p1 p2 => G_read_1 n 0 h p1 p2) (fun h p1 => G_read_1 n 1 h p1 0) (fun h p1 => G_read_1 n 2 h p1 0) h3 op r4 = some h' → False := by
      intro e
      unfold f_X2_readAsk_1_62 at e
      obtain ⟨h5, e5, e⟩ := ob1_some e
      have nz := fail_nz e5 (by decide)
      unfold f_X2_readAsk_1_68 f_X2_readAsk_1_97 at e
      rw [if_neg nz] at e
      cases e
      exact nz fz
    by_cases c3 : r4 < 3
    · rw [if_pos c3] at e; exact absurd e no62
    · rw [if_neg c3] at e
      have d3 := gi_of_nlt c3
      by_cases c8 : r4 ≤ 8
      · rw [if_pos c8] at e
        have d8 := gi_of_le c8
        unfold f_X2_readAsk_1_68 f_X2_readAsk_1_97 at e
        by_cases p0 : eI h3 5 0 = 0
        · rw [if_pos p0] at e
          obtain ⟨w1, w2⟩ := ih2 3 h h3 op e3 (by omega) (by omega) ct op0 op8 p0
          obtain ⟨u1, u2⟩ := CT_kind w1 e4
          replace u2 : r4.toInt = kd h3 := u2
          obtain ⟨h13, e13, e⟩ := ob1_some e
          obtain ⟨h14, e14, e⟩ := ob1_some e
          obtain ⟨h15, e15, e⟩ := ob1_some e
          cases e
          obtain ⟨y1, y2, y3, y4, y5, y6⟩ := CT_adv (by decide) w1 (by omega) e13
          have f14 : eI h14 5 0 = 0 := by rw [← (w_f_X6_addStep_1 _ _ _ e15).1 5 0 (by decide)]; exact fz
          obtain ⟨x1, x2⟩ := ih2 3 h13 h14 op e14 (by omega) (by omega) y1 op0 op8 f14
          obtain ⟨t0, t1, t2, t3, t4, t5⟩ := id x1
          have tc := t1.2.2.1
          have l1 := x2.2.1
          have l2 := w2.2.1
          have l0 := ct.2.2.2.2.2
          rw [y4] at l1
          obtain ⟨v1, v2, v3, v4, v5, v6⟩ := cst_1 e15 t0 t1 t2 t3 t4 (by omega)
          have b3 : decide ((3 : Int32).toInt ≤ 2) = false := by decide
          rw [b3] at w2 x2
          have us := fb_addI (x := 20000) (y := r4) (by omega) (by omega)
          refine ⟨v6 (by omega), tyr_bin ct.2.2.2.2.1 w2 y4 y5 y2 x2 v1 v2 v3 (fun S => ?_) (by omega) (by omega) (by omega)⟩
          unfold step1
          rw [if_neg (by omega), if_neg (by omega), if_neg (by omega), if_neg (by omega), if_pos (by omega)]
        · rw [if_neg p0] at e
          cases e
          exact absurd fz p0
      · rw [if_neg c8] at e; exact absurd e no62
theorem tloop_1 {B : Int → Int} {L : Int} {P : Nat → Int} {n : Nat} (ih3 : TLev_1 B L P n) {l op : Int32} (hl : 0 ≤ l.toInt ∧ l.toInt ≤ 4 ∧ ¬ l.toInt = 2) (op0 : 0 ≤ op.toInt) (op8 : op.toInt ≤ 8) {h h' : HS} (ct : CT B L P 10 h) (fz : eI h' 5 0 = 0) : ∀ (k : Nat) (h3 : HS) (x5 : Int32), f_X2_readLevel_1_42 (fun h p1 p2 => G_read_1 n 0 h p1 p2) (fun h p1 => G_read_1 n 1 h p1 0) (fun h p1 => G_read_1 n 2 h p1 0) k h3 l op x5 = some h' → CT B L P 10 h3 → TYR 10 h h3 (22 - 2 * op.toInt - l.toInt) (decide (l.toInt ≤ 2)) → CT B L P 10 h' ∧ TYR 10 h h' (22 - 2 * op.toInt - l.toInt) (decide (l.toInt ≤ 2)) := by
  have z1 : (1 : Int32).toInt = 1 := rfl
  have z20000 : (20000 : Int32).toInt = 20000 := rfl
  have al := fb_addI (x := l) (y := 1) (by omega) (by omega)
  intro k
  induction k with
  | zero => intro h3 x5 e; cases e
  | succ k ihk =>
    intro h3 x5 e c3 y3
    rw [f_X2_readLevel_1_42_s] at e
    unfold f_X2_readLevel_1_105 at e
    have stop : some h3 = some h' → CT B L P 10 h' ∧ TYR 10 h h' (22 - 2 * op.toInt - l.toInt) (decide (l.toInt ≤ 2)) := by
      intro q
      cases q
      exact ⟨c3, y3⟩
    by_cases c1 : (300 : Int32) ≤ x5
    · rw [if_pos c1] at e; exact stop e
    · rw [if_neg c1] at e
      by_cases p0 : eI h3 5 0 = 0
      · rw [if_pos p0] at e
        obtain ⟨r8, h8, e8, e⟩ := ob2_some e
        obtain ⟨u1, u2⟩ := CT_kind c3 e8
        obtain rfl : h3 = h8 := u1.symm
        replace u2 : r8.toInt = kd h3 := u2
        obtain ⟨r9, e9, e⟩ := ob1_some e
        have u9 := cp_levelOf e9
        rw [u2] at u9
        by_cases c9 : r9 = l
        · rw [if_pos c9] at e
          have d9 := gi_of_eq c9
          obtain ⟨r11, h11, e11, e⟩ := ob2_some e
          obtain ⟨u3, u4⟩ := CT_kind c3 e11
          obtain rfl : h3 = h11 := u3.symm
          replace u4 : r11.toInt = kd h3 := u4
          obtain ⟨h12, e12, e⟩ := ob1_some e
          obtain ⟨h13, e13, e⟩ := ob1_some e
          obtain ⟨h14, e14, e⟩ := ob1_some e
          have sp := lv_spec (kd h3)
          obtain ⟨a1, a2, a3, a4, a5, a6⟩ := CT_adv (by decide) c3 (by omega) e12
          have f14 : eI h14 5 0 = 0 := kf_f_X2_readLevel_1_42 _ (fun h p1 p2 => kf_G_read_1 n 0 h p1 p2) _ (fun h p1 => kf_G_read_1 n 1 h p1 0) _ (fun h p1 => kf_G_read_1 n 2 h p1 0) _ _ _ _ _ _ e fz
          have f13 : eI h13 5 0 = 0 := by rw [← (w_f_X6_addStep_1 _ _ _ e14).1 5 0 (by decide)]; exact f14
          obtain ⟨w1, w2⟩ := ih3 (l + 1) h12 h13 op e13 (by omega) (by omega) a1 op0 op8 f13
          rw [show (l + 1).toInt = l.toInt + 1 by omega] at w2
          have bb : decide (l.toInt + 1 ≤ 2) = decide (l.toInt ≤ 2) := by
            by_cases q : l.toInt ≤ 2
            · rw [decide_eq_true q, decide_eq_true (by omega)]
            · rw [decide_eq_false q, decide_eq_false (by omega)]
          rw [bb] at w2
          obtain ⟨t0, t1, t2, t3, t4, t5⟩ := id w1
          have tc := t1.2.2.1
          have l1 := w2.2.1
          have l2 := y3.2.1
          have l0 := ct.2.2.2.2.2
          rw [a4] at l1
          obtain ⟨v1, v2, v3, v4, v5, v6⟩ := cst_1 e14 t0 t1 t2 t3 t4 (by omega)
          have us := fb_addI (x := 20000) (y := r11) (by omega) (by omega)
          refine ihk h14 (x5 + 1) e (v6 (by omega)) (tyr_bin ct.2.2.2.2.1 y3 a4 a5 a2 w2 v1 v2 v3 (fun S => ?_) (by omega) (by omega) (by omega))
          unfold step1
          by_cases q : l.toInt ≤ 2
          · rw [decide_eq_true q]
            rw [if_neg (by omega), if_neg (by omega), if_neg (by omega), if_pos (by omega)]
          · rw [decide_eq_false q]
            rw [if_neg (by omega), if_neg (by omega), if_neg (by omega), if_neg (by omega), if_neg (by omega)]
        · rw [if_neg c9] at e; exact stop e
      · rw [if_neg p0] at e; exact stop e
theorem tlev_1 {B : Int → Int} {L : Int} {P : Nat → Int} {n : Nat} (ih1 : TOne_1 B L P n) (ih2 : TAsk_1 B L P n) (ih3 : TLev_1 B L P n) : TLev_1 B L P (n + 1) := by
  have z1 : (1 : Int32).toInt = 1 := rfl
  have z2 : (2 : Int32).toInt = 2 := rfl
  have z5 : (5 : Int32).toInt = 5 := rfl
  intro l h h' op e l0 l5 ct op0 op8 fz
  have e : f_X2_readLevel_1_b (fun h p1 p2 => G_read_1 n 0 h p1 p2) (fun h p1 => G_read_1 n 1 h p1 0) (fun h p1 => G_read_1 n 2 h p1 0) h l op = some h' := e
  unfold f_X2_readLevel_1_b at e
  by_cases c2 : l = 2
  · rw [if_pos c2] at e
    have d2 := gi_of_eq c2
    obtain ⟨h5, e5, e⟩ := ob1_some e
    cases e
    obtain ⟨y1, y2⟩ := ih2 h h' op e5 ct op0 op8 fz
    rw [show decide (l.toInt ≤ 2) = true from decide_eq_true (by omega)]
    exact ⟨y1, TYR_le y2 (by omega)⟩
  · rw [if_neg c2] at e
    have d2 := gi_of_ne c2
    by_cases c5 : l = 5
    · rw [if_pos c5] at e
      have d5 := gi_of_eq c5
      obtain ⟨h5, e5, e⟩ := ob1_some e
      cases e
      obtain ⟨y1, y2⟩ := ih1 h h' op e5 ct op0 op8 fz
      rw [show decide (l.toInt ≤ 2) = false from decide_eq_false (by omega)]
      exact ⟨y1, TYR_le y2 (by omega)⟩
    · rw [if_neg c5] at e
      have d5 := gi_of_ne c5
      obtain ⟨h3, e3, e⟩ := ob1_some e
      have al := fb_addI (x := l) (y := 1) (by omega) (by omega)
      have f3 : eI h3 5 0 = 0 := kf_f_X2_readLevel_1_42 _ (fun h p1 p2 => kf_G_read_1 n 0 h p1 p2) _ (fun h p1 => kf_G_read_1 n 1 h p1 0) _ (fun h p1 => kf_G_read_1 n 2 h p1 0) _ _ _ _ _ _ e fz
      obtain ⟨y1, y2⟩ := ih3 (l + 1) h h3 op e3 (by omega) (by omega) ct op0 op8 f3
      rw [show (l + 1).toInt = l.toInt + 1 by omega] at y2
      have bb : decide (l.toInt + 1 ≤ 2) = decide (l.toInt ≤ 2) := by
        by_cases q : l.toInt ≤ 2
        · rw [decide_eq_true q, decide_eq_true (by omega)]
        · rw [decide_eq_false q, decide_eq_false (by omega)]
      rw [bb] at y2
      exact tloop_1 ih3 ⟨l0, by omega, by omega⟩ op0 op8 ct fz _ h3 0 e y1 (TYR_le y2 (by omega))
theorem types_1 (B : Int → Int) (L : Int) (P : Nat → Int) : ∀ n : Nat, TOne_1 B L P n ∧ TAsk_1 B L P n ∧ TLev_1 B L P n := by
  intro n
  induction n with
  | zero =>
    refine ⟨?_, ?_, ?_⟩
    · intro h h' op e
      exact absurd e (by simp [G_read_1])
    · intro h h' op e
      exact absurd e (by simp [G_read_1])
    · intro l h h' op e
      exact absurd e (by simp [G_read_1])
  | succ n ih => exact ⟨tone_1 ih.1 ih.2.2, task_1 ih.2.1 ih.2.2, tlev_1 ih.1 ih.2.1 ih.2.2⟩
/-! text 2: the steps that are read are of one type -/
theorem cst_2 {B : Int → Int} {L : Int} {P : Nat → Int} {h h' : HS} {s : Int32} (e : f_X6_addStep_2 h s = some h') (t0 : L ≤ 300) (t1 : TE B L h P) (t2 : 0 ≤ at_ h) (t3 : at_ h < (eI h 4 3).toInt) (a0 : 0 ≤ (eI h 11 5).toInt) (a1 : (eI h 11 5).toInt < 300) : (eI h' 11 5).toInt = (eI h 11 5).toInt + 1 ∧ eA h' 11 2 = upd (eA h 11 2) (eI h 11 5).toInt.toNat s ∧ at_ h' = at_ h ∧ eI h' 5 0 = eI h 5 0 ∧ kd h' = kd h ∧ ((eI h 11 5).toInt + 1 ≤ at_ h → CT B L P 11 h') := by
  have z1 : (1 : Int32).toInt = 1 := rfl
  have eh := cp_addStep_2 e a0 a1
  have a := fb_addI (x := eI h 11 5) (y := 1) (by omega) (by omega)
  subst eh
  have f : Fr [(1, 11, 2), (0, 11, 5)] h (sI (sA h 11 2 (upd (eA h 11 2) (eI h 11 5).toInt.toNat s)) 11 5 (eI h 11 5 + 1)) := Fr_sI (by decide) (Fr_sA (by decide) (Fr_refl _ _))
  have q : (eI (sI (sA h 11 2 (upd (eA h 11 2) (eI h 11 5).toInt.toNat s)) 11 5 (eI h 11 5 + 1)) 11 5).toInt = (eI h 11 5).toInt + 1 := a.trans (by omega)
  exact ⟨q, rfl, rfl, rfl, rfl, fun l => ⟨t0, TE_fr t1 f (by decide) (by decide) (by decide) (by decide), t2, t3, by omega, by rw [q]; exact l⟩⟩
def TOne_2 (B : Int → Int) (L : Int) (P : Nat → Int) (n : Nat) : Prop := ∀ (h h' : HS) (op : Int32), G_read_2 n 2 h op 0 = some h' → CT B L P 11 h → 0 ≤ op.toInt → op.toInt ≤ 8 → eI h' 5 0 = 0 → CT B L P 11 h' ∧ TYR 11 h h' (17 - 2 * op.toInt) false
def TAsk_2 (B : Int → Int) (L : Int) (P : Nat → Int) (n : Nat) : Prop := ∀ (h h' : HS) (op : Int32), G_read_2 n 1 h op 0 = some h' → CT B L P 11 h → 0 ≤ op.toInt → op.toInt ≤ 8 → eI h' 5 0 = 0 → CT B L P 11 h' ∧ TYR 11 h h' (20 - 2 * op.toInt) true
def TLev_2 (B : Int → Int) (L : Int) (P : Nat → Int) (n : Nat) : Prop := ∀ (l : Int32) (h h' : HS) (op : Int32), G_read_2 n 0 h l op = some h' → 0 ≤ l.toInt → l.toInt ≤ 5 → CT B L P 11 h → 0 ≤ op.toInt → op.toInt ≤ 8 → eI h' 5 0 = 0 → CT B L P 11 h' ∧ TYR 11 h h' (22 - 2 * op.toInt - l.toInt) (decide (l.toInt ≤ 2))
theorem tleaf_2 {B : Int → Int} {L : Int} {P : Nat → Int} {h h1 h' : HS} {s : Int32} (ct : CT B L P 11 h) (k : ¬ kd h = 0) (e1 : f_X6_addStep_2 h s = some h1) (e2 : f_X7_advance h1 = some h') (hs : s.toInt < 20000) : CT B L P 11 h' ∧ TYR 11 h h' 1 false := by
  obtain ⟨t0, t1, t2, t3, t4, t5⟩ := id ct
  have lt : at_ h < 300 := by
    obtain ⟨-, -, u3, u4⟩ := id t1
    have i1 := u4 (eI h 4 4).toInt.toNat (by unfold at_ at *; omega)
    unfold kd at k
    have ne : ¬ (eI h 4 4).toInt = (eI h 4 3).toInt - 1 := fun q => k (i1.2.2.mpr (by unfold at_ at *; omega))
    unfold at_ at *
    omega
  have eh := cp_addStep_2 e1 t4 (by omega)
  obtain ⟨q1, q2, q3, q4, q5, -⟩ := cst_2 e1 t0 t1 t2 t3 t4 (by omega)
  -- advance looks at the tokens alone
  have f1 : Fr [(1, 11, 2), (0, 11, 5)] h h1 := by rw [eh]; exact Fr_sI (by decide) (Fr_sA (by decide) (Fr_refl _ _))
  have te1 : TE B L h1 P := TE_fr t1 f1 (by decide) (by decide) (by decide) (by decide)
  have c43 : eI h1 4 3 = eI h 4 3 := f1.1 4 3 (by decide)
  have z1 : (1 : Int32).toInt = 1 := rfl
  have s1 := fb_subI (x := eI h1 4 3) (y := 1) (by have := te1.2.1; omega) (by have := te1.2.2.1; omega)
  have a44 : eI h1 4 4 = eI h 4 4 := f1.1 4 4 (by decide)
  have ne : ¬ at_ h1 = (eI h1 4 3).toInt - 1 := by
    intro q
    have i1 := te1.2.2.2 (eI h1 4 4).toInt.toNat (by unfold at_ at q; have := te1.2.1; omega)
    have : kd h1 = 0 := i1.2.2.mpr (by unfold at_ at q; have := te1.2.1; omega)
    omega
  unfold f_X7_advance f_X7_advance_23 at e2
  have s2 := fb_addI (x := eI h1 4 4) (y := 1) (by unfold at_ at q3 t2; omega) (by unfold at_ at q3 lt; omega)
  have at1 : at_ h1 = (eI h1 4 4).toInt := rfl
  rw [if_neg (fun c => by have := gi_of_le c; rw [c43] at s1 this ne; omega)] at e2
  have eh' : h' = sI h1 4 4 (eI h1 4 4 + 1) := (Option.some.inj e2).symm
  have at' : at_ h' = at_ h + 1 := by
    rw [eh']
    show (eI h1 4 4 + 1).toInt = _
    omega
  have f2 : Fr [(0, 4, 4)] h1 h' := by rw [eh']; exact Fr_sI (by decide) (Fr_refl _ _)
  have r5 : eI h' 11 5 = eI h1 11 5 := f2.1 11 5 (by decide)
  have r2 : eA h' 11 2 = eA h1 11 2 := f2.2.1 11 2 (by decide)
  refine ⟨⟨t0, TE_fr te1 f2 (by decide) (by decide) (by decide) (by decide), by omega, ?_, by rw [r5]; omega, by rw [r5]; omega⟩, tyr_leaf t4 (by rw [r5]; exact q1) (by rw [r2]; exact q2) at' hs⟩
  rw [f2.1 4 3 (by decide)]
  rw [c43] at ne ⊢
  omega
theorem tone_2 {B : Int → Int} {L : Int} {P : Nat → Int} {n : Nat} (ih1 : TOne_2 B L P n) (ih2 : TLev_2 B L P n) : TOne_2 B L P (n + 1) := by
  have z1 : (1 : Int32).toInt = 1 := rfl
  have z2 : (2 : Int32).toInt = 2 := rfl
  have z3 : (3 : Int32).toInt = 3 := rfl
  have z8 : (8 : Int32).toInt = 8 := rfl
  have z10 : (10 : Int32).toInt = 10 := rfl
  have z13 : (13 : Int32).toInt = 13 := rfl
  have z14 : (14 : Int32).toInt = 14 := rfl
  have z29 : (29 : Int32).toInt = 29 := rfl
  have z37 : (37 : Int32).toInt = 37 := rfl
  have z9999 : (9999 : Int32).toInt = 9999 := rfl
  have z10000 : (10000 : Int32).toInt = 10000 := rfl
  intro h h' op e ct op0 op8 fz
  have e : f_X2_readOne_2_b (fun h p1 p2 => G_read_2 n 0 h p1 p2) (fun h p1 => G_read_2 n 1 h p1 0) (fun h p1 => G_read_2 n 2 h p1 0) h op = some h' := e
  unfold f_X2_readOne_2_b at e
  obtain ⟨r1, h1, e1, e⟩ := ob2_some e
  obtain ⟨q1, q2⟩ := CT_kind ct e1
  obtain rfl : h = h1 := q1.symm
  replace q2 : r1.toInt = kd h := q2
  by_cases k2 : kd h = 2
  · rw [if_pos (gi_eq (by omega))] at e
    obtain ⟨h6, e6, e⟩ := ob1_some e
    unfold f_X2_readOne_2_121 at e
    cases e
    unfold f_X2_readValue_2 at e6
    obtain ⟨r3, h3, e3, e6⟩ := ob2_some e6
    obtain ⟨q3, q4⟩ := CT_value ct e3
    obtain rfl : h = h3 := q3.symm
    by_cases c : r3 ≤ 9999
    · rw [if_pos c] at e6
      have dc := gi_of_le c
      obtain ⟨r5, h5, e5, e6⟩ := ob2_some e6
      obtain ⟨q5, q6⟩ := CT_value ct e5
      obtain rfl : h = h5 := q5.symm
      obtain ⟨h7, e7, e6⟩ := ob1_some e6
      obtain ⟨h8, e8, e6⟩ := ob1_some e6
      cases e6
      replace q4 : r3.toInt = vl h := q4
      replace q6 : r5.toInt = vl h := q6
      obtain ⟨y1, y2⟩ := tleaf_2 ct (by omega) e7 e8 (by omega)
      exact ⟨y1, TYR_le y2 (by omega)⟩
    · rw [if_neg c] at e6
      obtain ⟨h7, e7, e6⟩ := ob1_some e6
      cases e6
      exact absurd fz (fail_nz e7 (by decide))
  · rw [if_neg (fun q => by have := gi_of_eq q; omega)] at e
    have go44 : f_X2_readOne_2_44 (fun h p1 p2 => G_read_2 n 0 h p1 p2) (fun h p1 => G_read_2 n 1 h p1 0) (fun h p1 => G_read_2 n 2 h p1 0) h op r1 = some h' → CT B L P 11 h' ∧ TYR 11 h h' (17 - 2 * op.toInt) false := by
      intro e
      unfold f_X2_readOne_2_44 at e
      have opens : ∀ (a : Int32 × HS), f_X2_opens h op = some a → ¬ kd h = 0 → (¬ eI a.2 5 0 = 0 ∧ a.1 = 0) ∨ (a.1 = 1 ∧ op.toInt < 8 ∧ CT B L P 11 a.2 ∧ at_ a.2 = at_ h + 1 ∧ eI a.2 11 5 = eI h 11 5 ∧ eA a.2 11 2 = eA h 11 2) := by
        intro a ea nk
        unfold f_X2_opens at ea
        by_cases c : op < 8
        · rw [if_pos c] at ea
          obtain ⟨h2, e2, ea⟩ := ob1_some ea
          cases ea
          obtain ⟨y1, y2, y3, y4, y5, y6⟩ := CT_adv (by decide) ct nk e2
          exact Or.inr ⟨rfl, by have := gi_of_lt c; omega, y1, y2, y4, y5⟩
        · rw [if_neg c] at ea
          obtain ⟨h2, e2, ea⟩ := ob1_some ea
          cases ea
          exact Or.inl ⟨fail_nz e2 (by decide), rfl⟩
      by_cases c13 : r1 = 13
      · rw [if_pos c13] at e
        have d13 := gi_of_eq c13
        obtain ⟨r14, h14, e14, e⟩ := ob2_some e
        rcases opens _ e14 (by omega) with ⟨y1, y2⟩ | ⟨y1, y2, y3, y4, y5, y6⟩
        · replace y2 : r14 = 0 := y2
          rw [if_pos y2] at e
          unfold f_X2_readOne_2_121 at e
          cases e
          exact absurd fz y1
        · replace y1 : r14 = 1 := y1
          rw [if_neg (by rw [y1]; decide)] at e
          obtain ⟨h16, e16, e⟩ := ob1_some e
          obtain ⟨h17, e17, e⟩ := ob1_some e
          unfold f_X2_readOne_2_121 at e
          cases e
          have f16 : eI h16 5 0 = 0 := kf_f_X2_expect _ _ _ e17 fz
          have a1 := fb_addI (x := op) (y := 1) (by omega) (by omega)
          obtain ⟨w1, w2⟩ := ih2 3 h14 h16 (op + 1) e16 (by omega) (by omega) y3 (by omega) (by omega) f16
          unfold f_X2_expect f_X2_expect_29 at e17
          rw [if_pos f16] at e17
          obtain ⟨rk1, hk, ek, e17⟩ := ob2_some e17
          obtain ⟨u1, u2⟩ := CT_kind w1 ek
          obtain rfl : h16 = hk := u1.symm
          replace u2 : rk1.toInt = kd h16 := u2
          by_cases c14 : rk1 = 14
          · rw [if_pos c14] at e17
            have d14 := gi_of_eq c14
            obtain ⟨h5, e5, e17⟩ := ob1_some e17
            cases e17
            obtain ⟨v1, v2, v3, v4, v5, v6⟩ := CT_adv (by decide) w1 (by omega) e5
            refine ⟨v1, TYR_le (tyr_wrap y5 y6 y4 w2 v4 v5 v2) (by omega)⟩
          · rw [if_neg c14] at e17
            obtain ⟨h4, e4, e17⟩ := ob1_some e17
            cases e17
            exact absurd fz (fail_nz e4 (by decide))
      · rw [if_neg c13] at e
        by_cases c10 : r1 = 10
        · rw [if_pos c10] at e
          have d10 := gi_of_eq c10
          obtain ⟨r10, h10, e10, e⟩ := ob2_some e
          rcases opens _ e10 (by omega) with ⟨y1, y2⟩ | ⟨y1, y2, y3, y4, y5, y6⟩
          · replace y2 : r10 = 0 := y2
            rw [if_pos y2] at e
            unfold f_X2_readOne_2_121 at e
            cases e
            exact absurd fz y1
          · replace y1 : r10 = 1 := y1
            rw [if_neg (by rw [y1]; decide)] at e
            obtain ⟨h12, e12, e⟩ := ob1_some e
            obtain ⟨h13, e13, e⟩ := ob1_some e
            unfold f_X2_readOne_2_121 at e
            cases e
            have f12 : eI h12 5 0 = 0 := by rw [← (w_f_X6_addStep_2 _ _ _ e13).1 5 0 (by decide)]; exact fz
            have a1 := fb_addI (x := op) (y := 1) (by omega) (by omega)
            obtain ⟨w1, w2⟩ := ih1 h10 h12 (op + 1) e12 y3 (by omega) (by omega) f12
            obtain ⟨t0, t1, t2, t3, t4, t5⟩ := id w1
            have tc := t1.2.2.1
            replace y4 : at_ h10 = at_ h + 1 := y4
            replace y5 : eI h10 11 5 = eI h 11 5 := y5
            have l1 := w2.2.1
            have l0 := ct.2.2.2.2.2
            rw [y5] at l1
            obtain ⟨v1, v2, v3, v4, v5, v6⟩ := cst_2 e13 t0 t1 t2 t3 t4 (by omega)
            exact ⟨v6 (by omega), TYR_le (tyr_un ct.2.2.2.2.1 y5 y6 y4 w2 v1 v2 v3 (fun S => rfl) (by omega)) (by omega)⟩
        · rw [if_neg c10] at e
          obtain ⟨h9, e9, e⟩ := ob1_some e
          unfold f_X2_readOne_2_121 at e
          cases e
          exact absurd fz (fail_nz e9 (by decide))
    by_cases c29 : r1 < 29
    · rw [if_pos c29] at e
      exact go44 e
    · rw [if_neg c29] at e
      have d29 := gi_of_nlt c29
      by_cases c37 : (37 : Int32) < r1
      · rw [if_pos c37] at e
        exact go44 e
      · rw [if_neg c37] at e
        have d37 := gi_of_nlt c37
        obtain ⟨h5, e5, e⟩ := ob1_some e
        unfold f_X2_readOne_2_121 at e
        cases e
        unfold f_X2_readName_2 at e5
        obtain ⟨r3, h3, e3, e5⟩ := ob2_some e5
        obtain ⟨q3, q4⟩ := CT_kind ct e3
        obtain rfl : h = h3 := q3.symm
        have good : f_X2_readName_2_31 h = some h' → CT B L P 11 h' ∧ TYR 11 h h' (17 - 2 * op.toInt) false := by
          intro e6
          unfold f_X2_readName_2_31 at e6
          obtain ⟨r5, h6, e6', e6⟩ := ob2_some e6
          obtain ⟨q5, q6⟩ := CT_kind ct e6'
          obtain rfl : h = h6 := q5.symm
          replace q6 : r5.toInt = kd h := q6
          obtain ⟨h7, e7, e6⟩ := ob1_some e6
          obtain ⟨h8, e8, e6⟩ := ob1_some e6
          cases e6
          have u1 := fb_addI (x := 10000) (y := r5) (by omega) (by omega)
          have u2 := fb_subI (x := 10000 + r5) (y := 29) (by omega) (by omega)
          obtain ⟨y1, y2⟩ := tleaf_2 ct (by omega) e7 e8 (by omega)
          exact ⟨y1, TYR_le y2 (by omega)⟩
        by_cases c35 : r3 < 35
        · rw [if_pos c35] at e5; exact good e5
        · rw [if_neg c35] at e5
          by_cases c0 : eI h 5 2 = 0
          · rw [if_pos c0] at e5; exact good e5
          · rw [if_neg c0] at e5
            by_cases c1 : eI h 5 2 = 1
            · rw [if_pos c1] at e5; exact good e5
            · rw [if_neg c1] at e5
              obtain ⟨h6, e6, e5⟩ := ob1_some e5
              cases e5
              exact absurd fz (fail_nz e6 (by decide))
theorem task_2 {B : Int → Int} {L : Int} {P : Nat → Int} {n : Nat} (ih1 : TAsk_2 B L P n) (ih2 : TLev_2 B L P n) : TAsk_2 B L P (n + 1) := by
  have z1 : (1 : Int32).toInt = 1 := rfl
  have z3 : (3 : Int32).toInt = 3 := rfl
  have z8 : (8 : Int32).toInt = 8 := rfl
  have z28 : (28 : Int32).toInt = 28 := rfl
  have z20000 : (20000 : Int32).toInt = 20000 := rfl
  intro h h' op e ct op0 op8 fz
  have e : f_X2_readAsk_2_b (fun h p1 p2 => G_read_2 n 0 h p1 p2) (fun h p1 => G_read_2 n 1 h p1 0) (fun h p1 => G_read_2 n 2 h p1 0) h op = some h' := e
  unfold f_X2_readAsk_2_b at e
  obtain ⟨r1, h1, e1, e⟩ := ob2_some e
  obtain ⟨q1, q2⟩ := CT_kind ct e1
  obtain rfl : h = h1 := q1.symm
  replace q2 : r1.toInt = kd h := q2
  by_cases c28 : r1 = 28
  · rw [if_pos c28] at e
    have d28 := gi_of_eq c28
    obtain ⟨r7, h7, e7, e⟩ := ob2_some e
    unfold f_X2_opens at e7
    by_cases c : op < 8
    · rw [if_pos c] at e7
      have dc := gi_of_lt c
      obtain ⟨h2, e2, e7⟩ := ob1_some e7
      cases e7
      obtain ⟨y1, y2, y3, y4, y5, y6⟩ := CT_adv (by decide) ct (by omega) e2
      rw [if_neg (by decide)] at e
      obtain ⟨h9, e9, e⟩ := ob1_some e
      obtain ⟨h10, e10, e⟩ := ob1_some e
      unfold f_X2_readAsk_2_34 at e
      cases e
      have f9 : eI h9 5 0 = 0 := by rw [← (w_f_X6_addStep_2 _ _ _ e10).1 5 0 (by decide)]; exact fz
      have a1 := fb_addI (x := op) (y := 1) (by omega) (by omega)
      obtain ⟨w1, w2⟩ := ih1 h7 h9 (op + 1) e9 y1 (by omega) (by omega) f9
      obtain ⟨t0, t1, t2, t3, t4, t5⟩ := id w1
      have tc := t1.2.2.1
      have l1 := w2.2.1
      have l0 := ct.2.2.2.2.2
      rw [y4] at l1
      obtain ⟨v1, v2, v3, v4, v5, v6⟩ := cst_2 e10 t0 t1 t2 t3 t4 (by omega)
      exact ⟨v6 (by omega), TYR_le (tyr_un ct.2.2.2.2.1 y4 y5 y2 w2 v1 v2 v3 (fun S => rfl) (by omega)) (by omega)⟩
    · rw [if_neg c] at e7
      obtain ⟨h2, e2, e7⟩ := ob1_some e7
      cases e7
      rw [if_pos rfl] at e
      unfold f_X2_readAsk_2_34 at e
      cases e
      exact absurd fz (fail_nz e2 (by decide))
  · rw [if_neg c28] at e
    obtain ⟨h3, e3, e⟩ := ob1_some e
    obtain ⟨r4, h4, e4, e⟩ := ob2_some e
    have k4 : h4 = h3 := cp_kind_same e4
    obtain rfl : h3 = h4 := k4.symm
    have no62 : f_X2_readAsk_2_62 (fun h p1 p2 => G_read_2 n 0 h p1 p2) (fun h p1 => G_read_2 n 1 h p1 0) (fun h p1 => G_read_2 n 2 h p1 0) h3 op r4 = some h' → False := by
      intro e
      unfold f_X2_readAsk_2_62 at e
      obtain ⟨h5, e5, e⟩ := ob1_some e
      have nz := fail_nz e5 (by decide)
      unfold f_X2_readAsk_2_68 f_X2_readAsk_2_97 at e
      rw [if_neg nz] at e
      cases e
      exact nz fz
    by_cases c3 : r4 < 3
    · rw [if_pos c3] at e; exact absurd e no62
    · rw [if_neg c3] at e
      have d3 := gi_of_nlt c3
      by_cases c8 : r4 ≤ 8
      · rw [if_pos c8] at e
        have d8 := gi_of_le c8
        unfold f_X2_readAsk_2_68 f_X2_readAsk_2_97 at e
        by_cases p0 : eI h3 5 0 = 0
        · rw [if_pos p0] at e
          obtain ⟨w1, w2⟩ := ih2 3 h h3 op e3 (by omega) (by omega) ct op0 op8 p0
          obtain ⟨u1, u2⟩ := CT_kind w1 e4
          replace u2 : r4.toInt = kd h3 := u2
          obtain ⟨h13, e13, e⟩ := ob1_some e
          obtain ⟨h14, e14, e⟩ := ob1_some e
          obtain ⟨h15, e15, e⟩ := ob1_some e
          cases e
          obtain ⟨y1, y2, y3, y4, y5, y6⟩ := CT_adv (by decide) w1 (by omega) e13
          have f14 : eI h14 5 0 = 0 := by rw [← (w_f_X6_addStep_2 _ _ _ e15).1 5 0 (by decide)]; exact fz
          obtain ⟨x1, x2⟩ := ih2 3 h13 h14 op e14 (by omega) (by omega) y1 op0 op8 f14
          obtain ⟨t0, t1, t2, t3, t4, t5⟩ := id x1
          have tc := t1.2.2.1
          have l1 := x2.2.1
          have l2 := w2.2.1
          have l0 := ct.2.2.2.2.2
          rw [y4] at l1
          obtain ⟨v1, v2, v3, v4, v5, v6⟩ := cst_2 e15 t0 t1 t2 t3 t4 (by omega)
          have b3 : decide ((3 : Int32).toInt ≤ 2) = false := by decide
          rw [b3] at w2 x2
          have us := fb_addI (x := 20000) (y := r4) (by omega) (by omega)
          refine ⟨v6 (by omega), tyr_bin ct.2.2.2.2.1 w2 y4 y5 y2 x2 v1 v2 v3 (fun S => ?_) (by omega) (by omega) (by omega)⟩
          unfold step1
          rw [if_neg (by omega), if_neg (by omega), if_neg (by omega), if_neg (by omega), if_pos (by omega)]
        · rw [if_neg p0] at e
          cases e
          exact absurd fz p0
      · rw [if_neg c8] at e; exact absurd e no62
theorem tloop_2 {B : Int → Int} {L : Int} {P : Nat → Int} {n : Nat} (ih3 : TLev_2 B L P n) {l op : Int32} (hl : 0 ≤ l.toInt ∧ l.toInt ≤ 4 ∧ ¬ l.toInt = 2) (op0 : 0 ≤ op.toInt) (op8 : op.toInt ≤ 8) {h h' : HS} (ct : CT B L P 11 h) (fz : eI h' 5 0 = 0) : ∀ (k : Nat) (h3 : HS) (x5 : Int32), f_X2_readLevel_2_42 (fun h p1 p2 => G_read_2 n 0 h p1 p2) (fun h p1 => G_read_2 n 1 h p1 0) (fun h p1 => G_read_2 n 2 h p1 0) k h3 l op x5 = some h' → CT B L P 11 h3 → TYR 11 h h3 (22 - 2 * op.toInt - l.toInt) (decide (l.toInt ≤ 2)) → CT B L P 11 h' ∧ TYR 11 h h' (22 - 2 * op.toInt - l.toInt) (decide (l.toInt ≤ 2)) := by
  have z1 : (1 : Int32).toInt = 1 := rfl
  have z20000 : (20000 : Int32).toInt = 20000 := rfl
  have al := fb_addI (x := l) (y := 1) (by omega) (by omega)
  intro k
  induction k with
  | zero => intro h3 x5 e; cases e
  | succ k ihk =>
    intro h3 x5 e c3 y3
    rw [f_X2_readLevel_2_42_s] at e
    unfold f_X2_readLevel_2_105 at e
    have stop : some h3 = some h' → CT B L P 11 h' ∧ TYR 11 h h' (22 - 2 * op.toInt - l.toInt) (decide (l.toInt ≤ 2)) := by
      intro q
      cases q
      exact ⟨c3, y3⟩
    by_cases c1 : (300 : Int32) ≤ x5
    · rw [if_pos c1] at e; exact stop e
    · rw [if_neg c1] at e
      by_cases p0 : eI h3 5 0 = 0
      · rw [if_pos p0] at e
        obtain ⟨r8, h8, e8, e⟩ := ob2_some e
        obtain ⟨u1, u2⟩ := CT_kind c3 e8
        obtain rfl : h3 = h8 := u1.symm
        replace u2 : r8.toInt = kd h3 := u2
        obtain ⟨r9, e9, e⟩ := ob1_some e
        have u9 := cp_levelOf e9
        rw [u2] at u9
        by_cases c9 : r9 = l
        · rw [if_pos c9] at e
          have d9 := gi_of_eq c9
          obtain ⟨r11, h11, e11, e⟩ := ob2_some e
          obtain ⟨u3, u4⟩ := CT_kind c3 e11
          obtain rfl : h3 = h11 := u3.symm
          replace u4 : r11.toInt = kd h3 := u4
          obtain ⟨h12, e12, e⟩ := ob1_some e
          obtain ⟨h13, e13, e⟩ := ob1_some e
          obtain ⟨h14, e14, e⟩ := ob1_some e
          have sp := lv_spec (kd h3)
          obtain ⟨a1, a2, a3, a4, a5, a6⟩ := CT_adv (by decide) c3 (by omega) e12
          have f14 : eI h14 5 0 = 0 := kf_f_X2_readLevel_2_42 _ (fun h p1 p2 => kf_G_read_2 n 0 h p1 p2) _ (fun h p1 => kf_G_read_2 n 1 h p1 0) _ (fun h p1 => kf_G_read_2 n 2 h p1 0) _ _ _ _ _ _ e fz
          have f13 : eI h13 5 0 = 0 := by rw [← (w_f_X6_addStep_2 _ _ _ e14).1 5 0 (by decide)]; exact f14
          obtain ⟨w1, w2⟩ := ih3 (l + 1) h12 h13 op e13 (by omega) (by omega) a1 op0 op8 f13
          rw [show (l + 1).toInt = l.toInt + 1 by omega] at w2
          have bb : decide (l.toInt + 1 ≤ 2) = decide (l.toInt ≤ 2) := by
            by_cases q : l.toInt ≤ 2
            · rw [decide_eq_true q, decide_eq_true (by omega)]
            · rw [decide_eq_false q, decide_eq_false (by omega)]
          rw [bb] at w2
          obtain ⟨t0, t1, t2, t3, t4, t5⟩ := id w1
          have tc := t1.2.2.1
          have l1 := w2.2.1
          have l2 := y3.2.1
          have l0 := ct.2.2.2.2.2
          rw [a4] at l1
          obtain ⟨v1, v2, v3, v4, v5, v6⟩ := cst_2 e14 t0 t1 t2 t3 t4 (by omega)
          have us := fb_addI (x := 20000) (y := r11) (by omega) (by omega)
          refine ihk h14 (x5 + 1) e (v6 (by omega)) (tyr_bin ct.2.2.2.2.1 y3 a4 a5 a2 w2 v1 v2 v3 (fun S => ?_) (by omega) (by omega) (by omega))
          unfold step1
          by_cases q : l.toInt ≤ 2
          · rw [decide_eq_true q]
            rw [if_neg (by omega), if_neg (by omega), if_neg (by omega), if_pos (by omega)]
          · rw [decide_eq_false q]
            rw [if_neg (by omega), if_neg (by omega), if_neg (by omega), if_neg (by omega), if_neg (by omega)]
        · rw [if_neg c9] at e; exact stop e
      · rw [if_neg p0] at e; exact stop e
theorem tlev_2 {B : Int → Int} {L : Int} {P : Nat → Int} {n : Nat} (ih1 : TOne_2 B L P n) (ih2 : TAsk_2 B L P n) (ih3 : TLev_2 B L P n) : TLev_2 B L P (n + 1) := by
  have z1 : (1 : Int32).toInt = 1 := rfl
  have z2 : (2 : Int32).toInt = 2 := rfl
  have z5 : (5 : Int32).toInt = 5 := rfl
  intro l h h' op e l0 l5 ct op0 op8 fz
  have e : f_X2_readLevel_2_b (fun h p1 p2 => G_read_2 n 0 h p1 p2) (fun h p1 => G_read_2 n 1 h p1 0) (fun h p1 => G_read_2 n 2 h p1 0) h l op = some h' := e
  unfold f_X2_readLevel_2_b at e
  by_cases c2 : l = 2
  · rw [if_pos c2] at e
    have d2 := gi_of_eq c2
    obtain ⟨h5, e5, e⟩ := ob1_some e
    cases e
    obtain ⟨y1, y2⟩ := ih2 h h' op e5 ct op0 op8 fz
    rw [show decide (l.toInt ≤ 2) = true from decide_eq_true (by omega)]
    exact ⟨y1, TYR_le y2 (by omega)⟩
  · rw [if_neg c2] at e
    have d2 := gi_of_ne c2
    by_cases c5 : l = 5
    · rw [if_pos c5] at e
      have d5 := gi_of_eq c5
      obtain ⟨h5, e5, e⟩ := ob1_some e
      cases e
      obtain ⟨y1, y2⟩ := ih1 h h' op e5 ct op0 op8 fz
      rw [show decide (l.toInt ≤ 2) = false from decide_eq_false (by omega)]
      exact ⟨y1, TYR_le y2 (by omega)⟩
    · rw [if_neg c5] at e
      have d5 := gi_of_ne c5
      obtain ⟨h3, e3, e⟩ := ob1_some e
      have al := fb_addI (x := l) (y := 1) (by omega) (by omega)
      have f3 : eI h3 5 0 = 0 := kf_f_X2_readLevel_2_42 _ (fun h p1 p2 => kf_G_read_2 n 0 h p1 p2) _ (fun h p1 => kf_G_read_2 n 1 h p1 0) _ (fun h p1 => kf_G_read_2 n 2 h p1 0) _ _ _ _ _ _ e fz
      obtain ⟨y1, y2⟩ := ih3 (l + 1) h h3 op e3 (by omega) (by omega) ct op0 op8 f3
      rw [show (l + 1).toInt = l.toInt + 1 by omega] at y2
      have bb : decide (l.toInt + 1 ≤ 2) = decide (l.toInt ≤ 2) := by
        by_cases q : l.toInt ≤ 2
        · rw [decide_eq_true q, decide_eq_true (by omega)]
        · rw [decide_eq_false q, decide_eq_false (by omega)]
      rw [bb] at y2
      exact tloop_2 ih3 ⟨l0, by omega, by omega⟩ op0 op8 ct fz _ h3 0 e y1 (TYR_le y2 (by omega))
theorem types_2 (B : Int → Int) (L : Int) (P : Nat → Int) : ∀ n : Nat, TOne_2 B L P n ∧ TAsk_2 B L P n ∧ TLev_2 B L P n := by
  intro n
  induction n with
  | zero =>
    refine ⟨?_, ?_, ?_⟩
    · intro h h' op e
      exact absurd e (by simp [G_read_2])
    · intro h h' op e
      exact absurd e (by simp [G_read_2])
    · intro l h h' op e
      exact absurd e (by simp [G_read_2])
  | succ n ih => exact ⟨tone_2 ih.1 ih.2.2, task_2 ih.2.1 ih.2.2, tlev_2 ih.1 ih.2.1 ih.2.2⟩
