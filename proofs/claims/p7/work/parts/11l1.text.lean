theorem cp_clear_1 : ∀ (n : Nat) (h h' : HS) (x1 : Int32), f_X6_clear_1_12 n h x1 = some h' → 0 ≤ x1.toInt → (∀ w : Nat, (w : Int) < x1.toInt → eA h 10 3 w = -1) → (∀ w : Nat, w < 4 → eA h' 10 3 w = -1) ∧ Fr [(1, 10, 3), (1, 10, 4)] h h' := by
  have z1 : (1 : Int32).toInt = 1 := rfl
  have z4 : (4 : Int32).toInt = 4 := rfl
  intro n
  induction n with
  | zero => intro h h' x1 e; cases e
  | succ n ih =>
    intro h h' x1 e h0 h1
    rw [f_X6_clear_1_12_s] at e
    by_cases c : (4 : Int32) ≤ x1
    · rw [if_pos c] at e
      have d := gi_of_le c
      cases e
      exact ⟨fun w hw => h1 w (by omega), Fr_refl _ _⟩
    · rw [if_neg c] at e
      have d := gi_of_nle c
      obtain ⟨-, e⟩ := ob_if e
      obtain ⟨-, e⟩ := ob_if e
      have a := fb_addI (x := x1) (y := 1) (by omega) (by omega)
      have nx : ∀ w : Nat, (w : Int) < (x1 + 1).toInt → upd (eA h 10 3) x1.toNatClampNeg (-1) w = -1 := by
        intro w hw
        unfold upd
        by_cases cw : w = x1.toNatClampNeg
        · rw [if_pos cw]
        · rw [if_neg cw]
          rw [Int32.toNatClampNeg] at cw
          exact h1 w (by omega)
      obtain ⟨k1, k2⟩ := ih _ h' (x1 + 1) e (by omega) nx
      exact ⟨k1, Fr_trans (Fr_sA (by decide) (Fr_sA (by decide) (Fr_refl _ _))) k2⟩
theorem text_1 {h g h3 h4 : HS} {r : Int32 × HS} (hL0 : 0 ≤ cL h) (hL : cL h ≤ 300) (tap : TAP h g) (gn : (eA g 0 0 3).toInt = 1) (e3 : f_X7_split h = some h3) (e4 : f_X2_parse_1 h3 = some h4) (er : f_X9_text g = some r) : TXO 10 1 h4 g r := by
  have z0 : (0 : Int32).toInt = 0 := rfl
  have z4 : (4 : Int32).toInt = 4 := rfl
  obtain ⟨P, te, at0⟩ := cx_split e3 hL0 hL
  have fs := w_f_X7_split _ _ e3
  unfold f_X2_parse_1 at e4
  obtain ⟨h1, e1, e4⟩ := ob1_some e4
  unfold f_X6_clear_1 at e1
  obtain ⟨cl1, cl2⟩ := cp_clear_1 _ _ h1 0 e1 (by decide) (fun w hw => by omega)
  have f1 : Fr [(0, 5, 0), (0, 5, 1), (0, 10, 1), (0, 10, 5), (1, 10, 3), (1, 10, 4)] h3 h1 := Fr_trans (Fr_sI (by decide) (Fr_sI (by decide) (Fr_sI (by decide) (Fr_sI (by decide) (Fr_refl _ _))))) (Fr_mono (by decide) cl2)
  have p0 : eI h1 5 0 = 0 := cl2.1 5 0 (by decide)
  have p1 : eI h1 5 1 = -1 := cl2.1 5 1 (by decide)
  have c1 : eI h1 10 1 = 0 := cl2.1 10 1 (by decide)
  have c5 : eI h1 10 5 = 0 := cl2.1 10 5 (by decide)
  unfold f_X9_text at er
  rw [if_neg (fun q => by have := gi_of_eq q; omega)] at er
  obtain ⟨g2, b2, er⟩ := ob1_some er
  have fN : Fr [(0, 0, 3), (0, 0, 14), (0, 0, 15), (0, 0, 19), (0, 0, 20), (0, 0, 21), (0, 0, 22), (0, 0, 25), (0, 0, 28), (0, 0, 29), (0, 0, 36)] g (sI (sI (sI (sI (sI (sI (sI (sI (sI (sI (sI g 0 14 (eI g 0 3)) 0 3 0) 0 15 0) 0 19 0) 0 20 (-1)) 0 21 0) 0 22 0) 0 25 0) 0 28 4) 0 29 0) 0 36 0) := Fr_sI (by decide) (Fr_sI (by decide) (Fr_sI (by decide) (Fr_sI (by decide) (Fr_sI (by decide) (Fr_sI (by decide) (Fr_sI (by decide) (Fr_sI (by decide) (Fr_sI (by decide) (Fr_sI (by decide) (Fr_sI (by decide) (Fr_refl _ _)))))))))))
  generalize hgN : (sI (sI (sI (sI (sI (sI (sI (sI (sI (sI (sI g 0 14 (eI g 0 3)) 0 3 0) 0 15 0) 0 19 0) 0 20 (-1)) 0 21 0) 0 22 0) 0 25 0) 0 28 4) 0 29 0) 0 36 0) = gN at b2 fN
  have fn := w_f_X9_next _ _ b2
  have mt : MT (cB h) (cL h) gN := by
    refine ⟨?_, fun j a b => ?_⟩
    · have : eI gN 0 14 = eI g 0 3 := by rw [← hgN]; rfl
      rw [this, ← tap.1]; rfl
    · have k := tap.2 j a b
      unfold mB at *
      rw [fN.2.1 0 2 (by decide)]
      exact k
  have te1 : TE (cB h) (cL h) h1 P := TE_fr te f1 (by decide) (by decide) (by decide) (by decide)
  have a1 : eI h1 4 4 = 0 := (f1.1 4 4 (by decide)).trans at0
  have i0 := te1.2.2.2 0 (by have := te1.2.1; omega)
  have tk0 := i0.2.1
  rw [te1.1] at tk0
  have aN : (eI gN 0 15).toInt = 0 := by rw [← hgN]; rfl
  have nx := mx_next b2 hL mt (Int.le_refl 0) aN tk0
  have tt : TT (cB h) (cL h) P h1 g2 := by
    refine ⟨hL, te1, MT_fr mt fn (by decide) (by decide), ?_, ?_, ?_, ?_, ?_⟩
    · unfold at_; rw [a1]; decide
    · unfold at_; rw [a1]; have := te1.2.1; omega
    · rw [a1]; exact nx.1
    · rw [a1]; exact gi_eq nx.2.1
    · unfold kd vl; rw [a1]; exact nx.2.2
  have G : ∀ (k : Nat) (v : Int32), eI gN 0 k = v → (0, 0, k) ∉ S_X9_next → eI g2 0 k = v := fun k v q n => (fn.1 0 k n).trans q
  have g19 : eI g2 0 19 = 0 := G 19 0 (by rw [← hgN]; rfl) (by decide)
  have g20 : eI g2 0 20 = -1 := G 20 (-1) (by rw [← hgN]; rfl) (by decide)
  have g21 : eI g2 0 21 = 0 := G 21 0 (by rw [← hgN]; rfl) (by decide)
  have g22 : eI g2 0 22 = 0 := G 22 0 (by rw [← hgN]; rfl) (by decide)
  have g25 : eI g2 0 25 = 0 := G 25 0 (by rw [← hgN]; rfl) (by decide)
  have g28 : eI g2 0 28 = 4 := G 28 4 (by rw [← hgN]; rfl) (by decide)
  have g29 : eI g2 0 29 = 0 := G 29 0 (by rw [← hgN]; rfl) (by decide)
  have g36 : eI g2 0 36 = 0 := G 36 0 (by rw [← hgN]; rfl) (by decide)
  have g3 : eI g2 0 3 = 0 := G 3 0 (by rw [← hgN]; rfl) (by decide)
  have fg2 : Fr SPX g g2 := Fr_trans (Fr_mono (by decide) fN) (Fr_mono (by decide) fn)
  have bg : BEG (cB h) (cL h) P 10 h1 g2 := by
    refine ⟨tt, p0, g19, by rw [g21]; rfl, by rw [g22]; rfl, by rw [g25]; rfl, by rw [g28]; rfl, ⟨p1, g20⟩, by rw [c1, g29], ⟨by rw [c1]; decide, by rw [c1]; decide⟩, by rw [c5]; decide, by rw [g36, c5, c1]; rfl, ?_, fun c hc => ?_, fun w hw => Or.inl ⟨cl1 w hw, fun c hc => ?_⟩⟩
    · unfold at_; rw [c5, a1]; exact Int.le_refl _
    · rw [c1] at hc; omega
    · rw [c1] at hc; omega
  rcases parse_1 _ h1 g2 0 _ e4 bg (by rw [c1]) er with ⟨y1, N3, g', y2, y3, y4, y5, y6⟩ | ⟨y1, g', y2, y3, y4⟩
  · left
    cases N3 with
    | zero => cases y2
    | succ N3 =>
      rw [f_X9_text_74_s, if_neg (fun q => by rw [q] at y6; exact absurd y6 (by decide))] at y2
      unfold f_X9_text_167 at y2
      rw [if_neg (fun q => by have := gi_of_le q; omega)] at y2
      cases y2
      refine ⟨y1, rfl, y3, y4, ?_, Fr_sI (by decide) (Fr_sI (by decide) (Fr_trans fg2 (Fr_mono (by decide) y5)))⟩
      show eI g' 0 3 = 0
      rw [y5.1 0 3 (by decide)]; exact g3
  · right
    obtain ⟨bt, bf, bw, b21, b22, b25, b28, bpl, tx1, ⟨tx2, tx3⟩, tx4, tx5, tx6, tx7, tx8⟩ := id y3
    unfold f_X9_text_167 at y2
    rw [if_pos (by rw [bw]; decide)] at y2
    have r3 : eA g' 0 0 = eA g 0 0 := by rw [y4.2.1 0 0 (by decide), fg2.2.1 0 0 (by decide)]
    rw [r3] at y2
    obtain ⟨-, y2⟩ := ob_if y2
    have ix : (eA g 0 0 3).toNatClampNeg = 1 := by rw [Int32.toNatClampNeg, gn]; rfl
    rw [ix] at y2
    have fA : Fr [(0, 0, 4), (0, 0, 5), (1, 0, 6)] g' (sA (sI (sI g' 0 4 (eI g' 0 19)) 0 5 (eI g' 0 20)) 0 6 (upd (eA g' 0 6) 1 (eI g' 0 29))) := Fr_sA (by decide) (Fr_sI (by decide) (Fr_sI (by decide) (Fr_refl _ _)))
    have ta := TT_at bt
    obtain ⟨gE, w1, w2, w3, w4⟩ := mp_211 (T := 1) gn (by decide) _ _ 0 r y2 (by decide) (by show (0 : Int32).toInt ≤ (eI g' 0 29).toInt; omega) (by show (eI g' 0 29).toInt ≤ 24; omega)
    replace w3 : ∀ k : Nat, (0 : Int32).toInt ≤ (k : Int) → (k : Int) < (eI g' 0 29).toInt → eA gE 0 7 (24 * 1 + k) = eA g' 0 31 k ∧ eA gE 0 8 (24 * 1 + k) = 400 * eA g 0 0 3 + eA g' 0 32 k ∧ eA gE 0 9 (24 * 1 + k) = eA g' 0 33 k ∧ eA gE 0 10 (24 * 1 + k) = eA g' 0 34 k ∧ eA gE 0 11 (24 * 1 + k) = eA g' 0 35 k := w3
    replace w4 : ∀ i : Nat, ((i : Int) < 24 * ((1 : Nat) : Int) + (0 : Int32).toInt ∨ 24 * ((1 : Nat) : Int) + (eI g' 0 29).toInt ≤ (i : Int)) → eA gE 0 7 i = eA g' 0 7 i ∧ eA gE 0 8 i = eA g' 0 8 i ∧ eA gE 0 9 i = eA g' 0 9 i ∧ eA gE 0 10 i = eA g' 0 10 i ∧ eA gE 0 11 i = eA g' 0 11 i := w4
    have e36 : eI gE 0 36 = eI g' 0 36 := w2.1 0 36 (by decide)
    have e37 : eA gE 0 37 = eA g' 0 37 := w2.2.1 0 37 (by decide)
    have e38 : eA gE 0 38 = eA g' 0 38 := w2.2.1 0 38 (by decide)
    have e12 : eA gE 0 12 = eA g' 0 12 := w2.2.1 0 12 (by decide)
    have e13 : eA gE 0 13 = eA g' 0 13 := w2.2.1 0 13 (by decide)
    have e00 : eA gE 0 0 = eA g' 0 0 := w2.2.1 0 0 (by decide)
    have e06 : eA gE 0 6 = upd (eA g' 0 6) 1 (eI g' 0 29) := w2.2.1 0 6 (by decide)
    obtain ⟨v1, v2, v3, v4, v5⟩ := mp_318 (T := 1) gn (by decide) _ gE 0 r w1 (by decide) (by rw [e36]; omega) (by rw [e36]; omega)
    rw [e36, e37, e38] at v4
    rw [e36, e12, e13] at v5
    have R6 : eA r.2 0 6 = upd (eA g' 0 6) 1 (eI g' 0 29) := (v3.2.1 0 6 (by decide)).trans e06
    have R7 : eA r.2 0 7 = eA gE 0 7 := v3.2.1 0 7 (by decide)
    have R8 : eA r.2 0 8 = eA gE 0 8 := v3.2.1 0 8 (by decide)
    have R9 : eA r.2 0 9 = eA gE 0 9 := v3.2.1 0 9 (by decide)
    have R10 : eA r.2 0 10 = eA gE 0 10 := v3.2.1 0 10 (by decide)
    have R11 : eA r.2 0 11 = eA gE 0 11 := v3.2.1 0 11 (by decide)
    have q6 : eA g' 0 6 = eA g 0 6 := (y4.2.1 0 6 (by decide)).trans (fg2.2.1 0 6 (by decide))
    have q7 : eA g' 0 7 = eA g 0 7 := (y4.2.1 0 7 (by decide)).trans (fg2.2.1 0 7 (by decide))
    have q8 : eA g' 0 8 = eA g 0 8 := (y4.2.1 0 8 (by decide)).trans (fg2.2.1 0 8 (by decide))
    have q9 : eA g' 0 9 = eA g 0 9 := (y4.2.1 0 9 (by decide)).trans (fg2.2.1 0 9 (by decide))
    have q10 : eA g' 0 10 = eA g 0 10 := (y4.2.1 0 10 (by decide)).trans (fg2.2.1 0 10 (by decide))
    have q11 : eA g' 0 11 = eA g 0 11 := (y4.2.1 0 11 (by decide)).trans (fg2.2.1 0 11 (by decide))
    have q12 : eA g' 0 12 = eA g 0 12 := (y4.2.1 0 12 (by decide)).trans (fg2.2.1 0 12 (by decide))
    have q13 : eA g' 0 13 = eA g 0 13 := (y4.2.1 0 13 (by decide)).trans (fg2.2.1 0 13 (by decide))
    refine ⟨y1, v1, ?_, ?_, ?_, ?_, ⟨?_, ⟨tx2, tx3⟩, ⟨tx4, by omega⟩, fun c hc => ?_, fun w hw => ?_⟩, ⟨fun u hu => ?_, fun i hi => ?_, fun i hi => ?_⟩, ?_⟩
    · rw [v3.1 0 4 (by decide), w2.1 0 4 (by decide)]
      exact bw
    · rw [v3.1 0 5 (by decide), w2.1 0 5 (by decide)]
      show eI g' 0 20 = _
      rw [bpl.2, bpl.1]
    · rw [v3.1 0 3 (by decide), w2.1 0 3 (by decide)]
      show eI g' 0 3 = 0
      rw [y4.1 0 3 (by decide)]; exact g3
    · rw [v2, e00, r3]
    · rw [R6]
      show _ = (upd (eA g' 0 6) 1 (eI g' 0 29) 1).toInt
      unfold upd
      rw [if_pos rfl]; exact tx1
    · have k3 := w3 c (by omega) (by omega)
      have x := tx7 c hc
      unfold CLF
      rw [R7, R9, R10, R11, k3.1, k3.2.2.1, k3.2.2.2.1, k3.2.2.2.2]
      refine ⟨x.1, x.2.1, x.2.2.1, fun q => ?_, x.2.2.2.2⟩
      obtain ⟨l1, l2, l3, l4, l5, l6⟩ := x.2.2.2.1 q
      have m1 := fb_mulJ (x := 400) (y := eA g 0 0 3) (k := 400) rfl (by omega) (by omega)
      have m2 := fb_addI (x := 400 * eA g 0 0 3) (y := eA g' 0 32 c) (by omega) (by omega)
      refine ⟨l1, l2, l3, ?_, fun i i1 i2 => ?_, ?_⟩
      · rw [R8, k3.2.1, m2, m1, gn, l4]
        omega
      · have k4 := v4 (i + c) (by omega) (by omega)
        rw [show i + (400 * 1 + c) = 400 * 1 + (i + c) by omega, k4.1, k4.2]
        exact l5 i i1 i2
      · have k4 := v4 ((eA h4 10 4 (eA g' 0 31 c).toInt.toNat).toInt.toNat + c) (by omega) (by omega)
        rw [show (eA h4 10 4 (eA g' 0 31 c).toInt.toNat).toInt.toNat + (400 * 1 + c) = 400 * 1 + ((eA h4 10 4 (eA g' 0 31 c).toInt.toNat).toInt.toNat + c) by omega, k4.1]
        exact l6
    · rcases tx8 w hw with ⟨x1, x2⟩ | ⟨x1, c, x2, x3⟩
      · refine Or.inl ⟨x1, fun c hc => ?_⟩
        rw [R7, (w3 c (by omega) (by omega)).1]
        exact x2 c hc
      · refine Or.inr ⟨x1, c, x2, ?_⟩
        rw [R7, (w3 c (by omega) (by omega)).1]
        exact x3
    · rw [R6]
      unfold upd
      rw [if_neg hu, q6]
    · have k4 := w4 i (by omega)
      rw [R7, R8, R9, R10, R11, k4.1, k4.2.1, k4.2.2.1, k4.2.2.2.1, k4.2.2.2.2, q7, q8, q9, q10, q11]
      exact ⟨rfl, rfl, rfl, rfl, rfl⟩
    · have k5 := v5 i (by omega)
      rw [k5.1, k5.2, q12, q13]
      exact ⟨rfl, rfl⟩
    · rw [v3.2.1 0 1 (by decide), w2.2.1 0 1 (by decide)]
      show eA g' 0 1 = _
      rw [y4.2.1 0 1 (by decide), fg2.2.1 0 1 (by decide)]
