/-! plucks -/
theorem j_plucks12 {p : Int32} {q : Nat} (hp : p.toInt = (q : Int)) : ∀ (n m : Nat) (h g : HS) (x f : Int32) (z w : Int32 × HS), f_X8_plucks_12 n h p f x = some z → f_X9_plucks_12 m g p x = some w → STD h g → (q : Int) < (eA g 0 0 1).toInt → f = gc (eA g 0 0) 30 q 1 → 0 ≤ x.toInt → z.1 = w.1 := by
  have y1 : (1 : Int32).toInt = 1 := rfl
  intro n
  induction n with
  | zero => intro m h g x f z w e; cases e
  | succ n ih =>
    intro m h g x f z w e e2 s hq hf hx
    cases m with
    | zero => cases e2
    | succ m =>
      obtain ⟨n1, n0, n4⟩ := std_n s
      have gr := s.2.1.2.2.1.2.2 q hq
      rw [f_X8_plucks_12_s] at e
      rw [f_X9_plucks_12_s] at e2
      obtain ⟨d3, g3, b3, e2⟩ := ob2_some e2
      obtain ⟨rfl, rfl⟩ := pr_inj (mp_ofGoose (q := q) (k := 1) b3 hp rfl (by omega) (by decide))
      rw [hf] at e
      by_cases c : gc (eA g 0 0) 30 q 1 < x
      · rw [if_pos c] at e e2
        cases e
        cases e2
        rfl
      · rw [if_neg c] at e e2
        have d := gi_of_nlt c
        have fr : 0 ≤ (gc (eA g 0 0) 30 q 1).toInt ∧ (gc (eA g 0 0) 30 q 1).toInt ≤ 99 := gr.2.1
        have sb := fb_subI (x := gc (eA g 0 0) 30 q 1) (y := x) (by omega) (by omega)
        have ax := fb_addI (x := x) (y := 1) (by omega) (by omega)
        obtain ⟨d5, g5, b5, e2⟩ := ob2_some e2
        obtain ⟨rfl, rfl⟩ := pr_inj (mp_ofGoose (q := q) (k := 2) b5 hp rfl (by omega) (by decide))
        obtain ⟨d6, g6, b6, e2⟩ := ob2_some e2
        obtain ⟨rfl, rfl⟩ := pr_inj (mp_ofGoose (q := q) (k := 3) b6 hp rfl (by omega) (by decide))
        obtain ⟨d7, g7, b7, e2⟩ := ob2_some e2
        obtain ⟨rfl, rfl⟩ := pr_inj (mp_ofGoose (q := q) (k := 1) b7 hp rfl (by omega) (by decide))
        obtain ⟨r3, h3, a3, e⟩ := ob2_some e
        obtain ⟨d8, g8, b8, e2⟩ := ob2_some e2
        obtain ⟨j1, j2⟩ := j_trueWith s hp hq (by unfold MB; omega) a3 b8
        have j1 : r3 = d8 := j1
        subst j1
        have f3 := w_f_X1_isTrueWith _ _ _ _ a3
        have k8 := w_f_X9_isTrueBy _ _ _ _ _ _ b8
        have f3 : Fr S_X1_isTrueWith h h3 := f3
        have k8 : Fr S_X9_isTrueBy g g8 := k8
        have s8 : STD h3 g8 := STD_fr s f3 k8 (by decide) (by decide) (by decide) (by decide)
        have g80 : eA g8 0 0 = eA g 0 0 := k8.2.1 0 0 (by decide)
        by_cases c0 : r3 = 0
        · rw [if_pos c0] at e e2
          exact ih m h3 g8 (x + 1) _ z w e e2 s8 (by rw [g80]; exact hq) (by rw [g80]) (by omega)
        · rw [if_neg c0] at e e2
          cases e
          cases e2
          rfl
theorem j_plucks {h g : HS} {p : Int32} {z w : Int32 × HS} (s : STD h g) (e1 : f_X8_plucks h p = some z) (e2 : f_X9_plucks g p = some w) : z.1 = w.1 := by
  obtain ⟨n1, n0, n4⟩ := std_n s
  have s3 : eI h 1 3 = eA g 0 0 1 := s.1.1.1
  unfold f_X8_plucks at e1
  unfold f_X9_plucks at e2
  obtain ⟨r1, h1, a1, e1⟩ := ob2_some e1
  obtain ⟨r2, g2, b2, e2⟩ := ob2_some e2
  obtain ⟨l1, l2⟩ := mp_isGoose b2 n1
  have l1 : g = g2 := l1.symm
  subst l1
  rcases l2 with ⟨l2, l3⟩ | ⟨l2, l3, l4⟩
  · have l2 : r2 = 0 := l2
    rw [if_pos l2] at e2
    cases e2
    obtain ⟨rfl, rfl⟩ := pr_inj (cp_ofGoose_no a1 (by rw [s3]; exact l3))
    rw [show (8589934592 : Nat) = 8589934591 + 1 from rfl, f_X8_plucks_12_s, if_pos (by decide)] at e1
    cases e1
    rfl
  · have l2 : r2 = 1 := l2
    rw [if_neg (by rw [l2]; decide)] at e2
    obtain ⟨rfl, rfl⟩ := pr_inj (cp_ofGoose (q := p.toInt.toNat) (k := 1) a1 (by omega) rfl (by rw [s3]; omega) (by rw [s3]; exact n1.2) (by decide))
    exact j_plucks12 (q := p.toInt.toNat) (by omega) _ _ _ _ _ _ _ _ e1 e2 s (by omega) (sr_g s.1 (by omega) (by decide)) (by decide)
/-! what is known -/
theorem hv_same {p r d : Int32} (p0 : 0 ≤ p.toInt ∧ p.toInt ≤ 2) (e1 : f_X8_halvesOf p = some r) (e2 : f_X9_halves p = some d) : r = d := by
  have y0 : (0 : Int32).toInt = 0 := rfl
  have y1 : (1 : Int32).toInt = 1 := rfl
  have y2 : (2 : Int32).toInt = 2 := rfl
  unfold f_X8_halvesOf f_X8_halvesOf_16 f_X8_halvesOf_21 at e1
  unfold f_X9_halves f_X9_halves_9 at e2
  by_cases c0 : p = 0
  · rw [if_pos c0] at e1 e2; cases e1; cases e2; rfl
  · rw [if_neg c0] at e1 e2
    have d0 := gi_of_ne c0
    by_cases c1 : p = 1
    · rw [if_pos c1] at e1; cases e1; cases e2; rfl
    · rw [if_neg c1] at e1
      have d1 := gi_of_ne c1
      rw [if_pos (gi_eq (by omega))] at e1
      cases e1; cases e2; rfl
/-- whether one goose tells: the class -/
theorem cp_tells {h g : HS} {x l en : Int32} {z : Int32 × HS} {q : Nat} (s : STD h g) (hx : x.toInt = (q : Int)) (hq : (q : Int) < (eA g 0 0 1).toInt) (e : f_X8_tells h x l en = some z) : (z.1 = 0 ∨ z.1 = 1) ∧ (¬ gc (eA g 0 0) 30 q 2 = l → z.1 = 0) ∧ (gc (eA g 0 0) 30 q 2 = l → ¬ en = 0 → (gc (eA g 0 0) 30 q 4 = 4 → z.1 = 1) ∧ (¬ gc (eA g 0 0) 30 q 4 = 4 → z.1 = 0)) ∧ (gc (eA g 0 0) 30 q 2 = l → en = 0 → (¬ gc (eA g 0 0) 30 q 4 = 2 → z.1 = 0) ∧ (gc (eA g 0 0) 30 q 4 = 2 → ∀ w : Int32 × HS, f_X9_isTrue g x = some w → z.1 = w.1)) := by
  obtain ⟨n1, n0, n4⟩ := std_n s
  have s3 : eI h 1 3 = eA g 0 0 1 := s.1.1.1
  have b1 : (q : Int) < (eI h 1 3).toInt := by rw [s3]; exact hq
  have b2 : (eI h 1 3).toInt ≤ 10 := by rw [s3]; exact n1.2
  unfold f_X8_tells f_X8_tells_70 f_X8_tells_71 f_X8_tells_37 at e
  obtain ⟨r1, h1, a1, e⟩ := ob2_some e
  obtain ⟨rfl, rfl⟩ := pr_inj (cp_ofGoose (q := q) (k := 2) a1 hx rfl b1 b2 (by decide))
  rw [sr_g s.1 hq (show 2 < 9 by decide)] at e
  by_cases cl : gc (eA g 0 0) 30 q 2 = l
  · rw [if_pos cl] at e
    by_cases ce : en = 0
    · rw [if_pos ce] at e
      obtain ⟨r4, h4, a4, e⟩ := ob2_some e
      obtain ⟨rfl, rfl⟩ := pr_inj (cp_ofGoose (q := q) (k := 4) a4 hx rfl b1 b2 (by decide))
      rw [sr_g s.1 hq (show 4 < 9 by decide)] at e
      by_cases cf : gc (eA g 0 0) 30 q 4 = 2
      · rw [if_pos cf] at e
        obtain ⟨r6, h6, a6, e⟩ := ob2_some e
        by_cases c0 : r6 = 0
        · rw [if_pos c0, if_pos (Or.inl rfl)] at e
          cases e
          refine ⟨Or.inl rfl, fun k => absurd cl k, fun _ k => absurd ce k, fun _ _ => ⟨fun k => absurd cf k, fun _ w ew => ?_⟩⟩
          obtain ⟨j1, -⟩ := j_isTrue s hx hq a6 ew
          have j1 : r6 = w.1 := j1
          exact c0.symm.trans j1
        · rw [if_neg c0, if_pos (Or.inr rfl)] at e
          cases e
          refine ⟨Or.inr rfl, fun k => absurd cl k, fun _ k => absurd ce k, fun _ _ => ⟨fun k => absurd cf k, fun _ w ew => ?_⟩⟩
          obtain ⟨j1, j2⟩ := j_isTrue s hx hq a6 ew
          have j1 : r6 = w.1 := j1
          rcases j2 with j2 | j2
          · exact absurd (j1.trans j2) c0
          · exact j2.symm
      · rw [if_neg cf, if_pos (Or.inl rfl)] at e
        cases e
        exact ⟨Or.inl rfl, fun k => absurd cl k, fun _ k => absurd ce k, fun _ _ => ⟨fun _ => rfl, fun k => absurd k cf⟩⟩
    · rw [if_neg ce] at e
      obtain ⟨r8, h8, a8, e⟩ := ob2_some e
      obtain ⟨rfl, rfl⟩ := pr_inj (cp_ofGoose (q := q) (k := 4) a8 hx rfl b1 b2 (by decide))
      rw [sr_g s.1 hq (show 4 < 9 by decide)] at e
      by_cases cf : gc (eA g 0 0) 30 q 4 = 4
      · rw [if_pos cf, if_pos (Or.inr rfl)] at e
        cases e
        exact ⟨Or.inr rfl, fun k => absurd cl k, fun _ _ => ⟨fun _ => rfl, fun k => absurd cf k⟩, fun _ k => absurd k ce⟩
      · rw [if_neg cf, if_pos (Or.inl rfl)] at e
        cases e
        exact ⟨Or.inl rfl, fun k => absurd cl k, fun _ _ => ⟨fun k => absurd k cf, fun _ => rfl⟩, fun _ k => absurd k ce⟩
  · rw [if_neg cl] at e
    cases e
    exact ⟨Or.inl rfl, fun _ => rfl, fun k => absurd k cl, fun k => absurd k cl⟩
/-- what one goose brought till a day: the reference -/
theorem mp_brought {g : HS} {x l d en : Int32} {w : Int32 × HS} {q : Nat} (hx : x.toInt = (q : Int)) (hq : q < 10) (e : f_X9_brought g x l d en = some w) : (¬ gc (eA g 0 0) 30 q 2 = l ∨ gc (eA g 0 0) 30 q 7 = -1 ∨ d < gc (eA g 0 0) 30 q 7 ∨ (en = 0 ∧ ¬ gc (eA g 0 0) 30 q 4 = 2) ∨ (¬ en = 0 ∧ ¬ gc (eA g 0 0) 30 q 4 = 4) → w.1 = 0) ∧ (gc (eA g 0 0) 30 q 2 = l → ¬ gc (eA g 0 0) 30 q 7 = -1 → ¬ d < gc (eA g 0 0) 30 q 7 → (¬ en = 0 → gc (eA g 0 0) 30 q 4 = 4 → f_X9_halves (gc (eA g 0 0) 30 q 3) = some w.1) ∧ (en = 0 → gc (eA g 0 0) 30 q 4 = 2 → ∃ v : Int32 × HS, f_X9_isTrue g x = some v ∧ (v.1 = 0 → w.1 = 0) ∧ (¬ v.1 = 0 → f_X9_halves (gc (eA g 0 0) 30 q 3) = some w.1))) := by
  unfold f_X9_brought f_X9_brought_51 at e
  obtain ⟨d1, g1, b1, e⟩ := ob2_some e
  obtain ⟨rfl, rfl⟩ := pr_inj (mp_ofGoose (q := q) (k := 2) b1 hx rfl hq (by decide))
  by_cases cl : gc (eA g 0 0) 30 q 2 = l
  · rw [if_pos cl] at e
    obtain ⟨d3, g3, b3, e⟩ := ob2_some e
    obtain ⟨rfl, rfl⟩ := pr_inj (mp_ofGoose (q := q) (k := 7) b3 hx rfl hq (by decide))
    by_cases c7 : gc (eA g 0 0) 30 q 7 = -1
    · rw [if_pos c7] at e
      cases e
      exact ⟨fun _ => rfl, fun _ k => absurd c7 k⟩
    · rw [if_neg c7] at e
      obtain ⟨d5, g5, b5, e⟩ := ob2_some e
      obtain ⟨rfl, rfl⟩ := pr_inj (mp_ofGoose (q := q) (k := 7) b5 hx rfl hq (by decide))
      by_cases cd : d < gc (eA g 0 0) 30 q 7
      · rw [if_pos cd] at e
        cases e
        exact ⟨fun _ => rfl, fun _ _ k => absurd cd k⟩
      · rw [if_neg cd] at e
        obtain ⟨d7, g7, b7, e⟩ := ob2_some e
        obtain ⟨rfl, rfl⟩ := pr_inj (mp_ofGoose (q := q) (k := 4) b7 hx rfl hq (by decide))
        unfold f_X9_brought_48 f_X9_brought_51 f_X9_brought_66 f_X9_brought_79 at e
        by_cases ce : en = 0
        · rw [if_pos ce] at e
          by_cases cf : gc (eA g 0 0) 30 q 4 = 2
          · rw [if_pos cf, if_pos ce] at e
            obtain ⟨v, g11, b11, e⟩ := ob2_some e
            refine ⟨fun k => ?_, fun _ _ _ => ⟨fun k => absurd ce k, fun _ _ => ⟨(v, g11), b11, fun v0 => ?_, fun v0 => ?_⟩⟩⟩
            · rcases k with k | k | k | ⟨-, k⟩ | ⟨k, -⟩
              · exact absurd cl k
              · exact absurd k c7
              · exact absurd k cd
              · exact absurd cf k
              · exact absurd ce k
            · have v0 : v = 0 := v0
              rw [if_pos v0] at e
              cases e
              rfl
            · have v0 : ¬ v = 0 := v0
              rw [if_neg v0] at e
              obtain ⟨d13, g13, b13, e⟩ := ob2_some e
              have k11 := w_f_X9_isTrue _ _ _ b11
              have k11 : Fr S_X9_isTrue g g11 := k11
              have t := mp_ofGoose (q := q) (k := 3) b13 hx rfl hq (by decide)
              rw [k11.2.1 0 0 (by decide)] at t
              obtain ⟨rfl, rfl⟩ := pr_inj t
              obtain ⟨d14, b14, e⟩ := ob1_some e
              cases e
              exact b14
          · rw [if_neg cf] at e
            cases e
            exact ⟨fun _ => rfl, fun _ _ _ => ⟨fun k => absurd ce k, fun _ k => absurd k cf⟩⟩
        · rw [if_neg ce] at e
          by_cases cf : gc (eA g 0 0) 30 q 4 = 4
          · rw [if_pos cf, if_neg ce] at e
            obtain ⟨d13, g13, b13, e⟩ := ob2_some e
            obtain ⟨rfl, rfl⟩ := pr_inj (mp_ofGoose (q := q) (k := 3) b13 hx rfl hq (by decide))
            obtain ⟨d14, b14, e⟩ := ob1_some e
            cases e
            refine ⟨fun k => ?_, fun _ _ _ => ⟨fun _ _ => b14, fun k => absurd k ce⟩⟩
            rcases k with k | k | k | ⟨k, -⟩ | ⟨-, k⟩
            · exact absurd cl k
            · exact absurd k c7
            · exact absurd k cd
            · exact absurd k ce
            · exact absurd cf k
          · rw [if_neg cf] at e
            cases e
            exact ⟨fun _ => rfl, fun _ _ _ => ⟨fun _ k => absurd k cf, fun k => absurd k ce⟩⟩
  · rw [if_neg cl] at e
    cases e
    exact ⟨fun _ => rfl, fun k => absurd k cl⟩
theorem or_0 (x : Int32) : x ||| 0 = x := by simp
theorem j_had {l d en : Int32} (l0 : 0 ≤ l.toInt) (dd : 0 ≤ d.toInt) : ∀ (n m : Nat) (h g : HS) (acc x : Int32) (z w : Int32 × HS), f_X8_halvesHad_6 n h l en d 10 acc x = some z → f_X9_knownBy_6 m g l d en acc x = some w → STD h g → 0 ≤ x.toInt → z.1 = w.1 := by
  have y0 : (0 : Int32).toInt = 0 := rfl
  have y1 : (1 : Int32).toInt = 1 := rfl
  have y2 : (2 : Int32).toInt = 2 := rfl
  have y4 : (4 : Int32).toInt = 4 := rfl
  have y10 : (10 : Int32).toInt = 10 := rfl
  have ym : (-1 : Int32).toInt = -1 := rfl
  intro n
  induction n with
  | zero => intro m h g acc x z w e; cases e
  | succ n ih =>
    intro m h g acc x z w e e2 s hx
    cases m with
    | zero => cases e2
    | succ m =>
      obtain ⟨n1, n0, n4⟩ := std_n s
      have s3 : eI h 1 3 = eA g 0 0 1 := s.1.1.1
      rw [f_X8_halvesHad_6_s, s3] at e
      rw [f_X9_knownBy_6_s] at e2
      by_cases c : eA g 0 0 1 ≤ x
      · rw [if_pos c] at e e2
        cases e
        cases e2
        rfl
      · rw [if_neg c] at e e2
        have dc := gi_of_nle c
        obtain ⟨q, hq⟩ : ∃ q : Nat, x.toInt = (q : Int) := ⟨x.toInt.toNat, by omega⟩
        have qx : (q : Int) < (eA g 0 0 1).toInt := by omega
        have ax := fb_addI (x := x) (y := 1) (by omega) (by omega)
        have gr := s.2.1.2.2.1.2.2 q qx
        obtain ⟨d2, g2, b2, e2⟩ := ob2_some e2
        have mb := mp_brought hq (by omega) b2
        have kb := w_f_X9_brought _ _ _ _ _ _ b2
        have kb : Fr S_X9_brought g g2 := kb
        have g20 : eA g2 0 0 = eA g 0 0 := kb.2.1 0 0 (by decide)
        obtain ⟨r2, h2, a2, e⟩ := ob2_some e
        obtain ⟨rfl, rfl⟩ := pr_inj (cp_ofGoose (q := q) (k := 7) a2 hq rfl (by rw [s3]; exact qx) (by rw [s3]; exact n1.2) (by decide))
        rw [sr_g s.1 qx (show 7 < 9 by decide)] at e
        have mb : (¬ gc (eA g 0 0) 30 q 2 = l ∨ gc (eA g 0 0) 30 q 7 = -1 ∨ d < gc (eA g 0 0) 30 q 7 ∨ (en = 0 ∧ ¬ gc (eA g 0 0) 30 q 4 = 2) ∨ (¬ en = 0 ∧ ¬ gc (eA g 0 0) 30 q 4 = 4) → d2 = 0) ∧ (gc (eA g 0 0) 30 q 2 = l → ¬ gc (eA g 0 0) 30 q 7 = -1 → ¬ d < gc (eA g 0 0) 30 q 7 → (¬ en = 0 → gc (eA g 0 0) 30 q 4 = 4 → f_X9_halves (gc (eA g 0 0) 30 q 3) = some d2) ∧ (en = 0 → gc (eA g 0 0) 30 q 4 = 2 → ∃ v : Int32 × HS, f_X9_isTrue g x = some v ∧ (v.1 = 0 → d2 = 0) ∧ (¬ v.1 = 0 → f_X9_halves (gc (eA g 0 0) 30 q 3) = some d2))) := mb
        -- the next goose, with nothing told by this one
        have skip : ∀ h9 : HS, STD h9 g2 → d2 = 0 → f_X8_halvesHad_6 n h9 l en d 10 acc (x + 1) = some z → z.1 = w.1 := by
          intro h9 s9 q0 q1
          rw [q0, or_0] at e2
          exact ih m h9 g2 acc (x + 1) z w q1 e2 s9 (by omega)
        have sh : STD h g2 := STD_fr s (Fr_refl [] h) kb (by decide) (by decide) (by decide) (by decide)
        have late : d < gc (eA g 0 0) 30 q 7 → f_X8_halvesHad_79 (f_X8_halvesHad_6 n) h l en d 10 acc x = some z → z.1 = w.1 := fun q1 q2 => skip h sh (mb.1 (Or.inr (Or.inr (Or.inl q1)))) q2
        have now_ : ¬ d < gc (eA g 0 0) 30 q 7 → f_X8_halvesHad_50 (f_X8_halvesHad_6 n) h l en d 10 acc x = some z → z.1 = w.1 := by
          intro nd q2
          unfold f_X8_halvesHad_50 f_X8_halvesHad_79 at q2
          obtain ⟨r6, h6, a6, q2⟩ := ob2_some q2
          obtain ⟨t1, t2, t3, t4⟩ := cp_tells s hq qx a6
          have f6 := w_f_X8_tells _ _ _ _ _ a6
          have f6 : Fr S_X8_tells h h6 := f6
          have s6 : STD h6 g2 := STD_fr s f6 kb (by decide) (by decide) (by decide) (by decide)
          have c13 : eI h6 1 3 = eA g 0 0 1 := (f6.1 1 3 (by decide)).trans s3
          by_cases c0 : r6 = 0
          · rw [if_pos c0] at q2
            -- she tells nothing: the reference says so too
            refine skip h6 s6 ?_ q2
            by_cases cl : gc (eA g 0 0) 30 q 2 = l
            · by_cases c7 : gc (eA g 0 0) 30 q 7 = -1
              · exact mb.1 (Or.inr (Or.inl c7))
              · by_cases ce : en = 0
                · by_cases cf : gc (eA g 0 0) 30 q 4 = 2
                  · obtain ⟨v, v1, v2, -⟩ := (mb.2 cl c7 nd).2 ce cf
                    exact v2 (((t4 cl ce).2 cf v v1).symm.trans c0)
                  · exact mb.1 (Or.inr (Or.inr (Or.inr (Or.inl ⟨ce, cf⟩))))
                · by_cases cf : gc (eA g 0 0) 30 q 4 = 4
                  · have t := (t3 cl ce).1 cf
                    have t : r6 = 1 := t
                    rw [c0] at t
                    exact absurd t (by decide)
                  · exact mb.1 (Or.inr (Or.inr (Or.inr (Or.inr ⟨ce, cf⟩))))
            · exact mb.1 (Or.inl cl)
          · rw [if_neg c0] at q2
            have r61 : r6 = 1 := by
              rcases t1 with t | t
              · exact absurd t c0
              · exact t
            obtain ⟨r8, h8, a8, q2⟩ := ob2_some q2
            have ta := cp_ofGoose (q := q) (k := 3) a8 hq rfl (by rw [c13]; exact qx) (by rw [c13]; exact n1.2) (by decide)
            rw [f6.2.1 1 0 (by decide), sr_g s.1 qx (show 3 < 9 by decide)] at ta
            obtain ⟨rfl, rfl⟩ := pr_inj ta
            obtain ⟨r9, a9, q2⟩ := ob1_some q2
            have cl : gc (eA g 0 0) 30 q 2 = l := by
              by_cases cl : gc (eA g 0 0) 30 q 2 = l
              · exact cl
              · exact absurd (t2 cl) c0
            have pr : 0 ≤ (gc (eA g 0 0) 30 q 3).toInt ∧ (gc (eA g 0 0) 30 q 3).toInt ≤ 2 := by
              have dl := gi_of_eq cl
              unfold GR at gr
              omega
            have hd : f_X9_halves (gc (eA g 0 0) 30 q 3) = some d2 := by
              by_cases ce : en = 0
              · by_cases cf : gc (eA g 0 0) 30 q 4 = 2
                · have df := gi_of_eq cf
                  have c7 : ¬ gc (eA g 0 0) 30 q 7 = -1 := gi_ne (by unfold GR at gr; omega)
                  obtain ⟨v, v1, -, v3⟩ := (mb.2 cl c7 nd).2 ce cf
                  have tv1 := (t4 cl ce).2 cf v v1
                  have tv1 : r6 = v.1 := tv1
                  exact v3 (by rw [← tv1]; exact c0)
                · exact absurd ((t4 cl ce).1 cf) c0
              · by_cases cf : gc (eA g 0 0) 30 q 4 = 4
                · have df := gi_of_eq cf
                  have c7 : ¬ gc (eA g 0 0) 30 q 7 = -1 := gi_ne (by unfold GR at gr; omega)
                  exact (mb.2 cl c7 nd).1 ce cf
                · exact absurd ((t3 cl ce).2 cf) c0
            have hs := hv_same pr a9 hd
            rw [hs] at q2
            exact ih m h6 g2 _ (x + 1) z w q2 e2 s6 (by omega)
        by_cases c1 : gc (eA g 0 0) 30 q 7 < d
        · rw [if_pos c1] at e
          have d1 := gi_of_lt c1
          exact now_ (gi_nlt (by omega)) e
        · rw [if_neg c1] at e
          have d1 := gi_of_nlt c1
          by_cases c2 : gc (eA g 0 0) 30 q 7 = d
          · rw [if_pos c2, if_neg (gi_nle (by omega))] at e
            have d2' := gi_of_eq c2
            exact now_ (gi_nlt (by omega)) e
          · rw [if_neg c2] at e
            have d2' := gi_of_ne c2
            exact late (gi_lt (by omega)) e
theorem mp_isLetterNumber {p r : Int32} (e : f_X9_isLetterNumber p = some r) : (r = 0 ∧ ¬ (0 ≤ p.toInt ∧ p.toInt ≤ 5)) ∨ (r = 1 ∧ (0 ≤ p.toInt ∧ p.toInt ≤ 5)) := by
  have y0 : (0 : Int32).toInt = 0 := rfl
  have y5 : (5 : Int32).toInt = 5 := rfl
  unfold f_X9_isLetterNumber at e
  obtain ⟨r1, a1, e⟩ := ob1_some e
  obtain ⟨-, e⟩ := ob_if e
  cases e
  rcases mx_in a1 with ⟨k, q⟩ | ⟨k, q⟩
  · exact Or.inl ⟨k, by omega⟩
  · exact Or.inr ⟨k, by omega⟩
theorem j_known {h g : HS} {l d : Int32} {z w : Int32 × HS} (s : STD h g) (e1 : f_X8_known h l d = some z) (e2 : f_X9_known g l d = some w) : z.1 = w.1 := by
  have y0 : (0 : Int32).toInt = 0 := rfl
  have y999 : (999 : Int32).toInt = 999 := rfl
  unfold f_X8_known f_X8_known_18 at e1
  unfold f_X9_known f_X9_known_18 at e2
  obtain ⟨r1, a1, e1⟩ := ob1_some e1
  obtain ⟨t1, b1, e2⟩ := ob1_some e2
  rcases cp_isLetter a1 with ⟨u1, u2⟩ | ⟨u1, u2⟩ <;> rcases mp_isLetterNumber b1 with ⟨v1, v2⟩ | ⟨v1, v2⟩
  · rw [if_pos u1] at e1
    rw [if_pos v1] at e2
    cases e1
    cases e2
    rfl
  · exact absurd v2 u2
  · exact absurd u2 v2
  · rw [if_neg (by rw [u1]; decide)] at e1
    rw [if_neg (by rw [v1]; decide)] at e2
    obtain ⟨t3, b3, e2⟩ := ob1_some e2
    rcases mx_in b3 with ⟨k, q⟩ | ⟨k, q⟩
    · rw [if_pos k] at e2
      cases e2
      by_cases c1 : d < 0
      · rw [if_pos c1] at e1; cases e1; rfl
      · rw [if_neg c1] at e1
        have d1 := gi_of_nlt c1
        rw [if_neg (gi_nle (by omega))] at e1
        cases e1
        rfl
    · rw [if_neg (by rw [k]; decide)] at e2
      rw [if_neg (gi_nlt (by omega)), if_pos (gi_le (by omega))] at e1
      obtain ⟨r5, h5, a5, e1⟩ := ob2_some e1
      obtain ⟨t5, g5, b5, e2⟩ := ob2_some e2
      have f5 := w_f_X8_halvesHad _ _ _ _ _ _ a5
      have k5 := w_f_X9_knownBy _ _ _ _ _ b5
      have f5 : Fr S_X8_halvesHad h h5 := f5
      have k5 : Fr S_X9_knownBy g g5 := k5
      have s5 : STD h5 g5 := STD_fr s f5 k5 (by decide) (by decide) (by decide) (by decide)
      unfold f_X8_halvesHad at a5
      unfold f_X9_knownBy at b5
      have j1 := j_had u2.1 (by omega) _ _ _ _ _ _ _ _ a5 b5 s (by decide)
      have j1 : r5 = t5 := j1
      rw [j1] at e1
      have tail : ∀ y : Int32, f_X8_known_38 h5 l d y = some z → f_X9_known_36 g5 l d y = some w → z.1 = w.1 := by
        intro y q1 q2
        unfold f_X8_known_38 f_X8_known_57 at q1
        unfold f_X9_known_36 f_X9_known_52 at q2
        obtain ⟨r7, h7, a7, q1⟩ := ob2_some q1
        obtain ⟨t7, g7, b7, q2⟩ := ob2_some q2
        unfold f_X8_halvesHad at a7
        unfold f_X9_knownBy at b7
        have j2 := j_had u2.1 (by omega) _ _ _ _ _ _ _ _ a7 b7 s5 (by decide)
        have j2 : r7 = t7 := j2
        rw [j2] at q1
        by_cases c3 : t7 = 3
        · rw [if_pos c3] at q1 q2; cases q1; cases q2; rfl
        · rw [if_neg c3] at q1 q2; cases q1; cases q2; rfl
      by_cases c3 : t5 = 3
      · rw [if_pos c3] at e1 e2; exact tail 1 e1 e2
      · rw [if_neg c3] at e1 e2; exact tail 0 e1 e2
