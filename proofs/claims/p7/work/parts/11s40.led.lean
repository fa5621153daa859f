def LEX (A : Nat → Int32) (p q : Nat) : Prop := TH A p < TH A q ∨ (TH A p = TH A q ∧ p ≤ q)
def GOO (g : HS) (l en : Int32) (q : Nat) : Prop := TEL g l en q ∧ HS1 g l en (fun p => LEX (eA g 0 0) p q) ∧ HS2 g l en (fun p => LEX (eA g 0 0) p q)
def LEDX (g : HS) (l en r : Int32) (N : Int) : Prop := (r = -1 ∧ ∀ q : Nat, (q : Int) < N → (q : Int) < (eA g 0 0 1).toInt → ¬ GOO g l en q) ∨ (∃ q : Nat, r.toInt = (q : Int) ∧ (q : Int) < N ∧ (q : Int) < (eA g 0 0 1).toInt ∧ GOO g l en q ∧ ∀ p : Nat, (p : Int) < N → (p : Int) < (eA g 0 0 1).toInt → GOO g l en p → LEX (eA g 0 0) q p)
theorem led_one {g : HS} {l en r s : Int32} {N M : Int} (hN : (eA g 0 0 1).toInt ≤ N) (hM : (eA g 0 0 1).toInt ≤ M) (a : LEDX g l en r N) (b : LEDX g l en s M) : r = s := by
  rcases a with ⟨a1, a2⟩ | ⟨q, a1, a2, a3, a4, a5⟩ <;> rcases b with ⟨b1, b2⟩ | ⟨p, b1, b2, b3, b4, b5⟩
  · rw [a1, b1]
  · exact absurd b4 (a2 p (by omega) b3)
  · exact absurd a4 (b2 q (by omega) a3)
  · have x1 := a5 p (by omega) b3 b4
    have x2 := b5 q (by omega) a3 a4
    unfold LEX at x1 x2
    exact gi_eq (by omega)
theorem cp_led {h0 g0 : HS} (ic : IC h0) (im : IM g0) (s0 : STD h0 g0) {l en : Int32} (l0 : 0 ≤ l.toInt) : ∀ (n : Nat) (h : HS) (fi x : Int32) (z : Int32 × HS), f_X8_led_14 n h l en fi x = some z → STD h g0 → 0 ≤ x.toInt → LEDX g0 l en fi x.toInt → LEDX g0 l en z.1 (eA g0 0 0 1).toInt := by
  have y1 : (1 : Int32).toInt = 1 := rfl
  have ym : (-1 : Int32).toInt = -1 := rfl
  have n1 := (std_n s0).1
  intro n
  induction n with
  | zero => intro h fi x z e; cases e
  | succ n ih =>
    intro h fi x z e s hx a
    have s3 : eI h 1 3 = eA g0 0 0 1 := s.1.1.1
    rw [f_X8_led_14_s, s3] at e
    by_cases c : eA g0 0 0 1 ≤ x
    · rw [if_pos c] at e
      have dc := gi_of_le c
      cases e
      rcases a with ⟨a1, a2⟩ | ⟨q, a1, a2, a3, a4, a5⟩
      · exact Or.inl ⟨a1, fun q q1 q2 => a2 q (by omega) q2⟩
      · exact Or.inr ⟨q, a1, a3, a3, a4, fun p p1 p2 => a5 p (by omega) p2⟩
    · rw [if_neg c] at e
      have dc := gi_of_nle c
      obtain ⟨q, hq⟩ : ∃ q : Nat, x.toInt = (q : Int) := ⟨x.toInt.toNat, by omega⟩
      have qx : (q : Int) < (eA g0 0 0 1).toInt := by omega
      have ax := fb_addI (x := x) (y := 1) (by omega) (by omega)
      obtain ⟨r4, h4, a4, e⟩ := ob2_some e
      obtain ⟨rfl, rfl⟩ := pr_inj (cp_ofGoose (q := q) (k := 7) a4 hq rfl (by rw [s3]; exact qx) (by rw [s3]; exact n1.2) (by decide))
      rw [sr_g s.1 qx (show 7 < 9 by decide)] at e
      -- this goose leads nowhere new
      have keep : ∀ h9 : HS, STD h9 g0 → (GOO g0 l en q → ∃ f : Nat, fi.toInt = (f : Int) ∧ LEX (eA g0 0 0) f q) → f_X8_led_14 n h9 l en fi (x + 1) = some z → LEDX g0 l en z.1 (eA g0 0 0 1).toInt := by
        intro h9 s9 k e9
        refine ih h9 fi (x + 1) z e9 s9 (by omega) ?_
        rcases a with ⟨a1, a2⟩ | ⟨f, a1, a2, a3, a4, a5⟩
        · refine Or.inl ⟨a1, fun p p1 p2 gp => ?_⟩
          by_cases cp : p = q
          · subst cp
            obtain ⟨f, f1, -⟩ := k gp
            rw [a1] at f1
            omega
          · exact a2 p (by omega) p2 gp
        · refine Or.inr ⟨f, a1, by omega, a3, a4, fun p p1 p2 gp => ?_⟩
          by_cases cp : p = q
          · subst cp
            obtain ⟨f', f1, f2⟩ := k gp
            rw [show f = f' by omega]
            exact f2
          · exact a5 p (by omega) p2 gp
      -- she may be the one
      have may : (∀ f : Nat, fi.toInt = (f : Int) → TH (eA g0 0 0) q < TH (eA g0 0 0) f) → f_X8_led_59 (f_X8_led_14 n) h l en fi x (gc (eA g0 0 0) 30 q 7) = some z → LEDX g0 l en z.1 (eA g0 0 0 1).toInt := by
        intro sooner e9
        unfold f_X8_led_59 f_X8_led_64 f_X8_led_101 at e9
        rw [if_neg (by decide)] at e9
        obtain ⟨r9, h9, a9, e9⟩ := ob2_some e9
        have f9 := w_f_X8_tells _ _ _ _ _ a9
        have f9 : Fr S_X8_tells h h9 := f9
        have s9 : STD h9 g0 := STD_fr s f9 (Fr_refl [] g0) (by decide) (by decide) (by decide) (by decide)
        rcases cp_tel ic im s0 s hq qx a9 with ⟨t1, t2⟩ | ⟨t1, t2⟩
        · have t1 : r9 = 1 := t1
          rw [if_neg (by rw [t1]; decide)] at e9
          obtain ⟨r11, h11, a11, e9⟩ := ob2_some e9
          have f11 := w_f_X8_halvesHad _ _ _ _ _ _ a11
          have f11 : Fr S_X8_halvesHad h9 h11 := f11
          have s11 : STD h11 g0 := STD_fr s9 f11 (Fr_refl [] g0) (by decide) (by decide) (by decide) (by decide)
          unfold f_X8_halvesHad at a11
          have A := cp_had ic im s0 l0 _ _ _ _ _ a11 s9 (by decide) (ACC_0 (fun p k => by have : (0 : Int32).toInt = 0 := rfl; omega))
          have A : ACC g0 l en (fun p => LEX (eA g0 0 0) p q) r11 := ACC_same A (fun p _ _ => by
            unfold LEX TH
            omega)
          obtain ⟨A1, A2, A3⟩ := A
          have g3 : r11 = 3 ↔ GOO g0 l en q := by
            refine (b3 A1).trans ⟨fun k => ⟨t2, A2.mp k.1, A3.mp k.2⟩, fun k => ⟨A2.mpr k.2.1, A3.mpr k.2.2⟩⟩
          by_cases c3 : r11 = 3
          · rw [if_pos c3] at e9
            refine ih h11 x (x + 1) z e9 s11 (by omega) (Or.inr ⟨q, hq, by omega, qx, g3.mp c3, fun p p1 p2 gp => ?_⟩)
            by_cases cp : p = q
            · subst cp; exact Or.inr ⟨rfl, Nat.le_refl _⟩
            · rcases a with ⟨a1, a2⟩ | ⟨f, a1, a2, a3, a4, a5⟩
              · exact absurd gp (a2 p (by omega) p2)
              · have l1 := a5 p (by omega) p2 gp
                have l2 := sooner f a1
                unfold LEX at l1 ⊢
                left
                omega
          · rw [if_neg c3] at e9
            exact keep h11 s11 (fun gp => absurd (g3.mpr gp) c3) e9
        · have t1 : r9 = 0 := t1
          rw [if_pos t1] at e9
          exact keep h9 s9 (fun gp => absurd gp.1 t2) e9
      by_cases cf : fi = -1
      · rw [if_pos cf] at e
        exact may (fun f hf => by rw [cf] at hf; omega) e
      · rw [if_neg cf] at e
        rcases id a with ⟨a1, -⟩ | ⟨f, a1, a2, a3, a4', a5⟩
        · exact absurd a1 cf
        obtain ⟨r6, h6, a6, e⟩ := ob2_some e
        obtain ⟨rfl, rfl⟩ := pr_inj (cp_ofGoose (q := f) (k := 7) a6 a1 rfl (by rw [s3]; exact a3) (by rw [s3]; exact n1.2) (by decide))
        rw [sr_g s.1 a3 (show 7 < 9 by decide)] at e
        by_cases c6 : gc (eA g0 0 0) 30 f 7 ≤ gc (eA g0 0 0) 30 q 7
        · rw [if_pos c6] at e
          have d6 := gi_of_le c6
          unfold f_X8_led_64 f_X8_led_101 at e
          rw [if_pos rfl] at e
          refine keep h s (fun _ => ⟨f, a1, ?_⟩) e
          unfold LEX TH
          omega
        · rw [if_neg c6] at e
          have d6 := gi_of_nle c6
          refine may (fun f' hf' => ?_) e
          rw [show f' = f by omega]
          unfold TH
          omega
/-- the reference: day by day, goose by goose -/
def PDX (g : HS) (d x : Int) (p : Nat) : Prop := TH (eA g 0 0) p < d ∨ (TH (eA g 0 0) p = d ∧ (p : Int) < x)
theorem goo_acc {g : HS} {l en acc : Int32} {d x : Int} {q : Nat} (A : ACC g l en (PDX g d x) acc) (h : ∀ p : Nat, TEL g l en p → LEX (eA g 0 0) p q → PDX g d x p) (gq : GOO g l en q) : acc = 3 := by
  obtain ⟨A1, A2, A3⟩ := A
  refine (b3 A1).mpr ⟨A2.mpr ?_, A3.mpr ?_⟩
  · obtain ⟨p, p1, p2, p3, p4⟩ := gq.2.1
    exact ⟨p, p1, h p p3 p2, p3, p4⟩
  · obtain ⟨p, p1, p2, p3, p4⟩ := gq.2.2
    exact ⟨p, p1, h p p3 p2, p3, p4⟩
theorem mp_led25 {h0 g0 : HS} (ic : IC h0) (im : IM g0) (s0 : STD h0 g0) {l en d : Int32} (l0 : 0 ≤ l.toInt) (d0 : 0 ≤ d.toInt) {k14 : HS → Int32 → Int32 → Int32 → Int32 → Option (Int32 × HS)} {w : Int32 × HS} : ∀ (m : Nat) (g : HS) (acc x : Int32), f_X9_led_25 k14 m g l en acc d x = some w → STD h0 g → eA g 0 0 = eA g0 0 0 → 0 ≤ x.toInt → ACC g0 l en (PDX g0 d.toInt x.toInt) acc → ¬ acc = 3 → LEDX g0 l en w.1 (eA g0 0 0 1).toInt ∨ ∃ (g' : HS) (acc' : Int32), k14 g' l en acc' (d + 1) = some w ∧ STD h0 g' ∧ eA g' 0 0 = eA g0 0 0 ∧ ACC g0 l en (PDX g0 (d.toInt + 1) 0) acc' ∧ ¬ acc' = 3 := by
  have y1 : (1 : Int32).toInt = 1 := rfl
  have n1 := (std_n s0).1
  intro m
  induction m with
  | zero => intro g acc x e; cases e
  | succ m ih =>
    intro g acc x e s ea hx A na
    rw [f_X9_led_25_s, ea] at e
    by_cases c : eA g0 0 0 1 ≤ x
    · rw [if_pos c] at e
      have dc := gi_of_le c
      refine Or.inr ⟨g, acc, e, s, ea, ACC_same A (fun p hp _ => ?_), na⟩
      unfold PDX
      omega
    · rw [if_neg c] at e
      have dc := gi_of_nle c
      obtain ⟨q, hq⟩ : ∃ q : Nat, x.toInt = (q : Int) := ⟨x.toInt.toNat, by omega⟩
      have qx : (q : Int) < (eA g0 0 0 1).toInt := by omega
      have ax := fb_addI (x := x) (y := 1) (by omega) (by omega)
      obtain ⟨r5, g5, b5, e⟩ := ob2_some e
      have t5 := mp_ofGoose (q := q) (k := 7) b5 hq rfl (by omega) (by decide)
      rw [ea] at t5
      obtain ⟨rfl, rfl⟩ := pr_inj t5
      unfold f_X9_led_70 at e
      have th : TH (eA g0 0 0) q = (gc (eA g0 0 0) 30 q 7).toInt := rfl
      by_cases c5 : gc (eA g0 0 0) 30 q 7 = d
      · rw [if_pos c5] at e
        have d5 := gi_of_eq c5
        obtain ⟨r7, g7, b7, e⟩ := ob2_some e
        have k7 := w_f_X9_brought _ _ _ _ _ _ b7
        have k7 : Fr S_X9_brought g g7 := k7
        have s7 : STD h0 g7 := STD_fr s (Fr_refl [] h0) k7 (by decide) (by decide) (by decide) (by decide)
        have e7 : eA g7 0 0 = eA g0 0 0 := (k7.2.1 0 0 (by decide)).trans ea
        rcases mp_tel ic im s0 s ea hq qx l0 c5 d0 b7 with ⟨t1, t2⟩ | ⟨t1, t2⟩
        · have t2 : r7 = HVB (eA g0 0 0) q := t2
          rw [t2] at e
          have A' : ACC g0 l en (PDX g0 d.toInt (x + 1).toInt) (acc ||| HVB (eA g0 0 0) q) := ACC_add s0.2.1 l0 A qx t1 (fun p hp _ => by
            unfold PDX
            by_cases cp : p = q
            · subst cp; omega
            · omega)
          by_cases c3 : acc ||| HVB (eA g0 0 0) q = 3
          · rw [if_pos c3] at e
            cases e
            left
            right
            obtain ⟨A1, A2, A3⟩ := A'
            have bb := (b3 A1).mp c3
            refine ⟨q, hq, qx, qx, ⟨t1, ?_, ?_⟩, fun p p1 p2 gp => ?_⟩
            · obtain ⟨p, p1, p2, p3, p4⟩ := A2.mp bb.1
              refine ⟨p, p1, ?_, p3, p4⟩
              unfold PDX at p2
              unfold LEX
              omega
            · obtain ⟨p, p1, p2, p3, p4⟩ := A3.mp bb.2
              refine ⟨p, p1, ?_, p3, p4⟩
              unfold PDX at p2
              unfold LEX
              omega
            · by_cases cl : LEX (eA g0 0 0) q p
              · exact cl
              · refine absurd (goo_acc A (fun r _ lr => ?_) gp) na
                unfold LEX at lr cl
                unfold PDX
                omega
          · rw [if_neg c3] at e
            exact ih g7 _ (x + 1) e s7 e7 (by omega) A' c3
        · have t2 : r7 = 0 := t2
          rw [t2, or_0, if_neg na] at e
          refine ih g7 acc (x + 1) e s7 e7 (by omega) (ACC_same A (fun p hp tp => ?_)) na
          unfold PDX
          by_cases cp : p = q
          · subst cp; exact absurd tp t1
          · omega
      · rw [if_neg c5] at e
        have d5 := gi_of_ne c5
        refine ih g acc (x + 1) e s ea (by omega) (ACC_same A (fun p hp _ => ?_)) na
        unfold PDX
        by_cases cp : p = q
        · subst cp; omega
        · omega
theorem mp_led14 {h0 g0 : HS} (ic : IC h0) (im : IM g0) (s0 : STD h0 g0) {l en : Int32} (l0 : 0 ≤ l.toInt) {w : Int32 × HS} : ∀ (m : Nat) (g : HS) (acc d : Int32), f_X9_led_14 m g l en acc d = some w → STD h0 g → eA g 0 0 = eA g0 0 0 → 0 ≤ d.toInt → ACC g0 l en (PDX g0 d.toInt 0) acc → ¬ acc = 3 → LEDX g0 l en w.1 (eA g0 0 0 1).toInt := by
  have y1 : (1 : Int32).toInt = 1 := rfl
  have y0 : (0 : Int32).toInt = 0 := rfl
  have y1000 : (1000 : Int32).toInt = 1000 := rfl
  have n1 := (std_n s0).1
  intro m
  induction m with
  | zero => intro g acc d e; cases e
  | succ m ih =>
    intro g acc d e s ea hd A na
    rw [f_X9_led_14_s] at e
    by_cases c : (1000 : Int32) ≤ d
    · rw [if_pos c] at e
      have dc := gi_of_le c
      cases e
      left
      refine ⟨rfl, fun q q1 q2 gq => na (goo_acc A (fun p tp lp => ?_) gq)⟩
      have t := tel_part s0.2.1 l0 q1 gq.1
      unfold LEX at lp
      unfold PDX
      omega
    · rw [if_neg c] at e
      have dc := gi_of_nle c
      have ax := fb_addI (x := d) (y := 1) (by omega) (by omega)
      rcases mp_led25 ic im s0 l0 hd _ _ _ _ e s ea (by decide) A na with k | ⟨g', acc', k1, k2, k3, k4, k5⟩
      · exact k
      · refine ih g' acc' (d + 1) k1 k2 k3 (by omega) ?_ k5
        rw [show (d + 1).toInt = d.toInt + 1 by omega]
        exact k4
theorem j_led {h g : HS} {l en : Int32} {z w : Int32 × HS} (ic : IC h) (im : IM g) (s : STD h g) (e1 : f_X8_led h l en = some z) (e2 : f_X9_led g l en = some w) : z.1 = w.1 := by
  have y0 : (0 : Int32).toInt = 0 := rfl
  have n1 := (std_n s).1
  unfold f_X8_led at e1
  unfold f_X9_led at e2
  obtain ⟨r1, a1, e1⟩ := ob1_some e1
  obtain ⟨t1, b1, e2⟩ := ob1_some e2
  rcases cp_isLetter a1 with ⟨u1, u2⟩ | ⟨u1, u2⟩ <;> rcases mp_isLetterNumber b1 with ⟨v1, v2⟩ | ⟨v1, v2⟩
  · rw [if_pos u1] at e1
    rw [if_pos v1] at e2
    cases e1
    cases e2
    rfl
  · exact absurd v2 u2
  · exact absurd u2 v2
  · rw [if_neg (by rw [u1]; decide)] at e1
    rw [if_neg (by rw [v1]; decide)] at e2
    have L1 := cp_led ic im s u2.1 _ _ _ _ _ e1 s (by decide) (Or.inl ⟨rfl, fun q q1 _ => by omega⟩)
    have A0 : ACC g l en (PDX g (0 : Int32).toInt 0) 0 := by
      refine ⟨by unfold IN4; decide, ⟨fun k => ?_, fun k => ?_⟩, ⟨fun k => ?_, fun k => ?_⟩⟩
      · unfold B1 at k; exact absurd k (by decide)
      · obtain ⟨p, p1, p2, p3, -⟩ := k
        have t := tel_part s.2.1 u2.1 p1 p3
        unfold PDX at p2
        omega
      · unfold B2 at k; exact absurd k (by decide)
      · obtain ⟨p, p1, p2, p3, -⟩ := k
        have t := tel_part s.2.1 u2.1 p1 p3
        unfold PDX at p2
        omega
    have L2 := mp_led14 ic im s u2.1 _ _ _ _ e2 s rfl (by decide) A0 (by decide)
    exact led_one (Int.le_refl _) (Int.le_refl _) L1 L2
theorem j_answer {h g : HS} {l : Int32} {z w : Int32 × HS} (ic : IC h) (im : IM g) (s : STD h g) (e1 : f_X8_answer h l = some z) (e2 : f_X9_answer g l = some w) : z.1 = w.1 := by
  have y0 : (0 : Int32).toInt = 0 := rfl
  have y2 : (2 : Int32).toInt = 2 := rfl
  have n1 := (std_n s).1
  have n0 := (std_n s).2.1
  unfold f_X8_answer at e1
  unfold f_X9_answer f_X9_answer_40 at e2
  obtain ⟨r1, h1, a1, e1⟩ := ob2_some e1
  obtain ⟨t1, g1, b1, e2⟩ := ob2_some e2
  have j := j_led ic im s a1 b1
  have j : r1 = t1 := j
  subst j
  have f1 := w_f_X8_led _ _ _ _ a1
  have k1 := w_f_X9_led _ _ _ _ b1
  have f1 : Fr S_X8_led h h1 := f1
  have k1 : Fr S_X9_led g g1 := k1
  have s1 : STD h1 g1 := STD_fr s f1 k1 (by decide) (by decide) (by decide) (by decide)
  have g10 : eA g1 0 0 = eA g 0 0 := k1.2.1 0 0 (by decide)
  by_cases c : r1 = -1
  · rw [if_pos c] at e1 e2
    cases e1
    cases e2
    rfl
  · rw [if_neg c] at e1 e2
    -- who it was: a goose that friends have
    have who : ∃ q : Nat, r1.toInt = (q : Int) ∧ (q : Int) < (eA g 0 0 1).toInt ∧ gc (eA g 0 0) 30 q 4 = 2 := by
      unfold f_X8_led at a1
      obtain ⟨r2, a2, a1⟩ := ob1_some a1
      rcases cp_isLetter a2 with ⟨u1, u2⟩ | ⟨u1, u2⟩
      · rw [if_pos u1] at a1
        obtain ⟨q1, -⟩ := Prod.mk.inj (Option.some.inj a1)
        exact absurd q1.symm c
      · rw [if_neg (by rw [u1]; decide)] at a1
        have L1 := cp_led ic im s u2.1 _ _ _ _ _ a1 s (by decide) (Or.inl ⟨rfl, fun q q1 _ => by omega⟩)
        rcases L1 with ⟨q1, -⟩ | ⟨q, q1, q2, q3, q4, -⟩
        · exact absurd q1 c
        · refine ⟨q, q1, q3, ?_⟩
          rcases q4.1.2 with ⟨k, -⟩ | ⟨-, k, -⟩
          · exact absurd rfl k
          · exact k
    obtain ⟨q, hq, qx, q4⟩ := who
    have s3 : eI h1 1 3 = eA g 0 0 1 := by rw [← g10]; exact s1.1.1.1
    have s4 : eI h1 1 4 = eA g 0 0 0 := by rw [← g10]; exact s1.1.1.2.1
    have gr := s.2.1.2.2.1.2.2 q qx
    have d4 := gi_of_eq q4
    have to_ : 0 ≤ (gc (eA g 0 0) 30 q 5).toInt ∧ (gc (eA g 0 0) 30 q 5).toInt < (eA g 0 0 0).toInt := by unfold GR at gr; omega
    obtain ⟨m, hm⟩ : ∃ m : Nat, (gc (eA g 0 0) 30 q 5).toInt = (m : Int) := ⟨(gc (eA g 0 0) 30 q 5).toInt.toNat, by omega⟩
    have q1x : (q : Int) < (eA g1 0 0 1).toInt := by rw [g10]; exact qx
    obtain ⟨r3, h3, a3, e1⟩ := ob2_some e1
    obtain ⟨rfl, rfl⟩ := pr_inj (cp_ofGoose (q := q) (k := 7) a3 hq rfl (by rw [s3]; exact qx) (by rw [s3]; exact n1.2) (by decide))
    obtain ⟨r4, h4, a4, e1⟩ := ob2_some e1
    obtain ⟨rfl, rfl⟩ := pr_inj (cp_ofGoose (q := q) (k := 5) a4 hq rfl (by rw [s3]; exact qx) (by rw [s3]; exact n1.2) (by decide))
    rw [sr_g s1.1 q1x (show 5 < 9 by decide), sr_g s1.1 q1x (show 7 < 9 by decide), g10] at e1
    obtain ⟨r5, h5, a5, e1⟩ := ob2_some e1
    obtain ⟨rfl, rfl⟩ := pr_inj (cp_ofMarket (q := m) (k := 0) a5 hm rfl (by rw [s4]; omega) (by rw [s4]; exact n0.2) (by decide))
    cases e1
    obtain ⟨t3, g3, b3, e2⟩ := ob2_some e2
    have t3e := mp_ofGoose (q := q) (k := 7) b3 hq rfl (by omega) (by decide)
    rw [g10] at t3e
    obtain ⟨rfl, rfl⟩ := pr_inj t3e
    obtain ⟨t4, g4, b4, e2⟩ := ob2_some e2
    have t4e := mp_ofGoose (q := q) (k := 5) b4 hq rfl (by omega) (by decide)
    rw [g10] at t4e
    obtain ⟨rfl, rfl⟩ := pr_inj t4e
    obtain ⟨-, e2⟩ := ob_if e2
    rw [mp_mk0 hm (by omega), g10] at e2
    cases e2
    show gc (eA g 0 0) 30 q 7 + eA h1 1 1 (3 * m + 0) = gc (eA g 0 0) 30 q 7 + eA g 0 0 (10 + (3 * m + 0))
    have mm := sr_m s1.1 (show (m : Int) < (eA g1 0 0 0).toInt by rw [g10]; omega) (show 0 < 3 by decide)
    rw [mm, g10]
