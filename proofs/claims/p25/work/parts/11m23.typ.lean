/-! text 3: the steps that are read are of one type -/
theorem cst_3 {B : Int → Int} {L : Int} {P : Nat → Int} {h h' : HS} {s : Int32} (e : f_X6_addStep_3 h s = some h') (t0 : L ≤ 300) (t1 : TE B L h P) (t2 : 0 ≤ at_ h) (t3 : at_ h < (eI h 4 3).toInt) (a0 : 0 ≤ (eI h 12 5).toInt) (a1 : (eI h 12 5).toInt < 300) : (eI h' 12 5).toInt = (eI h 12 5).toInt + 1 ∧ eA h' 12 2 = upd (eA h 12 2) (eI h 12 5).toInt.toNat s ∧ at_ h' = at_ h ∧ eI h' 5 0 = eI h 5 0 ∧ kd h' = kd h ∧ ((eI h 12 5).toInt + 1 ≤ at_ h → CT B L P 12 h') := by
  have z1 : (1 : Int32).toInt = 1 := rfl
  have eh := cp_addStep_3 e a0 a1
  have a := fb_addI (x := eI h 12 5) (y := 1) (by omega) (by omega)
  subst eh
  have f : Fr [(1, 12, 2), (0, 12, 5)] h (sI (sA h 12 2 (upd (eA h 12 2) (eI h 12 5).toInt.toNat s)) 12 5 (eI h 12 5 + 1)) := Fr_sI (by decide) (Fr_sA (by decide) (Fr_refl _ _))
  have q : (eI (sI (sA h 12 2 (upd (eA h 12 2) (eI h 12 5).toInt.toNat s)) 12 5 (eI h 12 5 + 1)) 12 5).toInt = (eI h 12 5).toInt + 1 := a.trans (by omega)
  exact ⟨q, rfl, rfl, rfl, rfl, fun l => ⟨t0, TE_fr t1 f (by decide) (by decide) (by decide) (by decide), t2, t3, by omega, by rw [q]; exact l⟩⟩
def TOne_3 (B : Int → Int) (L : Int) (P : Nat → Int) (n : Nat) : Prop := ∀ (h h' : HS) (op : Int32), G_read_3 n 2 h op 0 = some h' → CT B L P 12 h → 0 ≤ op.toInt → op.toInt ≤ 8 → eI h' 5 0 = 0 → CT B L P 12 h' ∧ TYR 12 h h' (17 - 2 * op.toInt) false
def TAsk_3 (B : Int → Int) (L : Int) (P : Nat → Int) (n : Nat) : Prop := ∀ (h h' : HS) (op : Int32), G_read_3 n 1 h op 0 = some h' → CT B L P 12 h → 0 ≤ op.toInt → op.toInt ≤ 8 → eI h' 5 0 = 0 → CT B L P 12 h' ∧ TYR 12 h h' (20 - 2 * op.toInt) true
def TLev_3 (B : Int → Int) (L : Int) (P : Nat → Int) (n : Nat) : Prop := ∀ (l : Int32) (h h' : HS) (op : Int32), G_read_3 n 0 h l op = some h' → 0 ≤ l.toInt → l.toInt ≤ 5 → CT B L P 12 h → 0 ≤ op.toInt → op.toInt ≤ 8 → eI h' 5 0 = 0 → CT B L P 12 h' ∧ TYR 12 h h' (22 - 2 * op.toInt - l.toInt) (decide (l.toInt ≤ 2))
theorem tleaf_3 {B : Int → Int} {L : Int} {P : Nat → Int} {h h1 h' : HS} {s : Int32} (ct : CT B L P 12 h) (k : ¬ kd h = 0) (e1 : f_X6_addStep_3 h s = some h1) (e2 : f_X7_advance h1 = some h') (hs : s.toInt < 20000) : CT B L P 12 h' ∧ TYR 12 h h' 1 false := by
  obtain ⟨t0, t1, t2, t3, t4, t5⟩ := id ct
  have lt : at_ h < 300 := by
    obtain ⟨-, -, u3, u4⟩ := id t1
    have i1 := u4 (eI h 4 4).toInt.toNat (by unfold at_ at *; omega)
    unfold kd at k
    have ne : ¬ (eI h 4 4).toInt = (eI h 4 3).toInt - 1 := fun q => k (i1.2.2.mpr (by unfold at_ at *; omega))
    unfold at_ at *
    omega
  have eh := cp_addStep_3 e1 t4 (by omega)
  obtain ⟨q1, q2, q3, q4, q5, -⟩ := cst_3 e1 t0 t1 t2 t3 t4 (by omega)
  -- advance looks at the tokens alone
  have f1 : Fr [(1, 12, 2), (0, 12, 5)] h h1 := by rw [eh]; exact Fr_sI (by decide) (Fr_sA (by decide) (Fr_refl _ _))
  have te1 : TE B L h1 P := TE_fr t1 f1 (by decide) (by decide) (by decide) (by decide)
  have c43 : eI h1 4 3 = eI h 4 3 := f1.1 4 3 (by decide)
  have z1 : (1 : Int32).toInt = 1 := rfl
  have s1 := fb_subI (x := eI h1 4 3) (y := 1) (by have := te1.2.1; omega) (by have := te1.2.2.1; omega)
  have a44 : eI h1 4 4 = eI h 4 4 := f1.1 4 4 (by decide)
  have ne : ¬ at_ h1 = (eI h1 4 3).toInt - 1 := by
    intro q
    have i1 := te1.2.2.2 (eI h1 4 4).toInt.toNat (by unfold at_ at q; have := te1.2.1; omega)
    have : kd h1 = 0 := i1.2.2.mpr (by unfold at_ at q; have := te1.2.1; omega)
    omega
  unfold f_X7_advance f_X7_advance_23 at e2
  have s2 := fb_addI (x := eI h1 4 4) (y := 1) (by unfold at_ at q3 t2; omega) (by unfold at_ at q3 lt; omega)
  have at1 : at_ h1 = (eI h1 4 4).toInt := rfl
  rw [if_neg (fun c => by have := gi_of_le c; rw [c43] at s1 this ne; omega)] at e2
  have eh' : h' = sI h1 4 4 (eI h1 4 4 + 1) := (Option.some.inj e2).symm
  have at' : at_ h' = at_ h + 1 := by
    rw [eh']
    show (eI h1 4 4 + 1).toInt = _
    omega
  have f2 : Fr [(0, 4, 4)] h1 h' := by rw [eh']; exact Fr_sI (by decide) (Fr_refl _ _)
  have r5 : eI h' 12 5 = eI h1 12 5 := f2.1 12 5 (by decide)
  have r2 : eA h' 12 2 = eA h1 12 2 := f2.2.1 12 2 (by decide)
  refine ⟨⟨t0, TE_fr te1 f2 (by decide) (by decide) (by decide) (by decide), by omega, ?_, by rw [r5]; omega, by rw [r5]; omega⟩, tyr_leaf t4 (by rw [r5]; exact q1) (by rw [r2]; exact q2) at' hs⟩
  rw [f2.1 4 3 (by decide)]
  rw [c43] at ne ⊢
  omega
theorem tone_3 {B : Int → Int} {L : Int} {P : Nat → Int} {n : Nat} (ih1 : TOne_3 B L P n) (ih2 : TLev_3 B L P n) : TOne_3 B L P (n + 1) := by
  have z1 : (1 : Int32).toInt = 1 := rfl
  have z2 : (2 : Int32).toInt = 2 := rfl
  have z3 : (3 : Int32).toInt = 3 := rfl
  have z8 : (8 : Int32).toInt = 8 := rfl
  have z10 : (10 : Int32).toInt = 10 := rfl
  have z13 : (13 : Int32).toInt = 13 := rfl
  have z14 : (14 : Int32).toInt = 14 := rfl
  have z29 : (29 : Int32).toInt = 29 := rfl
  have z37 : (37 : Int32).toInt = 37 := rfl
  have z9999 : (9999 : Int32).toInt = 9999 := rfl
  have z10000 : (10000 : Int32).toInt = 10000 := rfl
  intro h h' op e ct op0 op8 fz
  have e : f_X2_readOne_3_b (fun h p1 p2 => G_read_3 n 0 h p1 p2) (fun h p1 => G_read_3 n 1 h p1 0) (fun h p1 => G_read_3 n 2 h p1 0) h op = some h' := e
  unfold f_X2_readOne_3_b at e
  obtain ⟨r1, h1, e1, e⟩ := ob2_some e
  obtain ⟨q1, q2⟩ := CT_kind ct e1
  obtain rfl : h = h1 := q1.symm
  replace q2 : r1.toInt = kd h := q2
  by_cases k2 : kd h = 2
  · rw [if_pos (gi_eq (by omega))] at e
    obtain ⟨h6, e6, e⟩ := ob1_some e
    unfold f_X2_readOne_3_121 at e
    cases e
    unfold f_X2_readValue_3 at e6
    obtain ⟨r3, h3, e3, e6⟩ := ob2_some e6
    obtain ⟨q3, q4⟩ := CT_value ct e3
    obtain rfl : h = h3 := q3.symm
    by_cases c : r3 ≤ 9999
    · rw [if_pos c] at e6
      have dc := gi_of_le c
      obtain ⟨r5, h5, e5, e6⟩ := ob2_some e6
      obtain ⟨q5, q6⟩ := CT_value ct e5
      obtain rfl : h = h5 := q5.symm
      obtain ⟨h7, e7, e6⟩ := ob1_some e6
      obtain ⟨h8, e8, e6⟩ := ob1_some e6
      cases e6
      replace q4 : r3.toInt = vl h := q4
      replace q6 : r5.toInt = vl h := q6
      obtain ⟨y1, y2⟩ := tleaf_3 ct (by omega) e7 e8 (by omega)
      exact ⟨y1, TYR_le y2 (by omega)⟩
    · rw [if_neg c] at e6
      obtain ⟨h7, e7, e6⟩ := ob1_some e6
      cases e6
      exact absurd fz (fail_nz e7 (by decide))
  · rw [if_neg (fun q => by have := gi_of_eq q; omega)] at e
    have go44 : f_X2_readOne_3_44 (fun h p1 p2 => G_read_3 n 0 h p1 p2) (fun h p1 => G_read_3 n 1 h p1 0) (fun h p1 => G_read_3 n 2 h p1 0) h op r1 = some h' → CT B L P 12 h' ∧ TYR 12 h h' (17 - 2 * op.toInt) false := by
      intro e
      unfold f_X2_readOne_3_44 at e
      have opens : ∀ (a : Int32 × HS), f_X2_opens h op = some a → ¬ kd h = 0 → (¬ eI a.2 5 0 = 0 ∧ a.1 = 0) ∨ (a.1 = 1 ∧ op.toInt < 8 ∧ CT B L P 12 a.2 ∧ at_ a.2 = at_ h + 1 ∧ eI a.2 12 5 = eI h 12 5 ∧ eA a.2 12 2 = eA h 12 2) := by
        intro a ea nk
        unfold f_X2_opens at ea
        by_cases c : op < 8
        · rw [if_pos c] at ea
          obtain ⟨h2, e2, ea⟩ := ob1_some ea
          cases ea
          obtain ⟨y1, y2, y3, y4, y5, y6⟩ := CT_adv (by decide) ct nk e2
          exact Or.inr ⟨rfl, by have := gi_of_lt c; omega, y1, y2, y4, y5⟩
        · rw [if_neg c] at ea
          obtain ⟨h2, e2, ea⟩ := ob1_some ea
          cases ea
          exact Or.inl ⟨fail_nz e2 (by decide), rfl⟩
      by_cases c13 : r1 = 13
      · rw [if_pos c13] at e
        have d13 := gi_of_eq c13
        obtain ⟨r14, h14, e14, e⟩ := ob2_some e
        rcases opens _ e14 (by omega) with ⟨y1, y2⟩ | ⟨y1, y2, y3, y4, y5, y6⟩
        · replace y2 : r14 = 0 := y2
          rw [if_pos y2] at e
          unfold f_X2_readOne_3_121 at e
          cases e
          exact absurd fz y1
        · replace y1 : r14 = 1 := y1
          rw [if_neg (by rw [y1]; decide)] at e
          obtain ⟨h16, e16, e⟩ := ob1_some e
          obtain ⟨h17, e17, e⟩ := ob1_some e
          unfold f_X2_readOne_3_121 at e
          cases e
          have f16 : eI h16 5 0 = 0 := kf_f_X2_expect _ _ _ e17 fz
          have a1 := fb_addI (x := op) (y := 1) (by omega) (by omega)
          obtain ⟨w1, w2⟩ := ih2 3 h14 h16 (op + 1) e16 (by omega) (by omega) y3 (by omega) (by omega) f16
          unfold f_X2_expect f_X2_expect_29 at e17
          rw [if_pos f16] at e17
          obtain ⟨rk1, hk, ek, e17⟩ := ob2_some e17
          obtain ⟨u1, u2⟩ := CT_kind w1 ek
          obtain rfl : h16 = hk := u1.symm
          replace u2 : rk1.toInt = kd h16 := u2
          by_cases c14 : rk1 = 14
          · rw [if_pos c14] at e17
            have d14 := gi_of_eq c14
            obtain ⟨h5, e5, e17⟩ := ob1_some e17
            cases e17
            obtain ⟨v1, v2, v3, v4, v5, v6⟩ := CT_adv (by decide) w1 (by omega) e5
            refine ⟨v1, TYR_le (tyr_wrap y5 y6 y4 w2 v4 v5 v2) (by omega)⟩
          · rw [if_neg c14] at e17
            obtain ⟨h4, e4, e17⟩ := ob1_some e17
            cases e17
            exact absurd fz (fail_nz e4 (by decide))
      · rw [if_neg c13] at e
        by_cases c10 : r1 = 10
        · rw [if_pos c10] at e
          have d10 := gi_of_eq c10
          obtain ⟨r10, h10, e10, e⟩ := ob2_some e
          rcases opens _ e10 (by omega) with ⟨y1, y2⟩ | ⟨y1, y2, y3, y4, y5, y6⟩
          · replace y2 : r10 = 0 := y2
            rw [if_pos y2] at e
            unfold f_X2_readOne_3_121 at e
            cases e
            exact absurd fz y1
          · replace y1 : r10 = 1 := y1
            rw [if_neg (by rw [y1]; decide)] at e
            obtain ⟨h12, e12, e⟩ := ob1_some e
            obtain ⟨h13, e13, e⟩ := ob1_some e
            unfold f_X2_readOne_3_121 at e
            cases e
            have f12 : eI h12 5 0 = 0 := by rw [← (w_f_X6_addStep_3 _ _ _ e13).1 5 0 (by decide)]; exact fz
            have a1 := fb_addI (x := op) (y := 1) (by omega) (by omega)
            obtain ⟨w1, w2⟩ := ih1 h10 h12 (op + 1) e12 y3 (by omega) (by omega) f12
            obtain ⟨t0, t1, t2, t3, t4, t5⟩ := id w1
            have tc := t1.2.2.1
            replace y4 : at_ h10 = at_ h + 1 := y4
            replace y5 : eI h10 12 5 = eI h 12 5 := y5
            have l1 := w2.2.1
            have l0 := ct.2.2.2.2.2
            rw [y5] at l1
            obtain ⟨v1, v2, v3, v4, v5, v6⟩ := cst_3 e13 t0 t1 t2 t3 t4 (by omega)
            exact ⟨v6 (by omega), TYR_le (tyr_un ct.2.2.2.2.1 y5 y6 y4 w2 v1 v2 v3 (fun S => rfl) (by omega)) (by omega)⟩
        · rw [if_neg c10] at e
          obtain ⟨h9, e9, e⟩ := ob1_some e
          unfold f_X2_readOne_3_121 at e
          cases e
          exact absurd fz (fail_nz e9 (by decide))
    by_cases c29 : r1 < 29
    · rw [if_pos c29] at e
      exact go44 e
    · rw [if_neg c29] at e
      have d29 := gi_of_nlt c29
      by_cases c37 : (37 : Int32) < r1
      · rw [if_pos c37] at e
        exact go44 e
      · rw [if_neg c37] at e
        have d37 := gi_of_nlt c37
        obtain ⟨h5, e5, e⟩ := ob1_some e
        unfold f_X2_readOne_3_121 at e
        cases e
        unfold f_X2_readName_3 at e5
        obtain ⟨r3, h3, e3, e5⟩ := ob2_some e5
        obtain ⟨q3, q4⟩ := CT_kind ct e3
        obtain rfl : h = h3 := q3.symm
        have good : f_X2_readName_3_31 h = some h' → CT B L P 12 h' ∧ TYR 12 h h' (17 - 2 * op.toInt) false := by
          intro e6
          unfold f_X2_readName_3_31 at e6
          obtain ⟨r5, h6, e6', e6⟩ := ob2_some e6
          obtain ⟨q5, q6⟩ := CT_kind ct e6'
          obtain rfl : h = h6 := q5.symm
          replace q6 : r5.toInt = kd h := q6
          obtain ⟨h7, e7, e6⟩ := ob1_some e6
          obtain ⟨h8, e8, e6⟩ := ob1_some e6
          cases e6
          have u1 := fb_addI (x := 10000) (y := r5) (by omega) (by omega)
          have u2 := fb_subI (x := 10000 + r5) (y := 29) (by omega) (by omega)
          obtain ⟨y1, y2⟩ := tleaf_3 ct (by omega) e7 e8 (by omega)
          exact ⟨y1, TYR_le y2 (by omega)⟩
        by_cases c35 : r3 < 35
        · rw [if_pos c35] at e5; exact good e5
        · rw [if_neg c35] at e5
          by_cases c0 : eI h 5 2 = 0
          · rw [if_pos c0] at e5; exact good e5
          · rw [if_neg c0] at e5
            by_cases c1 : eI h 5 2 = 1
            · rw [if_pos c1] at e5; exact good e5
            · rw [if_neg c1] at e5
              obtain ⟨h6, e6, e5⟩ := ob1_some e5
              cases e5
              exact absurd fz (fail_nz e6 (by decide))
theorem task_3 {B : Int → Int} {L : Int} {P : Nat → Int} {n : Nat} (ih1 : TAsk_3 B L P n) (ih2 : TLev_3 B L P n) : TAsk_3 B L P (n + 1) := by
  have z1 : (1 : Int32).toInt = 1 := rfl
  have z3 : (3 : Int32).toInt = 3 := rfl
  have z8 : (8 : Int32).toInt = 8 := rfl
  have z28 : (28 : Int32).toInt = 28 := rfl
  have z20000 : (20000 : Int32).toInt = 20000 := rfl
  intro h h' op e ct op0 op8 fz
  have e : f_X2_readAsk_3_b (fun h p1 p2 => G_read_3 n 0 h p1 p2) (fun h p1 => G_read_3 n 1 h p1 0) (fun h p1 => G_read_3 n 2 h p1 0) h op = some h' := e
  unfold f_X2_readAsk_3_b at e
  obtain ⟨r1, h1, e1, e⟩ := ob2_some e
  obtain ⟨q1, q2⟩ := CT_kind ct e1
  obtain rfl : h = h1 := q1.symm
  replace q2 : r1.toInt = kd h := q2
  by_cases c28 : r1 = 28
  · rw [if_pos c28] at e
    have d28 := gi_of_eq c28
    obtain ⟨r7, h7, e7, e⟩ := ob2_some e
    unfold f_X2_opens at e7
    by_cases c : op < 8
    · rw [if_pos c] at e7
      have dc := gi_of_lt c
      obtain ⟨h2, e2, e7⟩ := ob1_some e7
      cases e7
      obtain ⟨y1, y2, y3, y4, y5, y6⟩ := CT_adv (by decide) ct (by omega) e2
      rw [if_neg (by decide)] at e
      obtain ⟨h9, e9, e⟩ := ob1_some e
      obtain ⟨h10, e10, e⟩ := ob1_some e
      unfold f_X2_readAsk_3_34 at e
      cases e
      have f9 : eI h9 5 0 = 0 := by rw [← (w_f_X6_addStep_3 _ _ _ e10).1 5 0 (by decide)]; exact fz
      have a1 := fb_addI (x := op) (y := 1) (by omega) (by omega)
      obtain ⟨w1, w2⟩ := ih1 h7 h9 (op + 1) e9 y1 (by omega) (by omega) f9
      obtain ⟨t0, t1, t2, t3, t4, t5⟩ := id w1
      have tc := t1.2.2.1
      have l1 := w2.2.1
      have l0 := ct.2.2.2.2.2
      rw [y4] at l1
      obtain ⟨v1, v2, v3, v4, v5, v6⟩ := cst_3 e10 t0 t1 t2 t3 t4 (by omega)
      exact ⟨v6 (by omega), TYR_le (tyr_un ct.2.2.2.2.1 y4 y5 y2 w2 v1 v2 v3 (fun S => rfl) (by omega)) (by omega)⟩
    · rw [if_neg c] at e7
      obtain ⟨h2, e2, e7⟩ := ob1_some e7
      cases e7
      rw [if_pos rfl] at e
      unfold f_X2_readAsk_3_34 at e
      cases e
      exact absurd fz (fail_nz e2 (by decide))
  · rw [if_neg c28] at e
    obtain ⟨h3, e3, e⟩ := ob1_some e
    obtain ⟨r4, h4, e4, e⟩ := ob2_some e
    have k4 : h4 = h3 := cp_kind_same e4
    obtain rfl : h3 = h4 := k4.symm
    have no62 : f_X2_readAsk_3_62 (fun h p1 p2 => G_read_3 n 0 h p1 p2) (fun h p1 => G_read_3 n 1 h p1 0) (fun h p1 => G_read_3 n 2 h p1 0) h3 op r4 = some h' → False := by
      intro e
      unfold f_X2_readAsk_3_62 at e
      obtain ⟨h5, e5, e⟩ := ob1_some e
      have nz := fail_nz e5 (by decide)
      unfold f_X2_readAsk_3_68 f_X2_readAsk_3_97 at e
      rw [if_neg nz] at e
      cases e
      exact nz fz
    by_cases c3 : r4 < 3
    · rw [if_pos c3] at e; exact absurd e no62
    · rw [if_neg c3] at e
      have d3 := gi_of_nlt c3
      by_cases c8 : r4 ≤ 8
      · rw [if_pos c8] at e
        have d8 := gi_of_le c8
        unfold f_X2_readAsk_3_68 f_X2_readAsk_3_97 at e
        by_cases p0 : eI h3 5 0 = 0
        · rw [if_pos p0] at e
          obtain ⟨w1, w2⟩ := ih2 3 h h3 op e3 (by omega) (by omega) ct op0 op8 p0
          obtain ⟨u1, u2⟩ := CT_kind w1 e4
          replace u2 : r4.toInt = kd h3 := u2
          obtain ⟨h13, e13, e⟩ := ob1_some e
          obtain ⟨h14, e14, e⟩ := ob1_some e
          obtain ⟨h15, e15, e⟩ := ob1_some e
          cases e
          obtain ⟨y1, y2, y3, y4, y5, y6⟩ := CT_adv (by decide) w1 (by omega) e13
          have f14 : eI h14 5 0 = 0 := by rw [← (w_f_X6_addStep_3 _ _ _ e15).1 5 0 (by decide)]; exact fz
          obtain ⟨x1, x2⟩ := ih2 3 h13 h14 op e14 (by omega) (by omega) y1 op0 op8 f14
          obtain ⟨t0, t1, t2, t3, t4, t5⟩ := id x1
          have tc := t1.2.2.1
          have l1 := x2.2.1
          have l2 := w2.2.1
          have l0 := ct.2.2.2.2.2
          rw [y4] at l1
          obtain ⟨v1, v2, v3, v4, v5, v6⟩ := cst_3 e15 t0 t1 t2 t3 t4 (by omega)
          have b3 : decide ((3 : Int32).toInt ≤ 2) = false := by decide
          rw [b3] at w2 x2
          have us := fb_addI (x := 20000) (y := r4) (by omega) (by omega)
          refine ⟨v6 (by omega), tyr_bin ct.2.2.2.2.1 w2 y4 y5 y2 x2 v1 v2 v3 (fun S => ?_) (by omega) (by omega) (by omega)⟩
          unfold step1
          rw [if_neg (by omega), if_neg (by omega), if_neg (by omega), if_neg (by omega), if_pos (by omega)]
        · rw [if_neg p0] at e
          cases e
          exact absurd fz p0
      · rw [if_neg c8] at e; exact absurd e no62
theorem tloop_3 {B : Int → Int} {L : Int} {P : Nat → Int} {n : Nat} (ih3 : TLev_3 B L P n) {l op : Int32} (hl : 0 ≤ l.toInt ∧ l.toInt ≤ 4 ∧ ¬ l.toInt = 2) (op0 : 0 ≤ op.toInt) (op8 : op.toInt ≤ 8) {h h' : HS} (ct : CT B L P 12 h) (fz : eI h' 5 0 = 0) : ∀ (k : Nat) (h3 : HS) (x5 : Int32), f_X2_readLevel_3_42 (fun h p1 p2 => G_read_3 n 0 h p1 p2) (fun h p1 => G_read_3 n 1 h p1 0) (fun h p1 => G_read_3 n 2 h p1 0) k h3 l op x5 = some h' → CT B L P 12 h3 → TYR 12 h h3 (22 - 2 * op.toInt - l.toInt) (decide (l.toInt ≤ 2)) → CT B L P 12 h' ∧ TYR 12 h h' (22 - 2 * op.toInt - l.toInt) (decide (l.toInt ≤ 2)) := by
  have z1 : (1 : Int32).toInt = 1 := rfl
  have z20000 : (20000 : Int32).toInt = 20000 := rfl
  have al := fb_addI (x := l) (y := 1) (by omega) (by omega)
  intro k
  induction k with
  | zero => intro h3 x5 e; cases e
  | succ k ihk =>
    intro h3 x5 e c3 y3
    rw [f_X2_readLevel_3_42_s] at e
    unfold f_X2_readLevel_3_105 at e
    have stop : some h3 = some h' → CT B L P 12 h' ∧ TYR 12 h h' (22 - 2 * op.toInt - l.toInt) (decide (l.toInt ≤ 2)) := by
      intro q
      cases q
      exact ⟨c3, y3⟩
    by_cases c1 : (300 : Int32) ≤ x5
    · rw [if_pos c1] at e; exact stop e
    · rw [if_neg c1] at e
      by_cases p0 : eI h3 5 0 = 0
      · rw [if_pos p0] at e
        obtain ⟨r8, h8, e8, e⟩ := ob2_some e
        obtain ⟨u1, u2⟩ := CT_kind c3 e8
        obtain rfl : h3 = h8 := u1.symm
        replace u2 : r8.toInt = kd h3 := u2
        obtain ⟨r9, e9, e⟩ := ob1_some e
        have u9 := cp_levelOf e9
        rw [u2] at u9
        by_cases c9 : r9 = l
        · rw [if_pos c9] at e
          have d9 := gi_of_eq c9
          obtain ⟨r11, h11, e11, e⟩ := ob2_some e
          obtain ⟨u3, u4⟩ := CT_kind c3 e11
          obtain rfl : h3 = h11 := u3.symm
          replace u4 : r11.toInt = kd h3 := u4
          obtain ⟨h12, e12, e⟩ := ob1_some e
          obtain ⟨h13, e13, e⟩ := ob1_some e
          obtain ⟨h14, e14, e⟩ := ob1_some e
          have sp := lv_spec (kd h3)
          obtain ⟨a1, a2, a3, a4, a5, a6⟩ := CT_adv (by decide) c3 (by omega) e12
          have f14 : eI h14 5 0 = 0 := kf_f_X2_readLevel_3_42 _ (fun h p1 p2 => kf_G_read_3 n 0 h p1 p2) _ (fun h p1 => kf_G_read_3 n 1 h p1 0) _ (fun h p1 => kf_G_read_3 n 2 h p1 0) _ _ _ _ _ _ e fz
          have f13 : eI h13 5 0 = 0 := by rw [← (w_f_X6_addStep_3 _ _ _ e14).1 5 0 (by decide)]; exact f14
          obtain ⟨w1, w2⟩ := ih3 (l + 1) h12 h13 op e13 (by omega) (by omega) a1 op0 op8 f13
          rw [show (l + 1).toInt = l.toInt + 1 by omega] at w2
          have bb : decide (l.toInt + 1 ≤ 2) = decide (l.toInt ≤ 2) := by
            by_cases q : l.toInt ≤ 2
            · rw [decide_eq_true q, decide_eq_true (by omega)]
            · rw [decide_eq_false q, decide_eq_false (by omega)]
          rw [bb] at w2
          obtain ⟨t0, t1, t2, t3, t4, t5⟩ := id w1
          have tc := t1.2.2.1
          have l1 := w2.2.1
          have l2 := y3.2.1
          have l0 := ct.2.2.2.2.2
          rw [a4] at l1
          obtain ⟨v1, v2, v3, v4, v5, v6⟩ := cst_3 e14 t0 t1 t2 t3 t4 (by omega)
          have us := fb_addI (x := 20000) (y := r11) (by omega) (by omega)
          refine ihk h14 (x5 + 1) e (v6 (by omega)) (tyr_bin ct.2.2.2.2.1 y3 a4 a5 a2 w2 v1 v2 v3 (fun S => ?_) (by omega) (by omega) (by omega))
          unfold step1
          by_cases q : l.toInt ≤ 2
          · rw [decide_eq_true q]
            rw [if_neg (by omega), if_neg (by omega), if_neg (by omega), if_pos (by omega)]
          · rw [decide_eq_false q]
            rw [if_neg (by omega), if_neg (by omega), if_neg (by omega), if_neg (by omega), if_neg (by omega)]
        · rw [if_neg c9] at e; exact stop e
      · rw [if_neg p0] at e; exact stop e
theorem tlev_3 {B : Int → Int} {L : Int} {P : Nat → Int} {n : Nat} (ih1 : TOne_3 B L P n) (ih2 : TAsk_3 B L P n) (ih3 : TLev_3 B L P n) : TLev_3 B L P (n + 1) := by
  have z1 : (1 : Int32).toInt = 1 := rfl
  have z2 : (2 : Int32).toInt = 2 := rfl
  have z5 : (5 : Int32).toInt = 5 := rfl
  intro l h h' op e l0 l5 ct op0 op8 fz
  have e : f_X2_readLevel_3_b (fun h p1 p2 => G_read_3 n 0 h p1 p2) (fun h p1 => G_read_3 n 1 h p1 0) (fun h p1 => G_read_3 n 2 h p1 0) h l op = some h' := e
  unfold f_X2_readLevel_3_b at e
  by_cases c2 : l = 2
  · rw [if_pos c2] at e
    have d2 := gi_of_eq c2
    obtain ⟨h5, e5, e⟩ := ob1_some e
    cases e
    obtain ⟨y1, y2⟩ := ih2 h h' op e5 ct op0 op8 fz
    rw [show decide (l.toInt ≤ 2) = true from decide_eq_true (by omega)]
    exact ⟨y1, TYR_le y2 (by omega)⟩
  · rw [if_neg c2] at e
    have d2 := gi_of_ne c2
    by_cases c5 : l = 5
    · rw [if_pos c5] at e
      have d5 := gi_of_eq c5
      obtain ⟨h5, e5, e⟩ := ob1_some e
      cases e
      obtain ⟨y1, y2⟩ := ih1 h h' op e5 ct op0 op8 fz
      rw [show decide (l.toInt ≤ 2) = false from decide_eq_false (by omega)]
      exact ⟨y1, TYR_le y2 (by omega)⟩
    · rw [if_neg c5] at e
      have d5 := gi_of_ne c5
      obtain ⟨h3, e3, e⟩ := ob1_some e
      have al := fb_addI (x := l) (y := 1) (by omega) (by omega)
      have f3 : eI h3 5 0 = 0 := kf_f_X2_readLevel_3_42 _ (fun h p1 p2 => kf_G_read_3 n 0 h p1 p2) _ (fun h p1 => kf_G_read_3 n 1 h p1 0) _ (fun h p1 => kf_G_read_3 n 2 h p1 0) _ _ _ _ _ _ e fz
      obtain ⟨y1, y2⟩ := ih3 (l + 1) h h3 op e3 (by omega) (by omega) ct op0 op8 f3
      rw [show (l + 1).toInt = l.toInt + 1 by omega] at y2
      have bb : decide (l.toInt + 1 ≤ 2) = decide (l.toInt ≤ 2) := by
        by_cases q : l.toInt ≤ 2
        · rw [decide_eq_true q, decide_eq_true (by omega)]
        · rw [decide_eq_false q, decide_eq_false (by omega)]
      rw [bb] at y2
      exact tloop_3 ih3 ⟨l0, by omega, by omega⟩ op0 op8 ct fz _ h3 0 e y1 (TYR_le y2 (by omega))
theorem types_3 (B : Int → Int) (L : Int) (P : Nat → Int) : ∀ n : Nat, TOne_3 B L P n ∧ TAsk_3 B L P n ∧ TLev_3 B L P n := by
  intro n
  induction n with
  | zero =>
    refine ⟨?_, ?_, ?_⟩
    · intro h h' op e
      exact absurd e (by simp [G_read_3])
    · intro h h' op e
      exact absurd e (by simp [G_read_3])
    · intro l h h' op e
      exact absurd e (by simp [G_read_3])
  | succ n ih => exact ⟨tone_3 ih.1 ih.2.2, task_3 ih.2.1 ih.2.2, tlev_3 ih.1 ih.2.1 ih.2.2⟩
/-! text 0: no step of a law of ink or of the code asks for the market -/
theorem nb_add_0 {h h' : HS} {s : Int32} (e : f_X6_addStep_0 h s = some h') (q : 2 ≤ (eI h 5 2).toInt → NBS s) : NBR 9 h h' := by
  have z1 : (1 : Int32).toInt = 1 := rfl
  unfold f_X6_addStep_0 f_X6_addStep_0_32 at e
  by_cases c : (300 : Int32) ≤ eI h 9 5
  · rw [if_pos c] at e
    cases e
    exact NBR_refl _ _
  · rw [if_neg c] at e
    obtain ⟨d, e⟩ := ob_if e
    cases e
    refine ⟨rfl, fun l F k i i1 i2 => ?_⟩
    have a := fb_addI (x := eI h 9 5) (y := 1) (by omega) (by omega)
    have i2 : (i : Int) < (eI h 9 5 + 1).toInt := i2
    show NBS (upd (eA h 9 2) (eI h 9 5).toNatClampNeg s i)
    have ix : (eI h 9 5).toNatClampNeg = (eI h 9 5).toInt.toNat := rfl
    rw [ix]
    unfold upd
    by_cases c2 : i = (eI h 9 5).toInt.toNat
    · rw [if_pos c2]; exact q l
    · rw [if_neg c2]; exact k i i1 (by omega)
theorem nb_value_0 {h h' : HS} (e : f_X2_readValue_0 h = some h') : NBR 9 h h' := by
  have z9999 : (9999 : Int32).toInt = 9999 := rfl
  unfold f_X2_readValue_0 at e
  obtain ⟨r1, h1, e1, e⟩ := ob2_some e
  obtain rfl : h = h1 := (cp_value_same e1).symm
  by_cases c : r1 ≤ 9999
  · rw [if_pos c] at e
    have d := gi_of_le c
    obtain ⟨r3, h3, e3, e⟩ := ob2_some e
    obtain rfl : h = h3 := (cp_value_same e3).symm
    have er := same_arg e1 e3
    obtain rfl : r1 = r3 := congrArg Prod.fst er
    obtain ⟨h4, e4, e⟩ := ob1_some e
    obtain ⟨h5, e5, e⟩ := ob1_some e
    cases e
    exact NBR_trans (nb_add_0 e4 (fun _ => Or.inl (by omega))) (NBR_fr (w_f_X7_advance _ _ e5) (by decide) (by decide) (by decide))
  · rw [if_neg c] at e
    obtain ⟨h6, e6, e⟩ := ob1_some e
    cases e
    exact NBR_fr (w_f_X2_fail _ _ _ e6) (by decide) (by decide) (by decide)
theorem nb_name_0 {h h' : HS} (e : f_X2_readName_0 h = some h') : NBR 9 h h' := by
  have z35 : (35 : Int32).toInt = 35 := rfl
  have z29 : (29 : Int32).toInt = 29 := rfl
  have z0 : (0 : Int32).toInt = 0 := rfl
  have z1 : (1 : Int32).toInt = 1 := rfl
  have z10000 : (10000 : Int32).toInt = 10000 := rfl
  have tl : ∀ (h0 : HS) (r1 : Int32), f_X7_kind h0 = some (r1, h0) → (2 ≤ (eI h0 5 2).toInt → r1.toInt < 35) → f_X2_readName_0_31 h0 = some h' → NBR 9 h0 h' := by
    intro h0 r1 e1 q e
    unfold f_X2_readName_0_31 at e
    obtain ⟨r6, h6, e6, e⟩ := ob2_some e
    obtain rfl : h0 = h6 := (cp_kind_same e6).symm
    obtain rfl : r1 = r6 := congrArg Prod.fst (same_arg e1 e6)
    obtain ⟨h7, e7, e⟩ := ob1_some e
    obtain ⟨h8, e8, e⟩ := ob1_some e
    cases e
    refine NBR_trans (nb_add_0 e7 (fun l => Or.inl ?_)) (NBR_fr (w_f_X7_advance _ _ e8) (by decide) (by decide) (by decide))
    have k := q l
    have r := fb_rng r1
    have a := fb_addI (x := 10000) (y := r1) (by omega) (by omega)
    have b := fb_subI (x := 10000 + r1) (y := 29) (by omega) (by omega)
    omega
  unfold f_X2_readName_0 at e
  obtain ⟨r1, h1, e1, e⟩ := ob2_some e
  obtain rfl : h = h1 := (cp_kind_same e1).symm
  by_cases c : r1 < 35
  · rw [if_pos c] at e
    have d := gi_of_lt c
    exact tl h r1 e1 (fun _ => by omega) e
  · rw [if_neg c] at e
    by_cases c0 : eI h 5 2 = 0
    · rw [if_pos c0] at e
      have d := gi_of_eq c0
      exact tl h r1 e1 (fun _ => by omega) e
    · rw [if_neg c0] at e
      by_cases c1 : eI h 5 2 = 1
      · rw [if_pos c1] at e
        have d := gi_of_eq c1
        exact tl h r1 e1 (fun _ => by omega) e
      · rw [if_neg c1] at e
        obtain ⟨h5, e5, e⟩ := ob1_some e
        cases e
        exact NBR_fr (w_f_X2_fail _ _ _ e5) (by decide) (by decide) (by decide)
theorem nb_opens_0 {h : HS} {p : Int32} {z : Int32 × HS} (e : f_X2_opens h p = some z) : NBR 9 h z.2 := NBR_fr (w_f_X2_opens _ _ _ e) (by decide) (by decide) (by decide)
theorem nb_loop_0 {n : Nat} (ih3 : ∀ (l : Int32) (h h' : HS) (op : Int32), G_read_0 n 0 h l op = some h' → 0 ≤ l.toInt → l.toInt ≤ 5 → NBR 9 h h') {l op : Int32} (hl : 0 ≤ l.toInt ∧ l.toInt ≤ 4) {h' : HS} : ∀ (k : Nat) (h3 : HS) (x5 : Int32), f_X2_readLevel_0_42 (fun h p1 p2 => G_read_0 n 0 h p1 p2) (fun h p1 => G_read_0 n 1 h p1 0) (fun h p1 => G_read_0 n 2 h p1 0) k h3 l op x5 = some h' → NBR 9 h3 h' := by
  have z1 : (1 : Int32).toInt = 1 := rfl
  have z20000 : (20000 : Int32).toInt = 20000 := rfl
  have al := fb_addI (x := l) (y := 1) (by omega) (by omega)
  intro k
  induction k with
  | zero => intro h3 x5 e; cases e
  | succ k ihk =>
    intro h3 x5 e
    rw [f_X2_readLevel_0_42_s] at e
    unfold f_X2_readLevel_0_105 at e
    have stop : some h3 = some h' → NBR 9 h3 h' := by
      intro q
      cases q
      exact NBR_refl _ _
    by_cases c1 : (300 : Int32) ≤ x5
    · rw [if_pos c1] at e; exact stop e
    · rw [if_neg c1] at e
      by_cases p0 : eI h3 5 0 = 0
      · rw [if_pos p0] at e
        obtain ⟨r8, h8, e8, e⟩ := ob2_some e
        obtain rfl : h3 = h8 := (cp_kind_same e8).symm
        obtain ⟨r9, e9, e⟩ := ob1_some e
        have u9 := cp_levelOf e9
        by_cases c9 : r9 = l
        · rw [if_pos c9] at e
          have d9 := gi_of_eq c9
          obtain ⟨r11, h11, e11, e⟩ := ob2_some e
          obtain rfl : h3 = h11 := (cp_kind_same e11).symm
          obtain rfl : r8 = r11 := congrArg Prod.fst (same_arg e8 e11)
          obtain ⟨h12, e12, e⟩ := ob1_some e
          obtain ⟨h13, e13, e⟩ := ob1_some e
          obtain ⟨h14, e14, e⟩ := ob1_some e
          have sp := lv_spec r8.toInt
          have us := fb_addI (x := 20000) (y := r8) (by omega) (by omega)
          have s1 : NBR 9 h3 h12 := NBR_fr (w_f_X7_advance _ _ e12) (by decide) (by decide) (by decide)
          have s2 : NBR 9 h12 h13 := ih3 (l + 1) h12 h13 op e13 (by omega) (by omega)
          have s3 : NBR 9 h13 h14 := nb_add_0 e14 (fun _ => Or.inr (by omega))
          exact NBR_trans (NBR_trans s1 (NBR_trans s2 s3)) (ihk h14 (x5 + 1) e)
        · rw [if_neg c9] at e; exact stop e
      · rw [if_neg p0] at e; exact stop e
theorem nb_all_0 : ∀ n : Nat, (∀ (h h' : HS) (op : Int32), G_read_0 n 2 h op 0 = some h' → NBR 9 h h') ∧ (∀ (h h' : HS) (op : Int32), G_read_0 n 1 h op 0 = some h' → NBR 9 h h') ∧ (∀ (l : Int32) (h h' : HS) (op : Int32), G_read_0 n 0 h l op = some h' → 0 ≤ l.toInt → l.toInt ≤ 5 → NBR 9 h h') := by
  have z0 : (0 : Int32).toInt = 0 := rfl
  have z1 : (1 : Int32).toInt = 1 := rfl
  have z2 : (2 : Int32).toInt = 2 := rfl
  have z3 : (3 : Int32).toInt = 3 := rfl
  have z5 : (5 : Int32).toInt = 5 := rfl
  have z8 : (8 : Int32).toInt = 8 := rfl
  have z20000 : (20000 : Int32).toInt = 20000 := rfl
  intro n
  induction n with
  | zero =>
    refine ⟨?_, ?_, ?_⟩
    · intro h h' op e
      exact absurd e (by simp [G_read_0])
    · intro h h' op e
      exact absurd e (by simp [G_read_0])
    · intro l h h' op e
      exact absurd e (by simp [G_read_0])
  | succ n ih =>
    obtain ⟨ih1, ih2, ih3⟩ := ih
    refine ⟨?_, ?_, ?_⟩
    · intro h h' op e
      have e : f_X2_readOne_0_b (fun h p1 p2 => G_read_0 n 0 h p1 p2) (fun h p1 => G_read_0 n 1 h p1 0) (fun h p1 => G_read_0 n 2 h p1 0) h op = some h' := e
      unfold f_X2_readOne_0_b f_X2_readOne_0_121 at e
      obtain ⟨r1, h1, e1, e⟩ := ob2_some e
      obtain rfl : h = h1 := (cp_kind_same e1).symm
      have t44 : f_X2_readOne_0_44 (fun h p1 p2 => G_read_0 n 0 h p1 p2) (fun h p1 => G_read_0 n 1 h p1 0) (fun h p1 => G_read_0 n 2 h p1 0) h op r1 = some h' → NBR 9 h h' := by
        intro e
        unfold f_X2_readOne_0_44 f_X2_readOne_0_121 at e
        by_cases c13 : r1 = 13
        · rw [if_pos c13] at e
          obtain ⟨r14, h14, e14, e⟩ := ob2_some e
          have s1 : NBR 9 h h14 := nb_opens_0 e14
          by_cases c : r14 = 0
          · rw [if_pos c] at e; cases e; exact s1
          · rw [if_neg c] at e
            obtain ⟨h16, e16, e⟩ := ob1_some e
            obtain ⟨h17, e17, e⟩ := ob1_some e
            cases e
            exact NBR_trans s1 (NBR_trans (ih3 3 h14 h16 _ e16 (by omega) (by omega)) (NBR_fr (w_f_X2_expect _ _ _ e17) (by decide) (by decide) (by decide)))
        · rw [if_neg c13] at e
          by_cases c10 : r1 = 10
          · rw [if_pos c10] at e
            obtain ⟨r14, h14, e14, e⟩ := ob2_some e
            have s1 : NBR 9 h h14 := nb_opens_0 e14
            by_cases c : r14 = 0
            · rw [if_pos c] at e; cases e; exact s1
            · rw [if_neg c] at e
              obtain ⟨h16, e16, e⟩ := ob1_some e
              obtain ⟨h17, e17, e⟩ := ob1_some e
              cases e
              exact NBR_trans s1 (NBR_trans (ih1 h14 h16 _ e16) (nb_add_0 e17 (fun _ => Or.inr (by decide))))
          · rw [if_neg c10] at e
            obtain ⟨h9, e9, e⟩ := ob1_some e
            cases e
            exact NBR_fr (w_f_X2_fail _ _ _ e9) (by decide) (by decide) (by decide)
      by_cases c2 : r1 = 2
      · rw [if_pos c2] at e
        obtain ⟨h6, e6, e⟩ := ob1_some e
        cases e
        exact nb_value_0 e6
      · rw [if_neg c2] at e
        by_cases c29 : r1 < 29
        · rw [if_pos c29] at e; exact t44 e
        · rw [if_neg c29] at e
          by_cases c37 : (37 : Int32) < r1
          · rw [if_pos c37] at e; exact t44 e
          · rw [if_neg c37] at e
            obtain ⟨h5, e5, e⟩ := ob1_some e
            cases e
            exact nb_name_0 e5
    · intro h h' op e
      have e : f_X2_readAsk_0_b (fun h p1 p2 => G_read_0 n 0 h p1 p2) (fun h p1 => G_read_0 n 1 h p1 0) (fun h p1 => G_read_0 n 2 h p1 0) h op = some h' := e
      unfold f_X2_readAsk_0_b at e
      obtain ⟨r1, h1, e1, e⟩ := ob2_some e
      obtain rfl : h = h1 := (cp_kind_same e1).symm
      by_cases c28 : r1 = 28
      · rw [if_pos c28] at e
        obtain ⟨r7, h7, e7, e⟩ := ob2_some e
        have s1 : NBR 9 h h7 := nb_opens_0 e7
        by_cases c : r7 = 0
        · rw [if_pos c] at e
          unfold f_X2_readAsk_0_34 at e
          cases e
          exact s1
        · rw [if_neg c] at e
          obtain ⟨h9, e9, e⟩ := ob1_some e
          obtain ⟨h10, e10, e⟩ := ob1_some e
          unfold f_X2_readAsk_0_34 at e
          cases e
          exact NBR_trans s1 (NBR_trans (ih2 h7 h9 _ e9) (nb_add_0 e10 (fun _ => Or.inr (by decide))))
      · rw [if_neg c28] at e
        obtain ⟨h3, e3, e⟩ := ob1_some e
        have s1 : NBR 9 h h3 := ih3 3 h h3 op e3 (by omega) (by omega)
        obtain ⟨r4, h4, e4, e⟩ := ob2_some e
        obtain rfl : h3 = h4 := (cp_kind_same e4).symm
        have t62 : f_X2_readAsk_0_62 (fun h p1 p2 => G_read_0 n 0 h p1 p2) (fun h p1 => G_read_0 n 1 h p1 0) (fun h p1 => G_read_0 n 2 h p1 0) h3 op r4 = some h' → NBR 9 h3 h' := by
          intro e
          unfold f_X2_readAsk_0_62 at e
          obtain ⟨h5, e5, e⟩ := ob1_some e
          have nz := fail_nz e5 (by decide)
          unfold f_X2_readAsk_0_68 f_X2_readAsk_0_97 at e
          rw [if_neg nz] at e
          cases e
          exact NBR_fr (w_f_X2_fail _ _ _ e5) (by decide) (by decide) (by decide)
        by_cases c3 : r4 < 3
        · rw [if_pos c3] at e; exact NBR_trans s1 (t62 e)
        · rw [if_neg c3] at e
          have d3 := gi_of_nlt c3
          by_cases c8 : r4 ≤ 8
          · rw [if_pos c8] at e
            have d8 := gi_of_le c8
            unfold f_X2_readAsk_0_68 f_X2_readAsk_0_97 at e
            by_cases p0 : eI h3 5 0 = 0
            · rw [if_pos p0] at e
              obtain ⟨h13, e13, e⟩ := ob1_some e
              obtain ⟨h14, e14, e⟩ := ob1_some e
              obtain ⟨h15, e15, e⟩ := ob1_some e
              cases e
              have us := fb_addI (x := 20000) (y := r4) (by omega) (by omega)
              have s2 : NBR 9 h3 h13 := NBR_fr (w_f_X7_advance _ _ e13) (by decide) (by decide) (by decide)
              have s3 : NBR 9 h13 h14 := ih3 3 h13 h14 op e14 (by omega) (by omega)
              exact NBR_trans s1 (NBR_trans s2 (NBR_trans s3 (nb_add_0 e15 (fun _ => Or.inr (by omega)))))
            · rw [if_neg p0] at e
              cases e
              exact s1
          · rw [if_neg c8] at e; exact NBR_trans s1 (t62 e)
    · intro l h h' op e l0 l5
      have e : f_X2_readLevel_0_b (fun h p1 p2 => G_read_0 n 0 h p1 p2) (fun h p1 => G_read_0 n 1 h p1 0) (fun h p1 => G_read_0 n 2 h p1 0) h l op = some h' := e
      unfold f_X2_readLevel_0_b at e
      by_cases c2 : l = 2
      · rw [if_pos c2] at e
        obtain ⟨h5, e5, e⟩ := ob1_some e
        cases e
        exact ih2 h h' op e5
      · rw [if_neg c2] at e
        by_cases c5 : l = 5
        · rw [if_pos c5] at e
          obtain ⟨h5, e5, e⟩ := ob1_some e
          cases e
          exact ih1 h h' op e5
        · rw [if_neg c5] at e
          have d5 := gi_of_ne c5
          have al := fb_addI (x := l) (y := 1) (by omega) (by omega)
          obtain ⟨h3, e3, e⟩ := ob1_some e
          exact NBR_trans (ih3 (l + 1) h h3 op e3 (by omega) (by omega)) (nb_loop_0 ih3 ⟨l0, by omega⟩ _ h3 0 e)
/-! text 1: no step of a law of ink or of the code asks for the market -/
theorem nb_add_1 {h h' : HS} {s : Int32} (e : f_X6_addStep_1 h s = some h') (q : 2 ≤ (eI h 5 2).toInt → NBS s) : NBR 10 h h' := by
  have z1 : (1 : Int32).toInt = 1 := rfl
  unfold f_X6_addStep_1 f_X6_addStep_1_32 at e
  by_cases c : (300 : Int32) ≤ eI h 10 5
  · rw [if_pos c] at e
    cases e
    exact NBR_refl _ _
  · rw [if_neg c] at e
    obtain ⟨d, e⟩ := ob_if e
    cases e
    refine ⟨rfl, fun l F k i i1 i2 => ?_⟩
    have a := fb_addI (x := eI h 10 5) (y := 1) (by omega) (by omega)
    have i2 : (i : Int) < (eI h 10 5 + 1).toInt := i2
    show NBS (upd (eA h 10 2) (eI h 10 5).toNatClampNeg s i)
    have ix : (eI h 10 5).toNatClampNeg = (eI h 10 5).toInt.toNat := rfl
    rw [ix]
    unfold upd
    by_cases c2 : i = (eI h 10 5).toInt.toNat
    · rw [if_pos c2]; exact q l
    · rw [if_neg c2]; exact k i i1 (by omega)
theorem nb_value_1 {h h' : HS} (e : f_X2_readValue_1 h = some h') : NBR 10 h h' := by
  have z9999 : (9999 : Int32).toInt = 9999 := rfl
  unfold f_X2_readValue_1 at e
  obtain ⟨r1, h1, e1, e⟩ := ob2_some e
  obtain rfl : h = h1 := (cp_value_same e1).symm
  by_cases c : r1 ≤ 9999
  · rw [if_pos c] at e
    have d := gi_of_le c
    obtain ⟨r3, h3, e3, e⟩ := ob2_some e
    obtain rfl : h = h3 := (cp_value_same e3).symm
    have er := same_arg e1 e3
    obtain rfl : r1 = r3 := congrArg Prod.fst er
    obtain ⟨h4, e4, e⟩ := ob1_some e
    obtain ⟨h5, e5, e⟩ := ob1_some e
    cases e
    exact NBR_trans (nb_add_1 e4 (fun _ => Or.inl (by omega))) (NBR_fr (w_f_X7_advance _ _ e5) (by decide) (by decide) (by decide))
  · rw [if_neg c] at e
    obtain ⟨h6, e6, e⟩ := ob1_some e
    cases e
    exact NBR_fr (w_f_X2_fail _ _ _ e6) (by decide) (by decide) (by decide)
theorem nb_name_1 {h h' : HS} (e : f_X2_readName_1 h = some h') : NBR 10 h h' := by
  have z35 : (35 : Int32).toInt = 35 := rfl
  have z29 : (29 : Int32).toInt = 29 := rfl
  have z0 : (0 : Int32).toInt = 0 := rfl
  have z1 : (1 : Int32).toInt = 1 := rfl
  have z10000 : (10000 : Int32).toInt = 10000 := rfl
  have tl : ∀ (h0 : HS) (r1 : Int32), f_X7_kind h0 = some (r1, h0) → (2 ≤ (eI h0 5 2).toInt → r1.toInt < 35) → f_X2_readName_1_31 h0 = some h' → NBR 10 h0 h' := by
    intro h0 r1 e1 q e
    unfold f_X2_readName_1_31 at e
    obtain ⟨r6, h6, e6, e⟩ := ob2_some e
    obtain rfl : h0 = h6 := (cp_kind_same e6).symm
    obtain rfl : r1 = r6 := congrArg Prod.fst (same_arg e1 e6)
    obtain ⟨h7, e7, e⟩ := ob1_some e
    obtain ⟨h8, e8, e⟩ := ob1_some e
    cases e
    refine NBR_trans (nb_add_1 e7 (fun l => Or.inl ?_)) (NBR_fr (w_f_X7_advance _ _ e8) (by decide) (by decide) (by decide))
    have k := q l
    have r := fb_rng r1
    have a := fb_addI (x := 10000) (y := r1) (by omega) (by omega)
    have b := fb_subI (x := 10000 + r1) (y := 29) (by omega) (by omega)
    omega
  unfold f_X2_readName_1 at e
  obtain ⟨r1, h1, e1, e⟩ := ob2_some e
  obtain rfl : h = h1 := (cp_kind_same e1).symm
  by_cases c : r1 < 35
  · rw [if_pos c] at e
    have d := gi_of_lt c
    exact tl h r1 e1 (fun _ => by omega) e
  · rw [if_neg c] at e
    by_cases c0 : eI h 5 2 = 0
    · rw [if_pos c0] at e
      have d := gi_of_eq c0
      exact tl h r1 e1 (fun _ => by omega) e
    · rw [if_neg c0] at e
      by_cases c1 : eI h 5 2 = 1
      · rw [if_pos c1] at e
        have d := gi_of_eq c1
        exact tl h r1 e1 (fun _ => by omega) e
      · rw [if_neg c1] at e
        obtain ⟨h5, e5, e⟩ := ob1_some e
        cases e
        exact NBR_fr (w_f_X2_fail _ _ _ e5) (by decide) (by decide) (by decide)
theorem nb_opens_1 {h : HS} {p : Int32} {z : Int32 × HS} (e : f_X2_opens h p = some z) : NBR 10 h z.2 := NBR_fr (w_f_X2_opens _ _ _ e) (by decide) (by decide) (by decide)
theorem nb_loop_1 {n : Nat} (ih3 : ∀ (l : Int32) (h h' : HS) (op : Int32), G_read_1 n 0 h l op = some h' → 0 ≤ l.toInt → l.toInt ≤ 5 → NBR 10 h h') {l op : Int32} (hl : 0 ≤ l.toInt ∧ l.toInt ≤ 4) {h' : HS} : ∀ (k : Nat) (h3 : HS) (x5 : Int32), f_X2_readLevel_1_42 (fun h p1 p2 => G_read_1 n 0 h p1 p2) (fun h p1 => G_read_1 n 1 h p1 0) (fun h p1 => G_read_1 n 2 h p1 0) k h3 l op x5 = some h' → NBR 10 h3 h' := by
  have z1 : (1 : Int32).toInt = 1 := rfl
  have z20000 : (20000 : Int32).toInt = 20000 := rfl
  have al := fb_addI (x := l) (y := 1) (by omega) (by omega)
  intro k
  induction k with
  | zero => intro h3 x5 e; cases e
  | succ k ihk =>
    intro h3 x5 e
    rw [f_X2_readLevel_1_42_s] at e
    unfold f_X2_readLevel_1_105 at e
    have stop : some h3 = some h' → NBR 10 h3 h' := by
      intro q
      cases q
      exact NBR_refl _ _
    by_cases c1 : (300 : Int32) ≤ x5
    · rw [if_pos c1] at e; exact stop e
    · rw [if_neg c1] at e
      by_cases p0 : eI h3 5 0 = 0
      · rw [if_pos p0] at e
        obtain ⟨r8, h8, e8, e⟩ := ob2_some e
        obtain rfl : h3 = h8 := (cp_kind_same e8).symm
        obtain ⟨r9, e9, e⟩ := ob1_some e
        have u9 := cp_levelOf e9
        by_cases c9 : r9 = l
        · rw [if_pos c9] at e
          have d9 := gi_of_eq c9
          obtain ⟨r11, h11, e11, e⟩ := ob2_some e
          obtain rfl : h3 = h11 := (cp_kind_same e11).symm
          obtain rfl : r8 = r11 := congrArg Prod.fst (same_arg e8 e11)
          obtain ⟨h12, e12, e⟩ := ob1_some e
          obtain ⟨h13, e13, e⟩ := ob1_some e
          obtain ⟨h14, e14, e⟩ := ob1_some e
          have sp := lv_spec r8.toInt
          have us := fb_addI (x := 20000) (y := r8) (by omega) (by omega)
          have s1 : NBR 10 h3 h12 := NBR_fr (w_f_X7_advance _ _ e12) (by decide) (by decide) (by decide)
          have s2 : NBR 10 h12 h13 := ih3 (l + 1) h12 h13 op e13 (by omega) (by omega)
          have s3 : NBR 10 h13 h14 := nb_add_1 e14 (fun _ => Or.inr (by omega))
          exact NBR_trans (NBR_trans s1 (NBR_trans s2 s3)) (ihk h14 (x5 + 1) e)
        · rw [if_neg c9] at e; exact stop e
      · rw [if_neg p0] at e; exact stop e
theorem nb_all_1 : ∀ n : Nat, (∀ (h h' : HS) (op : Int32), G_read_1 n 2 h op 0 = some h' → NBR 10 h h') ∧ (∀ (h h' : HS) (op : Int32), G_read_1 n 1 h op 0 = some h' → NBR 10 h h') ∧ (∀ (l : Int32) (h h' : HS) (op : Int32), G_read_1 n 0 h l op = some h' → 0 ≤ l.toInt → l.toInt ≤ 5 → NBR 10 h h') := by
  have z0 : (0 : Int32).toInt = 0 := rfl
  have z1 : (1 : Int32).toInt = 1 := rfl
  have z2 : (2 : Int32).toInt = 2 := rfl
  have z3 : (3 : Int32).toInt = 3 := rfl
  have z5 : (5 : Int32).toInt = 5 := rfl
  have z8 : (8 : Int32).toInt = 8 := rfl
  have z20000 : (20000 : Int32).toInt = 20000 := rfl
  intro n
  induction n with
  | zero =>
    refine ⟨?_, ?_, ?_⟩
    · intro h h' op e
      exact absurd e (by simp [G_read_1])
    · intro h h' op e
      exact absurd e (by simp [G_read_1])
    · intro l h h' op e
      exact absurd e (by simp [G_read_1])
  | succ n ih =>
    obtain ⟨ih1, ih2, ih3⟩ := ih
    refine ⟨?_, ?_, ?_⟩
    · intro h h' op e
      have e : f_X2_readOne_1_b (fun h p1 p2 => G_read_1 n 0 h p1 p2) (fun h p1 => G_read_1 n 1 h p1 0) (fun h p1 => G_read_1 n 2 h p1 0) h op = some h' := e
      unfold f_X2_readOne_1_b f_X2_readOne_1_121 at e
      obtain ⟨r1, h1, e1, e⟩ := ob2_some e
      obtain rfl : h = h1 := (cp_kind_same e1).symm
      have t44 : f_X2_readOne_1_44 (fun h p1 p2 => G_read_1 n 0 h p1 p2) (fun h p1 => G_read_1 n 1 h p1 0) (fun h p1 => G_read_1 n 2 h p1 0) h op r1 = some h' → NBR 10 h h' := by
        intro e
        unfold f_X2_readOne_1_44 f_X2_readOne_1_121 at e
        by_cases c13 : r1 = 13
        · rw [if_pos c13] at e
          obtain ⟨r14, h14, e14, e⟩ := ob2_some e
          have s1 : NBR 10 h h14 := nb_opens_1 e14
          by_cases c : r14 = 0
          · rw [if_pos c] at e; cases e; exact s1
          · rw [if_neg c] at e
            obtain ⟨h16, e16, e⟩ := ob1_some e
            obtain ⟨h17, e17, e⟩ := ob1_some e
            cases e
            exact NBR_trans s1 (NBR_trans (ih3 3 h14 h16 _ e16 (by omega) (by omega)) (NBR_fr (w_f_X2_expect _ _ _ e17) (by decide) (by decide) (by decide)))
        · rw [if_neg c13] at e
          by_cases c10 : r1 = 10
          · rw [if_pos c10] at e
            obtain ⟨r14, h14, e14, e⟩ := ob2_some e
            have s1 : NBR 10 h h14 := nb_opens_1 e14
            by_cases c : r14 = 0
            · rw [if_pos c] at e; cases e; exact s1
            · rw [if_neg c] at e
              obtain ⟨h16, e16, e⟩ := ob1_some e
              obtain ⟨h17, e17, e⟩ := ob1_some e
              cases e
              exact NBR_trans s1 (NBR_trans (ih1 h14 h16 _ e16) (nb_add_1 e17 (fun _ => Or.inr (by decide))))
          · rw [if_neg c10] at e
            obtain ⟨h9, e9, e⟩ := ob1_some e
            cases e
            exact NBR_fr (w_f_X2_fail _ _ _ e9) (by decide) (by decide) (by decide)
      by_cases c2 : r1 = 2
      · rw [if_pos c2] at e
        obtain ⟨h6, e6, e⟩ := ob1_some e
        cases e
        exact nb_value_1 e6
      · rw [if_neg c2] at e
        by_cases c29 : r1 < 29
        · rw [if_pos c29] at e; exact t44 e
        · rw [if_neg c29] at e
          by_cases c37 : (37 : Int32) < r1
          · rw [if_pos c37] at e; exact t44 e
          · rw [if_neg c37] at e
            obtain ⟨h5, e5, e⟩ := ob1_some e
            cases e
            exact nb_name_1 e5
    · intro h h' op e
      have e : f_X2_readAsk_1_b (fun h p1 p2 => G_read_1 n 0 h p1 p2) (fun h p1 => G_read_1 n 1 h p1 0) (fun h p1 => G_read_1 n 2 h p1 0) h op = some h' := e
      unfold f_X2_readAsk_1_b at e
      obtain ⟨r1, h1, e1, e⟩ := ob2_some e
      obtain rfl : h = h1 := (cp_kind_same e1).symm
      by_cases c28 : r1 = 28
      · rw [if_pos c28] at e
        obtain ⟨r7, h7, e7, e⟩ := ob2_some e
        have s1 : NBR 10 h h7 := nb_opens_1 e7
        by_cases c : r7 = 0
        · rw [if_pos c] at e
          unfold f_X2_readAsk_1_34 at e
          cases e
          exact s1
        · rw [if_neg c] at e
          obtain ⟨h9, e9, e⟩ := ob1_some e
          obtain ⟨h10, e10, e⟩ := ob1_some e
          unfold f_X2_readAsk_1_34 at e
          cases e
          exact NBR_trans s1 (NBR_trans (ih2 h7 h9 _ e9) (nb_add_1 e10 (fun _ => Or.inr (by decide))))
      · rw [if_neg c28] at e
        obtain ⟨h3, e3, e⟩ := ob1_some e
        have s1 : NBR 10 h h3 := ih3 3 h h3 op e3 (by omega) (by omega)
        obtain ⟨r4, h4, e4, e⟩ := ob2_some e
        obtain rfl : h3 = h4 := (cp_kind_same e4).symm
        have t62 : f_X2_readAsk_1_62 (fun h p1 p2 => G_read_1 n 0 h p1 p2) (fun h p1 => G_read_1 n 1 h p1 0) (fun h p1 => G_read_1 n 2 h p1 0) h3 op r4 = some h' → NBR 10 h3 h' := by
          intro e
          unfold f_X2_readAsk_1_62 at e
          obtain ⟨h5, e5, e⟩ := ob1_some e
          have nz := fail_nz e5 (by decide)
          unfold f_X2_readAsk_1_68 f_X2_readAsk_1_97 at e
          rw [if_neg nz] at e
          cases e
          exact NBR_fr (w_f_X2_fail _ _ _ e5) (by decide) (by decide) (by decide)
        by_cases c3 : r4 < 3
        · rw [if_pos c3] at e; exact NBR_trans s1 (t62 e)
        · rw [if_neg c3] at e
          have d3 := gi_of_nlt c3
          by_cases c8 : r4 ≤ 8
          · rw [if_pos c8] at e
            have d8 := gi_of_le c8
            unfold f_X2_readAsk_1_68 f_X2_readAsk_1_97 at e
            by_cases p0 : eI h3 5 0 = 0
            · rw [if_pos p0] at e
              obtain ⟨h13, e13, e⟩ := ob1_some e
              obtain ⟨h14, e14, e⟩ := ob1_some e
              obtain ⟨h15, e15, e⟩ := ob1_some e
              cases e
              have us := fb_addI (x := 20000) (y := r4) (by omega) (by omega)
              have s2 : NBR 10 h3 h13 := NBR_fr (w_f_X7_advance _ _ e13) (by decide) (by decide) (by decide)
              have s3 : NBR 10 h13 h14 := ih3 3 h13 h14 op e14 (by omega) (by omega)
              exact NBR_trans s1 (NBR_trans s2 (NBR_trans s3 (nb_add_1 e15 (fun _ => Or.inr (by omega)))))
            · rw [if_neg p0] at e
              cases e
              exact s1
          · rw [if_neg c8] at e; exact NBR_trans s1 (t62 e)
    · intro l h h' op e l0 l5
      have e : f_X2_readLevel_1_b (fun h p1 p2 => G_read_1 n 0 h p1 p2) (fun h p1 => G_read_1 n 1 h p1 0) (fun h p1 => G_read_1 n 2 h p1 0) h l op = some h' := e
      unfold f_X2_readLevel_1_b at e
      by_cases c2 : l = 2
      · rw [if_pos c2] at e
        obtain ⟨h5, e5, e⟩ := ob1_some e
        cases e
        exact ih2 h h' op e5
      · rw [if_neg c2] at e
        by_cases c5 : l = 5
        · rw [if_pos c5] at e
          obtain ⟨h5, e5, e⟩ := ob1_some e
          cases e
          exact ih1 h h' op e5
        · rw [if_neg c5] at e
          have d5 := gi_of_ne c5
          have al := fb_addI (x := l) (y := 1) (by omega) (by omega)
          obtain ⟨h3, e3, e⟩ := ob1_some e
          exact NBR_trans (ih3 (l + 1) h h3 op e3 (by omega) (by omega)) (nb_loop_1 ih3 ⟨l0, by omega⟩ _ h3 0 e)
/-! text 2: no step of a law of ink or of the code asks for the market -/
theorem nb_add_2 {h h' : HS} {s : Int32} (e : f_X6_addStep_2 h s = some h') (q : 2 ≤ (eI h 5 2).toInt → NBS s) : NBR 11 h h' := by
  have z1 : (1 : Int32).toInt = 1 := rfl
  unfold f_X6_addStep_2 f_X6_addStep_2_32 at e
  by_cases c : (300 : Int32) ≤ eI h 11 5
  · rw [if_pos c] at e
    cases e
    exact NBR_refl _ _
  · rw [if_neg c] at e
    obtain ⟨d, e⟩ := ob_if e
    cases e
    refine ⟨rfl, fun l F k i i1 i2 => ?_⟩
    have a := fb_addI (x := eI h 11 5) (y := 1) (by omega) (by omega)
    have i2 : (i : Int) < (eI h 11 5 + 1).toInt := i2
    show NBS (upd (eA h 11 2) (eI h 11 5).toNatClampNeg s i)
    have ix : (eI h 11 5).toNatClampNeg = (eI h 11 5).toInt.toNat := rfl
    rw [ix]
    unfold upd
    by_cases c2 : i = (eI h 11 5).toInt.toNat
    · rw [if_pos c2]; exact q l
    · rw [if_neg c2]; exact k i i1 (by omega)
theorem nb_value_2 {h h' : HS} (e : f_X2_readValue_2 h = some h') : NBR 11 h h' := by
  have z9999 : (9999 : Int32).toInt = 9999 := rfl
  unfold f_X2_readValue_2 at e
  obtain ⟨r1, h1, e1, e⟩ := ob2_some e
  obtain rfl : h = h1 := (cp_value_same e1).symm
  by_cases c : r1 ≤ 9999
  · rw [if_pos c] at e
    have d := gi_of_le c
    obtain ⟨r3, h3, e3, e⟩ := ob2_some e
    obtain rfl : h = h3 := (cp_value_same e3).symm
    have er := same_arg e1 e3
    obtain rfl : r1 = r3 := congrArg Prod.fst er
    obtain ⟨h4, e4, e⟩ := ob1_some e
    obtain ⟨h5, e5, e⟩ := ob1_some e
    cases e
    exact NBR_trans (nb_add_2 e4 (fun _ => Or.inl (by omega))) (NBR_fr (w_f_X7_advance _ _ e5) (by decide) (by decide) (by decide))
  · rw [if_neg c] at e
    obtain ⟨h6, e6, e⟩ := ob1_some e
    cases e
    exact NBR_fr (w_f_X2_fail _ _ _ e6) (by decide) (by decide) (by decide)
theorem nb_name_2 {h h' : HS} (e : f_X2_readName_2 h = some h') : NBR 11 h h' := by
  have z35 : (35 : Int32).toInt = 35 := rfl
  have z29 : (29 : Int32).toInt = 29 := rfl
  have z0 : (0 : Int32).toInt = 0 := rfl
  have z1 : (1 : Int32).toInt = 1 := rfl
  have z10000 : (10000 : Int32).toInt = 10000 := rfl
  have tl : ∀ (h0 : HS) (r1 : Int32), f_X7_kind h0 = some (r1, h0) → (2 ≤ (eI h0 5 2).toInt → r1.toInt < 35) → f_X2_readName_2_31 h0 = some h' → NBR 11 h0 h' := by
    intro h0 r1 e1 q e
    unfold f_X2_readName_2_31 at e
    obtain ⟨r6, h6, e6, e⟩ := ob2_some e
    obtain rfl : h0 = h6 := (cp_kind_same e6).symm
    obtain rfl : r1 = r6 := congrArg Prod.fst (same_arg e1 e6)
    obtain ⟨h7, e7, e⟩ := ob1_some e
    obtain ⟨h8, e8, e⟩ := ob1_some e
    cases e
    refine NBR_trans (nb_add_2 e7 (fun l => Or.inl ?_)) (NBR_fr (w_f_X7_advance _ _ e8) (by decide) (by decide) (by decide))
    have k := q l
    have r := fb_rng r1
    have a := fb_addI (x := 10000) (y := r1) (by omega) (by omega)
    have b := fb_subI (x := 10000 + r1) (y := 29) (by omega) (by omega)
    omega
  unfold f_X2_readName_2 at e
  obtain ⟨r1, h1, e1, e⟩ := ob2_some e
  obtain rfl : h = h1 := (cp_kind_same e1).symm
  by_cases c : r1 < 35
  · rw [if_pos c] at e
    have d := gi_of_lt c
    exact tl h r1 e1 (fun _ => by omega) e
  · rw [if_neg c] at e
    by_cases c0 : eI h 5 2 = 0
    · rw [if_pos c0] at e
      have d := gi_of_eq c0
      exact tl h r1 e1 (fun _ => by omega) e
    · rw [if_neg c0] at e
      by_cases c1 : eI h 5 2 = 1
      · rw [if_pos c1] at e
        have d := gi_of_eq c1
        exact tl h r1 e1 (fun _ => by omega) e
      · rw [if_neg c1] at e
        obtain ⟨h5, e5, e⟩ := ob1_some e
        cases e
        exact NBR_fr (w_f_X2_fail _ _ _ e5) (by decide) (by decide) (by decide)
theorem nb_opens_2 {h : HS} {p : Int32} {z : Int32 × HS} (e : f_X2_opens h p = some z) : NBR 11 h z.2 := NBR_fr (w_f_X2_opens _ _ _ e) (by decide) (by decide) (by decide)
theorem nb_loop_2 {n : Nat} (ih3 : ∀ (l : Int32) (h h' : HS) (op : Int32), G_read_2 n 0 h l op = some h' → 0 ≤ l.toInt → l.toInt ≤ 5 → NBR 11 h h') {l op : Int32} (hl : 0 ≤ l.toInt ∧ l.toInt ≤ 4) {h' : HS} : ∀ (k : Nat) (h3 : HS) (x5 : Int32), f_X2_readLevel_2_42 (fun h p1 p2 => G_read_2 n 0 h p1 p2) (fun h p1 => G_read_2 n 1 h p1 0) (fun h p1 => G_read_2 n 2 h p1 0) k h3 l op x5 = some h' → NBR 11 h3 h' := by
  have z1 : (1 : Int32).toInt = 1 := rfl
  have z20000 : (20000 : Int32).toInt = 20000 := rfl
  have al := fb_addI (x := l) (y := 1) (by omega) (by omega)
  intro k
  induction k with
  | zero => intro h3 x5 e; cases e
  | succ k ihk =>
    intro h3 x5 e
    rw [f_X2_readLevel_2_42_s] at e
    unfold f_X2_readLevel_2_105 at e
    have stop : some h3 = some h' → NBR 11 h3 h' := by
      intro q
      cases q
      exact NBR_refl _ _
    by_cases c1 : (300 : Int32) ≤ x5
    · rw [if_pos c1] at e; exact stop e
    · rw [if_neg c1] at e
      by_cases p0 : eI h3 5 0 = 0
      · rw [if_pos p0] at e
        obtain ⟨r8, h8, e8, e⟩ := ob2_some e
        obtain rfl : h3 = h8 := (cp_kind_same e8).symm
        obtain ⟨r9, e9, e⟩ := ob1_some e
        have u9 := cp_levelOf e9
        by_cases c9 : r9 = l
        · rw [if_pos c9] at e
          have d9 := gi_of_eq c9
          obtain ⟨r11, h11, e11, e⟩ := ob2_some e
          obtain rfl : h3 = h11 := (cp_kind_same e11).symm
          obtain rfl : r8 = r11 := congrArg Prod.fst (same_arg e8 e11)
          obtain ⟨h12, e12, e⟩ := ob1_some e
          obtain ⟨h13, e13, e⟩ := ob1_some e
          obtain ⟨h14, e14, e⟩ := ob1_some e
          have sp := lv_spec r8.toInt
          have us := fb_addI (x := 20000) (y := r8) (by omega) (by omega)
          have s1 : NBR 11 h3 h12 := NBR_fr (w_f_X7_advance _ _ e12) (by decide) (by decide) (by decide)
          have s2 : NBR 11 h12 h13 := ih3 (l + 1) h12 h13 op e13 (by omega) (by omega)
          have s3 : NBR 11 h13 h14 := nb_add_2 e14 (fun _ => Or.inr (by omega))
          exact NBR_trans (NBR_trans s1 (NBR_trans s2 s3)) (ihk h14 (x5 + 1) e)
        · rw [if_neg c9] at e; exact stop e
      · rw [if_neg p0] at e; exact stop e
theorem nb_all_2 : ∀ n : Nat, (∀ (h h' : HS) (op : Int32), G_read_2 n 2 h op 0 = some h' → NBR 11 h h') ∧ (∀ (h h' : HS) (op : Int32), G_read_2 n 1 h op 0 = some h' → NBR 11 h h') ∧ (∀ (l : Int32) (h h' : HS) (op : Int32), G_read_2 n 0 h l op = some h' → 0 ≤ l.toInt → l.toInt ≤ 5 → NBR 11 h h') := by
  have z0 : (0 : Int32).toInt = 0 := rfl
  have z1 : (1 : Int32).toInt = 1 := rfl
  have z2 : (2 : Int32).toInt = 2 := rfl
  have z3 : (3 : Int32).toInt = 3 := rfl
  have z5 : (5 : Int32).toInt = 5 := rfl
  have z8 : (8 : Int32).toInt = 8 := rfl
  have z20000 : (20000 : Int32).toInt = 20000 := rfl
  intro n
  induction n with
  | zero =>
    refine ⟨?_, ?_, ?_⟩
    · intro h h' op e
      exact absurd e (by simp [G_read_2])
    · intro h h' op e
      exact absurd e (by simp [G_read_2])
    · intro l h h' op e
      exact absurd e (by simp [G_read_2])
  | succ n ih =>
    obtain ⟨ih1, ih2, ih3⟩ := ih
    refine ⟨?_, ?_, ?_⟩
    · intro h h' op e
      have e : f_X2_readOne_2_b (fun h p1 p2 => G_read_2 n 0 h p1 p2) (fun h p1 => G_read_2 n 1 h p1 0) (fun h p1 => G_read_2 n 2 h p1 0) h op = some h' := e
      unfold f_X2_readOne_2_b f_X2_readOne_2_121 at e
      obtain ⟨r1, h1, e1, e⟩ := ob2_some e
      obtain rfl : h = h1 := (cp_kind_same e1).symm
      have t44 : f_X2_readOne_2_44 (fun h p1 p2 => G_read_2 n 0 h p1 p2) (fun h p1 => G_read_2 n 1 h p1 0) (fun h p1 => G_read_2 n 2 h p1 0) h op r1 = some h' → NBR 11 h h' := by
        intro e
        unfold f_X2_readOne_2_44 f_X2_readOne_2_121 at e
        by_cases c13 : r1 = 13
        · rw [if_pos c13] at e
          obtain ⟨r14, h14, e14, e⟩ := ob2_some e
          have s1 : NBR 11 h h14 := nb_opens_2 e14
          by_cases c : r14 = 0
          · rw [if_pos c] at e; cases e; exact s1
          · rw [if_neg c] at e
            obtain ⟨h16, e16, e⟩ := ob1_some e
            obtain ⟨h17, e17, e⟩ := ob1_some e
            cases e
            exact NBR_trans s1 (NBR_trans (ih3 3 h14 h16 _ e16 (by omega) (by omega)) (NBR_fr (w_f_X2_expect _ _ _ e17) (by decide) (by decide) (by decide)))
        · rw [if_neg c13] at e
          by_cases c10 : r1 = 10
          · rw [if_pos c10] at e
            obtain ⟨r14, h14, e14, e⟩ := ob2_some e
            have s1 : NBR 11 h h14 := nb_opens_2 e14
            by_cases c : r14 = 0
            · rw [if_pos c] at e; cases e; exact s1
            · rw [if_neg c] at e
              obtain ⟨h16, e16, e⟩ := ob1_some e
              obtain ⟨h17, e17, e⟩ := ob1_some e
              cases e
              exact NBR_trans s1 (NBR_trans (ih1 h14 h16 _ e16) (nb_add_2 e17 (fun _ => Or.inr (by decide))))
          · rw [if_neg c10] at e
            obtain ⟨h9, e9, e⟩ := ob1_some e
            cases e
            exact NBR_fr (w_f_X2_fail _ _ _ e9) (by decide) (by decide) (by decide)
      by_cases c2 : r1 = 2
      · rw [if_pos c2] at e
        obtain ⟨h6, e6, e⟩ := ob1_some e
        cases e
        exact nb_value_2 e6
      · rw [if_neg c2] at e
        by_cases c29 : r1 < 29
        · rw [if_pos c29] at e; exact t44 e
        · rw [if_neg c29] at e
          by_cases c37 : (37 : Int32) < r1
          · rw [if_pos c37] at e; exact t44 e
          · rw [if_neg c37] at e
            obtain ⟨h5, e5, e⟩ := ob1_some e
            cases e
            exact nb_name_2 e5
    · intro h h' op e
      have e : f_X2_readAsk_2_b (fun h p1 p2 => G_read_2 n 0 h p1 p2) (fun h p1 => G_read_2 n 1 h p1 0) (fun h p1 => G_read_2 n 2 h p1 0) h op = some h' := e
      unfold f_X2_readAsk_2_b at e
      obtain ⟨r1, h1, e1, e⟩ := ob2_some e
      obtain rfl : h = h1 := (cp_kind_same e1).symm
      by_cases c28 : r1 = 28
      · rw [if_pos c28] at e
        obtain ⟨r7, h7, e7, e⟩ := ob2_some e
        have s1 : NBR 11 h h7 := nb_opens_2 e7
        by_cases c : r7 = 0
        · rw [if_pos c] at e
          unfold f_X2_readAsk_2_34 at e
          cases e
          exact s1
        · rw [if_neg c] at e
          obtain ⟨h9, e9, e⟩ := ob1_some e
          obtain ⟨h10, e10, e⟩ := ob1_some e
          unfold f_X2_readAsk_2_34 at e
          cases e
          exact NBR_trans s1 (NBR_trans (ih2 h7 h9 _ e9) (nb_add_2 e10 (fun _ => Or.inr (by decide))))
      · rw [if_neg c28] at e
        obtain ⟨h3, e3, e⟩ := ob1_some e
        have s1 : NBR 11 h h3 := ih3 3 h h3 op e3 (by omega) (by omega)
        obtain ⟨r4, h4, e4, e⟩ := ob2_some e
        obtain rfl : h3 = h4 := (cp_kind_same e4).symm
        have t62 : f_X2_readAsk_2_62 (fun h p1 p2 => G_read_2 n 0 h p1 p2) (fun h p1 => G_read_2 n 1 h p1 0) (fun h p1 => G_read_2 n 2 h p1 0) h3 op r4 = some h' → NBR 11 h3 h' := by
          intro e
          unfold f_X2_readAsk_2_62 at e
          obtain ⟨h5, e5, e⟩ := ob1_some e
          have nz := fail_nz e5 (by decide)
          unfold f_X2_readAsk_2_68 f_X2_readAsk_2_97 at e
          rw [if_neg nz] at e
          cases e
          exact NBR_fr (w_f_X2_fail _ _ _ e5) (by decide) (by decide) (by decide)
        by_cases c3 : r4 < 3
        · rw [if_pos c3] at e; exact NBR_trans s1 (t62 e)
        · rw [if_neg c3] at e
          have d3 := gi_of_nlt c3
          by_cases c8 : r4 ≤ 8
          · rw [if_pos c8] at e
            have d8 := gi_of_le c8
            unfold f_X2_readAsk_2_68 f_X2_readAsk_2_97 at e
            by_cases p0 : eI h3 5 0 = 0
            · rw [if_pos p0] at e
              obtain ⟨h13, e13, e⟩ := ob1_some e
              obtain ⟨h14, e14, e⟩ := ob1_some e
              obtain ⟨h15, e15, e⟩ := ob1_some e
              cases e
              have us := fb_addI (x := 20000) (y := r4) (by omega) (by omega)
              have s2 : NBR 11 h3 h13 := NBR_fr (w_f_X7_advance _ _ e13) (by decide) (by decide) (by decide)
              have s3 : NBR 11 h13 h14 := ih3 3 h13 h14 op e14 (by omega) (by omega)
              exact NBR_trans s1 (NBR_trans s2 (NBR_trans s3 (nb_add_2 e15 (fun _ => Or.inr (by omega)))))
            · rw [if_neg p0] at e
              cases e
              exact s1
          · rw [if_neg c8] at e; exact NBR_trans s1 (t62 e)
    · intro l h h' op e l0 l5
      have e : f_X2_readLevel_2_b (fun h p1 p2 => G_read_2 n 0 h p1 p2) (fun h p1 => G_read_2 n 1 h p1 0) (fun h p1 => G_read_2 n 2 h p1 0) h l op = some h' := e
      unfold f_X2_readLevel_2_b at e
      by_cases c2 : l = 2
      · rw [if_pos c2] at e
        obtain ⟨h5, e5, e⟩ := ob1_some e
        cases e
        exact ih2 h h' op e5
      · rw [if_neg c2] at e
        by_cases c5 : l = 5
        · rw [if_pos c5] at e
          obtain ⟨h5, e5, e⟩ := ob1_some e
          cases e
          exact ih1 h h' op e5
        · rw [if_neg c5] at e
          have d5 := gi_of_ne c5
          have al := fb_addI (x := l) (y := 1) (by omega) (by omega)
          obtain ⟨h3, e3, e⟩ := ob1_some e
          exact NBR_trans (ih3 (l + 1) h h3 op e3 (by omega) (by omega)) (nb_loop_2 ih3 ⟨l0, by omega⟩ _ h3 0 e)
/-! text 3: no step of a law of ink or of the code asks for the market -/
theorem nb_add_3 {h h' : HS} {s : Int32} (e : f_X6_addStep_3 h s = some h') (q : 2 ≤ (eI h 5 2).toInt → NBS s) : NBR 12 h h' := by
  have z1 : (1 : Int32).toInt = 1 := rfl
  unfold f_X6_addStep_3 f_X6_addStep_3_32 at e
  by_cases c : (300 : Int32) ≤ eI h 12 5
  · rw [if_pos c] at e
    cases e
    exact NBR_refl _ _
  · rw [if_neg c] at e
    obtain ⟨d, e⟩ := ob_if e
    cases e
    refine ⟨rfl, fun l F k i i1 i2 => ?_⟩
    have a := fb_addI (x := eI h 12 5) (y := 1) (by omega) (by omega)
    have i2 : (i : Int) < (eI h 12 5 + 1).toInt := i2
    show NBS (upd (eA h 12 2) (eI h 12 5).toNatClampNeg s i)
    have ix : (eI h 12 5).toNatClampNeg = (eI h 12 5).toInt.toNat := rfl
    rw [ix]
    unfold upd
    by_cases c2 : i = (eI h 12 5).toInt.toNat
    · rw [if_pos c2]; exact q l
    · rw [if_neg c2]; exact k i i1 (by omega)
theorem nb_value_3 {h h' : HS} (e : f_X2_readValue_3 h = some h') : NBR 12 h h' := by
  have z9999 : (9999 : Int32).toInt = 9999 := rfl
  unfold f_X2_readValue_3 at e
  obtain ⟨r1, h1, e1, e⟩ := ob2_some e
  obtain rfl : h = h1 := (cp_value_same e1).symm
  by_cases c : r1 ≤ 9999
  · rw [if_pos c] at e
    have d := gi_of_le c
    obtain ⟨r3, h3, e3, e⟩ := ob2_some e
    obtain rfl : h = h3 := (cp_value_same e3).symm
    have er := same_arg e1 e3
    obtain rfl : r1 = r3 := congrArg Prod.fst er
    obtain ⟨h4, e4, e⟩ := ob1_some e
    obtain ⟨h5, e5, e⟩ := ob1_some e
    cases e
    exact NBR_trans (nb_add_3 e4 (fun _ => Or.inl (by omega))) (NBR_fr (w_f_X7_advance _ _ e5) (by decide) (by decide) (by decide))
  · rw [if_neg c] at e
    obtain ⟨h6, e6, e⟩ := ob1_some e
    cases e
    exact NBR_fr (w_f_X2_fail _ _ _ e6) (by decide) (by decide) (by decide)
theorem nb_name_3 {h h' : HS} (e : f_X2_readName_3 h = some h') : NBR 12 h h' := by
  have z35 : (35 : Int32).toInt = 35 := rfl
  have z29 : (29 : Int32).toInt = 29 := rfl
  have z0 : (0 : Int32).toInt = 0 := rfl
  have z1 : (1 : Int32).toInt = 1 := rfl
  have z10000 : (10000 : Int32).toInt = 10000 := rfl
  have tl : ∀ (h0 : HS) (r1 : Int32), f_X7_kind h0 = some (r1, h0) → (2 ≤ (eI h0 5 2).toInt → r1.toInt < 35) → f_X2_readName_3_31 h0 = some h' → NBR 12 h0 h' := by
    intro h0 r1 e1 q e
    unfold f_X2_readName_3_31 at e
    obtain ⟨r6, h6, e6, e⟩ := ob2_some e
    obtain rfl : h0 = h6 := (cp_kind_same e6).symm
    obtain rfl : r1 = r6 := congrArg Prod.fst (same_arg e1 e6)
    obtain ⟨h7, e7, e⟩ := ob1_some e
    obtain ⟨h8, e8, e⟩ := ob1_some e
    cases e
    refine NBR_trans (nb_add_3 e7 (fun l => Or.inl ?_)) (NBR_fr (w_f_X7_advance _ _ e8) (by decide) (by decide) (by decide))
    have k := q l
    have r := fb_rng r1
    have a := fb_addI (x := 10000) (y := r1) (by omega) (by omega)
    have b := fb_subI (x := 10000 + r1) (y := 29) (by omega) (by omega)
    omega
  unfold f_X2_readName_3 at e
  obtain ⟨r1, h1, e1, e⟩ := ob2_some e
  obtain rfl : h = h1 := (cp_kind_same e1).symm
  by_cases c : r1 < 35
  · rw [if_pos c] at e
    have d := gi_of_lt c
    exact tl h r1 e1 (fun _ => by omega) e
  · rw [if_neg c] at e
    by_cases c0 : eI h 5 2 = 0
    · rw [if_pos c0] at e
      have d := gi_of_eq c0
      exact tl h r1 e1 (fun _ => by omega) e
    · rw [if_neg c0] at e
      by_cases c1 : eI h 5 2 = 1
      · rw [if_pos c1] at e
        have d := gi_of_eq c1
        exact tl h r1 e1 (fun _ => by omega) e
      · rw [if_neg c1] at e
        obtain ⟨h5, e5, e⟩ := ob1_some e
        cases e
        exact NBR_fr (w_f_X2_fail _ _ _ e5) (by decide) (by decide) (by decide)
theorem nb_opens_3 {h : HS} {p : Int32} {z : Int32 × HS} (e : f_X2_opens h p = some z) : NBR 12 h z.2 := NBR_fr (w_f_X2_opens _ _ _ e) (by decide) (by decide) (by decide)
theorem nb_loop_3 {n : Nat} (ih3 : ∀ (l : Int32) (h h' : HS) (op : Int32), G_read_3 n 0 h l op = some h' → 0 ≤ l.toInt → l.toInt ≤ 5 → NBR 12 h h') {l op : Int32} (hl : 0 ≤ l.toInt ∧ l.toInt ≤ 4) {h' : HS} : ∀ (k : Nat) (h3 : HS) (x5 : Int32), f_X2_readLevel_3_42 (fun h p1 p2 => G_read_3 n 0 h p1 p2) (fun h p1 => G_read_3 n 1 h p1 0) (fun h p1 => G_read_3 n 2 h p1 0) k h3 l op x5 = some h' → NBR 12 h3 h' := by
  have z1 : (1 : Int32).toInt = 1 := rfl
  have z20000 : (20000 : Int32).toInt = 20000 := rfl
  have al := fb_addI (x := l) (y := 1) (by omega) (by omega)
  intro k
  induction k with
  | zero => intro h3 x5 e; cases e
  | succ k ihk =>
    intro h3 x5 e
    rw [f_X2_readLevel_3_42_s] at e
    unfold f_X2_readLevel_3_105 at e
    have stop : some h3 = some h' → NBR 12 h3 h' := by
      intro q
      cases q
      exact NBR_refl _ _
    by_cases c1 : (300 : Int32) ≤ x5
    · rw [if_pos c1] at e; exact stop e
    · rw [if_neg c1] at e
      by_cases p0 : eI h3 5 0 = 0
      · rw [if_pos p0] at e
        obtain ⟨r8, h8, e8, e⟩ := ob2_some e
        obtain rfl : h3 = h8 := (cp_kind_same e8).symm
        obtain ⟨r9, e9, e⟩ := ob1_some e
        have u9 := cp_levelOf e9
        by_cases c9 : r9 = l
        · rw [if_pos c9] at e
          have d9 := gi_of_eq c9
          obtain ⟨r11, h11, e11, e⟩ := ob2_some e
          obtain rfl : h3 = h11 := (cp_kind_same e11).symm
          obtain rfl : r8 = r11 := congrArg Prod.fst (same_arg e8 e11)
          obtain ⟨h12, e12, e⟩ := ob1_some e
          obtain ⟨h13, e13, e⟩ := ob1_some e
          obtain ⟨h14, e14, e⟩ := ob1_some e
          have sp := lv_spec r8.toInt
          have us := fb_addI (x := 20000) (y := r8) (by omega) (by omega)
          have s1 : NBR 12 h3 h12 := NBR_fr (w_f_X7_advance _ _ e12) (by decide) (by decide) (by decide)
          have s2 : NBR 12 h12 h13 := ih3 (l + 1) h12 h13 op e13 (by omega) (by omega)
          have s3 : NBR 12 h13 h14 := nb_add_3 e14 (fun _ => Or.inr (by omega))
          exact NBR_trans (NBR_trans s1 (NBR_trans s2 s3)) (ihk h14 (x5 + 1) e)
        · rw [if_neg c9] at e; exact stop e
      · rw [if_neg p0] at e; exact stop e
theorem nb_all_3 : ∀ n : Nat, (∀ (h h' : HS) (op : Int32), G_read_3 n 2 h op 0 = some h' → NBR 12 h h') ∧ (∀ (h h' : HS) (op : Int32), G_read_3 n 1 h op 0 = some h' → NBR 12 h h') ∧ (∀ (l : Int32) (h h' : HS) (op : Int32), G_read_3 n 0 h l op = some h' → 0 ≤ l.toInt → l.toInt ≤ 5 → NBR 12 h h') := by
  have z0 : (0 : Int32).toInt = 0 := rfl
  have z1 : (1 : Int32).toInt = 1 := rfl
  have z2 : (2 : Int32).toInt = 2 := rfl
  have z3 : (3 : Int32).toInt = 3 := rfl
  have z5 : (5 : Int32).toInt = 5 := rfl
  have z8 : (8 : Int32).toInt = 8 := rfl
  have z20000 : (20000 : Int32).toInt = 20000 := rfl
  intro n
  induction n with
  | zero =>
    refine ⟨?_, ?_, ?_⟩
    · intro h h' op e
      exact absurd e (by simp [G_read_3])
    · intro h h' op e
      exact absurd e (by simp [G_read_3])
    · intro l h h' op e
      exact absurd e (by simp [G_read_3])
  | succ n ih =>
    obtain ⟨ih1, ih2, ih3⟩ := ih
    refine ⟨?_, ?_, ?_⟩
    · intro h h' op e
      have e : f_X2_readOne_3_b (fun h p1 p2 => G_read_3 n 0 h p1 p2) (fun h p1 => G_read_3 n 1 h p1 0) (fun h p1 => G_read_3 n 2 h p1 0) h op = some h' := e
      unfold f_X2_readOne_3_b f_X2_readOne_3_121 at e
      obtain ⟨r1, h1, e1, e⟩ := ob2_some e
      obtain rfl : h = h1 := (cp_kind_same e1).symm
      have t44 : f_X2_readOne_3_44 (fun h p1 p2 => G_read_3 n 0 h p1 p2) (fun h p1 => G_read_3 n 1 h p1 0) (fun h p1 => G_read_3 n 2 h p1 0) h op r1 = some h' → NBR 12 h h' := by
        intro e
        unfold f_X2_readOne_3_44 f_X2_readOne_3_121 at e
        by_cases c13 : r1 = 13
        · rw [if_pos c13] at e
          obtain ⟨r14, h14, e14, e⟩ := ob2_some e
          have s1 : NBR 12 h h14 := nb_opens_3 e14
          by_cases c : r14 = 0
          · rw [if_pos c] at e; cases e; exact s1
          · rw [if_neg c] at e
            obtain ⟨h16, e16, e⟩ := ob1_some e
            obtain ⟨h17, e17, e⟩ := ob1_some e
            cases e
            exact NBR_trans s1 (NBR_trans (ih3 3 h14 h16 _ e16 (by omega) (by omega)) (NBR_fr (w_f_X2_expect _ _ _ e17) (by decide) (by decide) (by decide)))
        · rw [if_neg c13] at e
          by_cases c10 : r1 = 10
          · rw [if_pos c10] at e
            obtain ⟨r14, h14, e14, e⟩ := ob2_some e
            have s1 : NBR 12 h h14 := nb_opens_3 e14
            by_cases c : r14 = 0
            · rw [if_pos c] at e; cases e; exact s1
            · rw [if_neg c] at e
              obtain ⟨h16, e16, e⟩ := ob1_some e
              obtain ⟨h17, e17, e⟩ := ob1_some e
              cases e
              exact NBR_trans s1 (NBR_trans (ih1 h14 h16 _ e16) (nb_add_3 e17 (fun _ => Or.inr (by decide))))
          · rw [if_neg c10] at e
            obtain ⟨h9, e9, e⟩ := ob1_some e
            cases e
            exact NBR_fr (w_f_X2_fail _ _ _ e9) (by decide) (by decide) (by decide)
      by_cases c2 : r1 = 2
      · rw [if_pos c2] at e
        obtain ⟨h6, e6, e⟩ := ob1_some e
        cases e
        exact nb_value_3 e6
      · rw [if_neg c2] at e
        by_cases c29 : r1 < 29
        · rw [if_pos c29] at e; exact t44 e
        · rw [if_neg c29] at e
          by_cases c37 : (37 : Int32) < r1
          · rw [if_pos c37] at e; exact t44 e
          · rw [if_neg c37] at e
            obtain ⟨h5, e5, e⟩ := ob1_some e
            cases e
            exact nb_name_3 e5
    · intro h h' op e
      have e : f_X2_readAsk_3_b (fun h p1 p2 => G_read_3 n 0 h p1 p2) (fun h p1 => G_read_3 n 1 h p1 0) (fun h p1 => G_read_3 n 2 h p1 0) h op = some h' := e
      unfold f_X2_readAsk_3_b at e
      obtain ⟨r1, h1, e1, e⟩ := ob2_some e
      obtain rfl : h = h1 := (cp_kind_same e1).symm
      by_cases c28 : r1 = 28
      · rw [if_pos c28] at e
        obtain ⟨r7, h7, e7, e⟩ := ob2_some e
        have s1 : NBR 12 h h7 := nb_opens_3 e7
        by_cases c : r7 = 0
        · rw [if_pos c] at e
          unfold f_X2_readAsk_3_34 at e
          cases e
          exact s1
        · rw [if_neg c] at e
          obtain ⟨h9, e9, e⟩ := ob1_some e
          obtain ⟨h10, e10, e⟩ := ob1_some e
          unfold f_X2_readAsk_3_34 at e
          cases e
          exact NBR_trans s1 (NBR_trans (ih2 h7 h9 _ e9) (nb_add_3 e10 (fun _ => Or.inr (by decide))))
      · rw [if_neg c28] at e
        obtain ⟨h3, e3, e⟩ := ob1_some e
        have s1 : NBR 12 h h3 := ih3 3 h h3 op e3 (by omega) (by omega)
        obtain ⟨r4, h4, e4, e⟩ := ob2_some e
        obtain rfl : h3 = h4 := (cp_kind_same e4).symm
        have t62 : f_X2_readAsk_3_62 (fun h p1 p2 => G_read_3 n 0 h p1 p2) (fun h p1 => G_read_3 n 1 h p1 0) (fun h p1 => G_read_3 n 2 h p1 0) h3 op r4 = some h' → NBR 12 h3 h' := by
          intro e
          unfold f_X2_readAsk_3_62 at e
          obtain ⟨h5, e5, e⟩ := ob1_some e
          have nz := fail_nz e5 (by decide)
          unfold f_X2_readAsk_3_68 f_X2_readAsk_3_97 at e
          rw [if_neg nz] at e
          cases e
          exact NBR_fr (w_f_X2_fail _ _ _ e5) (by decide) (by decide) (by decide)
        by_cases c3 : r4 < 3
        · rw [if_pos c3] at e; exact NBR_trans s1 (t62 e)
        · rw [if_neg c3] at e
          have d3 := gi_of_nlt c3
          by_cases c8 : r4 ≤ 8
          · rw [if_pos c8] at e
            have d8 := gi_of_le c8
            unfold f_X2_readAsk_3_68 f_X2_readAsk_3_97 at e
            by_cases p0 : eI h3 5 0 = 0
            · rw [if_pos p0] at e
              obtain ⟨h13, e13, e⟩ := ob1_some e
              obtain ⟨h14, e14, e⟩ := ob1_some e
              obtain ⟨h15, e15, e⟩ := ob1_some e
              cases e
              have us := fb_addI (x := 20000) (y := r4) (by omega) (by omega)
              have s2 : NBR 12 h3 h13 := NBR_fr (w_f_X7_advance _ _ e13) (by decide) (by decide) (by decide)
              have s3 : NBR 12 h13 h14 := ih3 3 h13 h14 op e14 (by omega) (by omega)
              exact NBR_trans s1 (NBR_trans s2 (NBR_trans s3 (nb_add_3 e15 (fun _ => Or.inr (by omega)))))
            · rw [if_neg p0] at e
              cases e
              exact s1
          · rw [if_neg c8] at e; exact NBR_trans s1 (t62 e)
    · intro l h h' op e l0 l5
      have e : f_X2_readLevel_3_b (fun h p1 p2 => G_read_3 n 0 h p1 p2) (fun h p1 => G_read_3 n 1 h p1 0) (fun h p1 => G_read_3 n 2 h p1 0) h l op = some h' := e
      unfold f_X2_readLevel_3_b at e
      by_cases c2 : l = 2
      · rw [if_pos c2] at e
        obtain ⟨h5, e5, e⟩ := ob1_some e
        cases e
        exact ih2 h h' op e5
      · rw [if_neg c2] at e
        by_cases c5 : l = 5
        · rw [if_pos c5] at e
          obtain ⟨h5, e5, e⟩ := ob1_some e
          cases e
          exact ih1 h h' op e5
        · rw [if_neg c5] at e
          have d5 := gi_of_ne c5
          have al := fb_addI (x := l) (y := 1) (by omega) (by omega)
          obtain ⟨h3, e3, e⟩ := ob1_some e
          exact NBR_trans (ih3 (l + 1) h h3 op e3 (by omega) (by omega)) (nb_loop_3 ih3 ⟨l0, by omega⟩ _ h3 0 e)
/-! text 0: each law that stands is of one type -/
theorem CTk_0 {B : Int → Int} {L : Int} {P : Nat → Int} {S : CL} {h h' : HS} (t : CT B L P 9 h) (f : Fr S h h') (n1 : (0, 4, 3) ∉ S) (n2 : (0, 4, 4) ∉ S) (n3 : (1, 4, 0) ∉ S) (n4 : (1, 4, 1) ∉ S) (n5 : (1, 4, 2) ∉ S) (n6 : (0, 9, 5) ∉ S) : CT B L P 9 h' := by
  obtain ⟨t0, t1, t2, t3, t4, t5⟩ := t
  have a : at_ h' = at_ h := by unfold at_; rw [f.1 4 4 n2]
  refine ⟨t0, TE_fr t1 f n1 n3 n4 n5, by omega, by rw [f.1 4 3 n1]; omega, by rw [f.1 9 5 n6]; exact t4, by rw [f.1 9 5 n6, a]; exact t5⟩
theorem ct_expect_0 {B : Int → Int} {L : Int} {P : Nat → Int} {h h' : HS} {k : Int32} (t : CT B L P 9 h) (e : f_X2_expect h k = some h') (hk : ¬ k.toInt = 0) : CT B L P 9 h' := by
  unfold f_X2_expect f_X2_expect_29 at e
  by_cases c : eI h 5 0 = 0
  · rw [if_pos c] at e
    obtain ⟨r, h2, e2, e⟩ := ob2_some e
    obtain ⟨u1, u2⟩ := CT_kind t e2
    obtain rfl : h = h2 := u1.symm
    replace u2 : r.toInt = kd h := u2
    by_cases c2 : r = k
    · rw [if_pos c2] at e
      have d2 := gi_of_eq c2
      obtain ⟨h5, e5, e⟩ := ob1_some e
      cases e
      exact (CT_adv (by decide) t (by omega) e5).1
    · rw [if_neg c2] at e
      obtain ⟨h4, e4, e⟩ := ob1_some e
      cases e
      exact CTk_0 t (w_f_X2_fail _ _ _ e4) (by decide) (by decide) (by decide) (by decide) (by decide) (by decide)
  · rw [if_neg c] at e
    cases e
    exact t
theorem ct_number_0 {B : Int → Int} {L : Int} {P : Nat → Int} {h h' : HS} {f lo hi : Int32} (t : CT B L P 9 h) (e : f_X2_readNumber_0 h f lo hi = some h') : CT B L P 9 h' := by
  have z2 : (2 : Int32).toInt = 2 := rfl
  unfold f_X2_readNumber_0 f_X2_readNumber_0_69 at e
  have fl : ∀ (w : Int32) (y : HS), f_X2_fail h w = some y → CT B L P 9 y := fun w y ef => CTk_0 t (w_f_X2_fail _ _ _ ef) (by decide) (by decide) (by decide) (by decide) (by decide) (by decide)
  by_cases c : eI h 5 0 = 0
  · rw [if_pos c] at e
    obtain ⟨r, h2, e2, e⟩ := ob2_some e
    obtain ⟨u1, u2⟩ := CT_kind t e2
    obtain rfl : h = h2 := u1.symm
    replace u2 : r.toInt = kd h := u2
    have b43 : f_X2_readNumber_0_43 h = some h' → CT B L P 9 h' := by
      intro e
      unfold f_X2_readNumber_0_43 f_X2_readNumber_0_69 at e
      obtain ⟨h4, e4, e⟩ := ob1_some e
      cases e
      exact fl _ _ e4
    by_cases c2 : r = 2
    · rw [if_pos c2] at e
      have d2 := gi_of_eq c2
      obtain ⟨r4, h4, e4, e⟩ := ob2_some e
      obtain ⟨u3, -⟩ := CT_value t e4
      obtain rfl : h = h4 := u3.symm
      by_cases c4 : r4 < lo
      · rw [if_pos c4] at e; exact b43 e
      · rw [if_neg c4] at e
        obtain ⟨r6, h6, e6, e⟩ := ob2_some e
        obtain ⟨u5, -⟩ := CT_value t e6
        obtain rfl : h = h6 := u5.symm
        by_cases c6 : r6 ≤ hi
        · rw [if_pos c6] at e
          obtain ⟨r8, h8, e8, e⟩ := ob2_some e
          obtain ⟨u7, -⟩ := CT_value t e8
          obtain rfl : h = h8 := u7.symm
          obtain ⟨h9, e9, e⟩ := ob1_some e
          obtain ⟨h10, e10, e⟩ := ob1_some e
          cases e
          have f9 := w_f_X6_setClause_0 _ _ _ _ _ e9
          have k9 : kd h9 = kd h := by unfold kd; rw [f9.1 4 4 (by decide), f9.2.1 4 0 (by decide)]
          exact (CT_adv (by decide) (CTk_0 t f9 (by decide) (by decide) (by decide) (by decide) (by decide) (by decide)) (by omega) e10).1
        · rw [if_neg c6] at e; exact b43 e
    · rw [if_neg c2] at e
      obtain ⟨h4, e4, e⟩ := ob1_some e
      cases e
      exact fl _ _ e4
  · rw [if_neg c] at e
    cases e
    exact t
theorem ct_deed_0 {B : Int → Int} {L : Int} {P : Nat → Int} {h h' : HS} {p : Int32} (t : CT B L P 9 h) (e : f_X2_readDeed_0 h p = some h') : CT B L P 9 h' := by
  unfold f_X2_readDeed_0 f_X2_readDeed_0_90 at e
  by_cases c : p = 23
  · rw [if_pos c] at e
    obtain ⟨h1, e1, e⟩ := ob1_some e
    cases e
    exact ct_number_0 t e1
  · rw [if_neg c] at e
    obtain ⟨h2, e2, e⟩ := ob1_some e
    have t2 := ct_number_0 t e2
    by_cases c20 : p = 20
    · rw [if_pos c20] at e
      obtain ⟨h3, e3, e⟩ := ob1_some e
      obtain ⟨h4, e4, e⟩ := ob1_some e
      obtain ⟨h5, e5, e⟩ := ob1_some e
      obtain ⟨h6, e6, e⟩ := ob1_some e
      cases e
      exact ct_number_0 (ct_expect_0 (ct_number_0 (ct_expect_0 t2 e3 (by decide)) e4) e5 (by decide)) e6
    · rw [if_neg c20] at e
      by_cases c21 : p = 21
      · rw [if_pos c21] at e
        obtain ⟨h3, e3, e⟩ := ob1_some e
        obtain ⟨h4, e4, e⟩ := ob1_some e
        cases e
        exact ct_number_0 (ct_expect_0 t2 e3 (by decide)) e4
      · rw [if_neg c21] at e
        cases e
        exact t2
theorem TYL_fr_0 {S : CL} {h h' : HS} (x : TYL 9 h) (f : Fr S h h') (n1 : (1, 9, 2) ∉ S) (n2 : (1, 9, 3) ∉ S) (n3 : (1, 9, 4) ∉ S) (n4 : (0, 9, 5) ∉ S) : TYL 9 h' := by
  unfold TYL at *
  rw [f.2.1 9 2 n1, f.2.1 9 3 n2, f.2.1 9 4 n3, f.1 9 5 n4]
  exact x
theorem tcl_0 {B : Int → Int} {L : Int} {P : Nat → Int} {h h' : HS} (ct : CT B L P 9 h) (ty0 : TYL 9 h) (e : f_X2_readClause_0 h = some h') (fz : eI h' 5 0 = 0) : CT B L P 9 h' ∧ TYL 9 h' := by
  have z0 : (0 : Int32).toInt = 0 := rfl
  have z3 : (3 : Int32).toInt = 3 := rfl
  have z4 : (4 : Int32).toInt = 4 := rfl
  have z16 : (16 : Int32).toInt = 16 := rfl
  have z23 : (23 : Int32).toInt = 23 := rfl
  unfold f_X2_readClause_0 f_X2_readClause_0_158 at e
  obtain ⟨r1, h1, e1, e⟩ := ob2_some e
  obtain ⟨q1, q2⟩ := CT_kind ct e1
  obtain rfl : h = h1 := q1.symm
  replace q2 : r1.toInt = kd h := q2
  have no25 : f_X2_readClause_0_25 (sI h 5 2 (r1 - 16)) = some h' → False := by
    intro e
    unfold f_X2_readClause_0_25 f_X2_readClause_0_158 at e
    obtain ⟨h5, e5, e⟩ := ob1_some e
    cases e
    exact fail_nz e5 (by decide) fz
  have end141 : ∀ (hD : HS), CT B L P 9 hD → TYL 9 hD → f_X2_readClause_0_141 hD = some h' → CT B L P 9 h' ∧ TYL 9 h' := by
    intro hD cD yD e
    unfold f_X2_readClause_0_141 f_X2_readClause_0_158 at e
    obtain ⟨h6, e6, e⟩ := ob1_some e
    have eh' : h' = sI h6 9 1 (eI h6 9 1 + 1) := (Option.some.inj e).symm
    have f' : Fr [(0, 9, 1)] h6 h' := by rw [eh']; exact Fr_sI (by decide) (Fr_refl _ _)
    have fx := w_f_X2_expect _ _ _ e6
    exact ⟨CTk_0 (ct_expect_0 cD e6 (by decide)) f' (by decide) (by decide) (by decide) (by decide) (by decide) (by decide), TYL_fr_0 (TYL_fr_0 yD fx (by decide) (by decide) (by decide) (by decide)) f' (by decide) (by decide) (by decide) (by decide)⟩
  have fk : Fr [(0, 5, 2)] h (sI h 5 2 (r1 - 16)) := Fr_sI (by decide) (Fr_refl _ _)
  by_cases c16 : r1 < 16
  · rw [if_pos c16] at e; exact absurd e no25
  · rw [if_neg c16] at e
    have d16 := gi_of_nlt c16
    by_cases c23 : r1 ≤ 23
    · rw [if_pos c23] at e
      have d23 := gi_of_le c23
      have hw := fb_subI (x := r1) (y := 16) (by omega) (by omega)
      obtain ⟨r4, h4, e4, e⟩ := ob2_some e
      obtain ⟨u1, -⟩ := cp_hasLaw_0 e4 (by omega)
      replace u1 : h4 = sI h 5 2 (r1 - 16) := u1
      subst u1
      by_cases c4 : r4 = 0
      · rw [if_pos c4] at e
        by_cases c24 : eI (sI h 5 2 (r1 - 16)) 9 1 < 24
        · rw [if_pos c24] at e
          obtain ⟨h7, e7, e⟩ := ob1_some e
          obtain ⟨h8, e8, e⟩ := ob1_some e
          have f7 := w_f_X6_setClause_0 _ _ _ _ _ e7
          have c7 : CT B L P 9 h7 := CTk_0 (CTk_0 ct fk (by decide) (by decide) (by decide) (by decide) (by decide) (by decide)) f7 (by decide) (by decide) (by decide) (by decide) (by decide) (by decide)
          have y7 : TYL 9 h7 := TYL_fr_0 (TYL_fr_0 ty0 fk (by decide) (by decide) (by decide) (by decide)) f7 (by decide) (by decide) (by decide) (by decide)
          have k7 : kd h7 = kd h := by unfold kd; rw [f7.1 4 4 (by decide), f7.2.1 4 0 (by decide)]; rfl
          have a8 := CT_adv (by decide) c7 (by omega) e8
          have f8 := w_f_X7_advance _ _ e8
          have y8 : TYL 9 h8 := TYL_fr_0 y7 f8 (by decide) (by decide) (by decide) (by decide)
          have h852 : eI h8 5 2 = r1 - 16 := by rw [f8.1 5 2 (by decide), f7.1 5 2 (by decide)]; rfl
          rw [h852] at e
          by_cases c5 : (4 : Int32) ≤ r1 - 16
          · rw [if_pos c5] at e
            obtain ⟨h10, e10, e⟩ := ob1_some e
            have fd := w_f_X2_readDeed_0 _ _ _ e10
            exact end141 h10 (ct_deed_0 a8.1 e10) (TYL_fr_0 y8 fd (by decide) (by decide) (by decide) (by decide)) e
          · rw [if_neg c5] at e
            have d5 := gi_of_nle c5
            obtain ⟨h11, e11, e⟩ := ob1_some e
            have eh11 := cp_beginLaw_0 e11 (by omega) (by omega)
            have f11 : Fr [(1, 9, 3)] h8 h11 := by rw [eh11]; exact Fr_sA (by decide) (Fr_refl _ _)
            have c11 : CT B L P 9 h11 := CTk_0 a8.1 f11 (by decide) (by decide) (by decide) (by decide) (by decide) (by decide)
            have h1152 : eI h11 5 2 = r1 - 16 := (f11.1 5 2 (by decide)).trans h852
            have s11 : eI h11 9 5 = eI h8 9 5 := f11.1 9 5 (by decide)
            have law : ∀ (lvl : Int32), f_X2_readClause_0_119 h11 lvl = some h' → (lvl = 0 ∨ lvl = 3) → decide (lvl.toInt ≤ 2) = decide ((r1 - 16).toInt.toNat = 3) → CT B L P 9 h' ∧ TYL 9 h' := by
              intro lvl e hl hb
              unfold f_X2_readClause_0_119 at e
              obtain ⟨h17, e17, e⟩ := ob1_some e
              obtain ⟨h18, e18, e⟩ := ob1_some e
              have f17 : eI h17 5 0 = 0 := by
                have k141 := kf_f_X2_readClause_0_141 _ _ e fz
                have f18 := w_f_X6_closeLaw_0 _ _ _ e18
                rw [← f18.1 5 0 (by decide)]; exact k141
              obtain ⟨w1, w2⟩ := (types_0 B L P 200).2.2 lvl h11 h17 0 e17 (by rcases hl with q | q <;> (rw [q]; decide)) (by rcases hl with q | q <;> (rw [q]; decide)) c11 (by decide) (by decide) f17
              have fr17 : Fr S_read_0 h11 h17 := w_G_read_0 _ _ _ _ _ _ e17
              have h52 : eI h17 5 2 = r1 - 16 := (fr17.1 5 2 (by decide)).trans h1152
              rw [h52] at e18
              have eh18 := cp_closeLaw_0 e18 (by omega) (by omega)
              have f18 : Fr [(1, 9, 4)] h17 h18 := by rw [eh18]; exact Fr_sA (by decide) (Fr_refl _ _)
              refine end141 h18 (CTk_0 w1 f18 (by decide) (by decide) (by decide) (by decide) (by decide) (by decide)) ?_ e
              obtain ⟨x1, x2, x3, x4⟩ := w2
              have S3 : eA h18 9 3 = upd (eA h8 9 3) (r1 - 16).toInt.toNat (eI h8 9 5) := by
                rw [f18.2.1 9 3 (by decide), fr17.2.1 9 3 (by decide), eh11]; rfl
              have S4 : eA h18 9 4 = upd (eA h8 9 4) (r1 - 16).toInt.toNat (eI h17 9 5) := by
                rw [eh18]
                show upd (eA h17 9 4) _ _ = _
                rw [fr17.2.1 9 4 (by decide), f11.2.1 9 4 (by decide)]
              have S2 : eA h18 9 2 = eA h17 9 2 := f18.2.1 9 2 (by decide)
              have S5 : eI h18 9 5 = eI h17 9 5 := f18.1 9 5 (by decide)
              have st8 : eA h11 9 2 = eA h8 9 2 := f11.2.1 9 2 (by decide)
              rw [s11] at x1 x3 x4
              rw [st8] at x3
              have n8 : 0 ≤ (eI h8 9 5).toInt := a8.1.2.2.2.2.1
              intro w hw nw
              rw [S3] at nw ⊢
              rw [S4, S2, S5]
              unfold upd at nw ⊢
              by_cases cw : w = (r1 - 16).toInt.toNat
              · rw [if_pos cw, if_pos cw]
                refine ⟨n8, x1, Int.le_refl _, ?_, fun w2 i i1 i2 => ?_⟩
                · rw [x4 [] 22 (by rcases hl with q | q <;> (rw [q]; decide)), cw]
                  rw [hb]
                · have nb := (nb_all_0 200).2.2 lvl h11 h17 0 e17 (by rcases hl with q | q <;> (rw [q]; decide)) (by rcases hl with q | q <;> (rw [q]; decide))
                  exact nb.2 (by rw [h1152]; omega) (eI h8 9 5).toInt (fun k k1 k2 => by rw [s11] at k2; omega) i i1 i2
              · rw [if_neg cw] at nw
                rw [if_neg cw, if_neg cw]
                obtain ⟨v1, v2, v3, v4, v5⟩ := y8 w hw nw
                refine ⟨v1, v2, by omega, ?_, fun w2 i i1 i2 => ?_⟩
                · rw [ty_congr (a := eA h8 9 2) _ _ _ (fun j j1 j2 => x3 j (by omega))]
                  exact v4
                · rw [x3 i (by omega)]
                  exact v5 w2 i i1 i2
            rw [h1152] at e
            by_cases c3 : r1 - 16 = 3
            · rw [if_pos c3] at e
              refine law 0 e (Or.inl rfl) ?_
              rw [c3]; decide
            · rw [if_neg c3] at e
              refine law 3 e (Or.inr rfl) ?_
              have d3 := gi_of_ne c3
              rw [decide_eq_false (show ¬ (3 : Int32).toInt ≤ 2 by decide), decide_eq_false (by omega)]
        · rw [if_neg c24] at e
          obtain ⟨h13, e13, e⟩ := ob1_some e
          cases e
          exact absurd fz (fail_nz e13 (by decide))
      · rw [if_neg c4] at e
        obtain ⟨h14, e14, e⟩ := ob1_some e
        cases e
        exact absurd fz (fail_nz e14 (by decide))
    · rw [if_neg c23] at e; exact absurd e no25
/-! text 0: the whole text -/
theorem typ_loop_0 {B : Int → Int} {L : Int} {P : Nat → Int} {h' : HS} (fz : eI h' 5 0 = 0) : ∀ (n : Nat) (h : HS) (x3 : Int32), f_X2_parse_0_16 n h x3 = some h' → (eI h 5 0 = 0 → CT B L P 9 h ∧ TYL 9 h) → TYL 9 h' := by
  intro n
  induction n with
  | zero => intro h x3 e; cases e
  | succ n ih =>
    intro h x3 e i
    rw [f_X2_parse_0_16_s] at e
    unfold f_X2_parse_0_48 at e
    have stop : some h = some h' → TYL 9 h' := by
      intro q
      cases q
      exact (i fz).2
    by_cases c : (24 : Int32) < x3
    · rw [if_pos c] at e; exact stop e
    · rw [if_neg c] at e
      by_cases p0 : eI h 5 0 = 0
      · rw [if_pos p0] at e
        obtain ⟨r4, h4, e4, e⟩ := ob2_some e
        obtain rfl : h = h4 := (cp_kind_same e4).symm
        by_cases c4 : r4 = 0
        · rw [if_pos c4] at e; exact stop e
        · rw [if_neg c4] at e
          obtain ⟨h6, e6, e⟩ := ob1_some e
          exact ih h6 (x3 + 1) e (fun q => tcl_0 (i p0).1 (i p0).2 e6 q)
      · rw [if_neg p0] at e; exact stop e
theorem typ_text_0 {h h3 h4 : HS} (hL0 : 0 ≤ cL h) (hL : cL h ≤ 300) (e3 : f_X7_split h = some h3) (e4 : f_X2_parse_0 h3 = some h4) (fz : eI h4 5 0 = 0) : TYL 9 h4 := by
  have z0 : (0 : Int32).toInt = 0 := rfl
  obtain ⟨P, te, at0⟩ := cx_split e3 hL0 hL
  unfold f_X2_parse_0 at e4
  obtain ⟨h1, e1, e4⟩ := ob1_some e4
  unfold f_X6_clear_0 at e1
  obtain ⟨cl1, cl2⟩ := cp_clear_0 _ _ h1 0 e1 (by decide) (fun w hw => by omega)
  have f1 : Fr [(0, 5, 0), (0, 5, 1), (0, 9, 1), (0, 9, 5), (1, 9, 3), (1, 9, 4)] h3 h1 := Fr_trans (Fr_sI (by decide) (Fr_sI (by decide) (Fr_sI (by decide) (Fr_sI (by decide) (Fr_refl _ _))))) (Fr_mono (by decide) cl2)
  have c5 : eI h1 9 5 = 0 := cl2.1 9 5 (by decide)
  have te1 : TE (cB h) (cL h) h1 P := TE_fr te f1 (by decide) (by decide) (by decide) (by decide)
  have a1 : eI h1 4 4 = 0 := (f1.1 4 4 (by decide)).trans at0
  have p := te1.2.1
  refine typ_loop_0 (B := cB h) (L := cL h) (P := P) fz _ h1 0 e4 (fun _ => ⟨⟨hL, te1, ?_, ?_, ?_, ?_⟩, fun w hw nw => absurd (cl1 w hw) nw⟩)
  · unfold at_; rw [a1]; decide
  · unfold at_; rw [a1]; omega
  · rw [c5]; decide
  · unfold at_; rw [a1, c5]; decide
/-! text 1: each law that stands is of one type -/
theorem CTk_1 {B : Int → Int} {L : Int} {P : Nat → Int} {S : CL} {h h' : HS} (t : CT B L P 10 h) (f : Fr S h h') (n1 : (0, 4, 3) ∉ S) (n2 : (0, 4, 4) ∉ S) (n3 : (1, 4, 0) ∉ S) (n4 : (1, 4, 1) ∉ S) (n5 : (1, 4, 2) ∉ S) (n6 : (0, 10, 5) ∉ S) : CT B L P 10 h' := by
  obtain ⟨t0, t1, t2, t3, t4, t5⟩ := t
  have a : at_ h' = at_ h := by unfold at_; rw [f.1 4 4 n2]
  refine ⟨t0, TE_fr t1 f n1 n3 n4 n5, by omega, by rw [f.1 4 3 n1]; omega, by rw [f.1 10 5 n6]; exact t4, by rw [f.1 10 5 n6, a]; exact t5⟩
theorem ct_expect_1 {B : Int → Int} {L : Int} {P : Nat → Int} {h h' : HS} {k : Int32} (t : CT B L P 10 h) (e : f_X2_expect h k = some h') (hk : ¬ k.toInt = 0) : CT B L P 10 h' := by
  unfold f_X2_expect f_X2_expect_29 at e
  by_cases c : eI h 5 0 = 0
  · rw [if_pos c] at e
    obtain ⟨r, h2, e2, e⟩ := ob2_some e
    obtain ⟨u1, u2⟩ := CT_kind t e2
    obtain rfl : h = h2 := u1.symm
    replace u2 : r.toInt = kd h := u2
    by_cases c2 : r = k
    · rw [if_pos c2] at e
      have d2 := gi_of_eq c2
      obtain ⟨h5, e5, e⟩ := ob1_some e
      cases e
      exact (CT_adv (by decide) t (by omega) e5).1
    · rw [if_neg c2] at e
      obtain ⟨h4, e4, e⟩ := ob1_some e
      cases e
      exact CTk_1 t (w_f_X2_fail _ _ _ e4) (by decide) (by decide) (by decide) (by decide) (by decide) (by decide)
  · rw [if_neg c] at e
    cases e
    exact t
theorem ct_number_1 {B : Int → Int} {L : Int} {P : Nat → Int} {h h' : HS} {f lo hi : Int32} (t : CT B L P 10 h) (e : f_X2_readNumber_1 h f lo hi = some h') : CT B L P 10 h' := by
  have z2 : (2 : Int32).toInt = 2 := rfl
  unfold f_X2_readNumber_1 f_X2_readNumber_1_69 at e
  have fl : ∀ (w : Int32) (y : HS), f_X2_fail h w = some y → CT B L P 10 y := fun w y ef => CTk_1 t (w_f_X2_fail _ _ _ ef) (by decide) (by decide) (by decide) (by decide) (by decide) (by decide)
  by_cases c : eI h 5 0 = 0
  · rw [if_pos c] at e
    obtain ⟨r, h2, e2, e⟩ := ob2_some e
    obtain ⟨u1, u2⟩ := CT_kind t e2
    obtain rfl : h = h2 := u1.symm
    replace u2 : r.toInt = kd h := u2
    have b43 : f_X2_readNumber_1_43 h = some h' → CT B L P 10 h' := by
      intro e
      unfold f_X2_readNumber_1_43 f_X2_readNumber_1_69 at e
      obtain ⟨h4, e4, e⟩ := ob1_some e
      cases e
      exact fl _ _ e4
    by_cases c2 : r = 2
    · rw [if_pos c2] at e
      have d2 := gi_of_eq c2
      obtain ⟨r4, h4, e4, e⟩ := ob2_some e
      obtain ⟨u3, -⟩ := CT_value t e4
      obtain rfl : h = h4 := u3.symm
      by_cases c4 : r4 < lo
      · rw [if_pos c4] at e; exact b43 e
      · rw [if_neg c4] at e
        obtain ⟨r6, h6, e6, e⟩ := ob2_some e
        obtain ⟨u5, -⟩ := CT_value t e6
        obtain rfl : h = h6 := u5.symm
        by_cases c6 : r6 ≤ hi
        · rw [if_pos c6] at e
          obtain ⟨r8, h8, e8, e⟩ := ob2_some e
          obtain ⟨u7, -⟩ := CT_value t e8
          obtain rfl : h = h8 := u7.symm
          obtain ⟨h9, e9, e⟩ := ob1_some e
          obtain ⟨h10, e10, e⟩ := ob1_some e
          cases e
          have f9 := w_f_X6_setClause_1 _ _ _ _ _ e9
          have k9 : kd h9 = kd h := by unfold kd; rw [f9.1 4 4 (by decide), f9.2.1 4 0 (by decide)]
          exact (CT_adv (by decide) (CTk_1 t f9 (by decide) (by decide) (by decide) (by decide) (by decide) (by decide)) (by omega) e10).1
        · rw [if_neg c6] at e; exact b43 e
    · rw [if_neg c2] at e
      obtain ⟨h4, e4, e⟩ := ob1_some e
      cases e
      exact fl _ _ e4
  · rw [if_neg c] at e
    cases e
    exact t
theorem ct_deed_1 {B : Int → Int} {L : Int} {P : Nat → Int} {h h' : HS} {p : Int32} (t : CT B L P 10 h) (e : f_X2_readDeed_1 h p = some h') : CT B L P 10 h' := by
  unfold f_X2_readDeed_1 f_X2_readDeed_1_90 at e
  by_cases c : p = 23
  · rw [if_pos c] at e
    obtain ⟨h1, e1, e⟩ := ob1_some e
    cases e
    exact ct_number_1 t e1
  · rw [if_neg c] at e
    obtain ⟨h2, e2, e⟩ := ob1_some e
    have t2 := ct_number_1 t e2
    by_cases c20 : p = 20
    · rw [if_pos c20] at e
      obtain ⟨h3, e3, e⟩ := ob1_some e
      obtain ⟨h4, e4, e⟩ := ob1_some e
      obtain ⟨h5, e5, e⟩ := ob1_some e
      obtain ⟨h6, e6, e⟩ := ob1_some e
      cases e
      exact ct_number_1 (ct_expect_1 (ct_number_1 (ct_expect_1 t2 e3 (by decide)) e4) e5 (by decide)) e6
    · rw [if_neg c20] at e
      by_cases c21 : p = 21
      · rw [if_pos c21] at e
        obtain ⟨h3, e3, e⟩ := ob1_some e
        obtain ⟨h4, e4, e⟩ := ob1_some e
        cases e
        exact ct_number_1 (ct_expect_1 t2 e3 (by decide)) e4
      · rw [if_neg c21] at e
        cases e
        exact t2
theorem TYL_fr_1 {S : CL} {h h' : HS} (x : TYL 10 h) (f : Fr S h h') (n1 : (1, 10, 2) ∉ S) (n2 : (1, 10, 3) ∉ S) (n3 : (1, 10, 4) ∉ S) (n4 : (0, 10, 5) ∉ S) : TYL 10 h' := by
  unfold TYL at *
  rw [f.2.1 10 2 n1, f.2.1 10 3 n2, f.2.1 10 4 n3, f.1 10 5 n4]
  exact x
theorem tcl_1 {B : Int → Int} {L : Int} {P : Nat → Int} {h h' : HS} (ct : CT B L P 10 h) (ty0 : TYL 10 h) (e : f_X2_readClause_1 h = some h') (fz : eI h' 5 0 = 0) : CT B L P 10 h' ∧ TYL 10 h' := by
  have z0 : (0 : Int32).toInt = 0 := rfl
  have z3 : (3 : Int32).toInt = 3 := rfl
  have z4 : (4 : Int32).toInt = 4 := rfl
  have z16 : (16 : Int32).toInt = 16 := rfl
  have z23 : (23 : Int32).toInt = 23 := rfl
  unfold f_X2_readClause_1 f_X2_readClause_1_158 at e
  obtain ⟨r1, h1, e1, e⟩ := ob2_some e
  obtain ⟨q1, q2⟩ := CT_kind ct e1
  obtain rfl : h = h1 := q1.symm
  replace q2 : r1.toInt = kd h := q2
  have no25 : f_X2_readClause_1_25 (sI h 5 2 (r1 - 16)) = some h' → False := by
    intro e
    unfold f_X2_readClause_1_25 f_X2_readClause_1_158 at e
    obtain ⟨h5, e5, e⟩ := ob1_some e
    cases e
    exact fail_nz e5 (by decide) fz
  have end141 : ∀ (hD : HS), CT B L P 10 hD → TYL 10 hD → f_X2_readClause_1_141 hD = some h' → CT B L P 10 h' ∧ TYL 10 h' := by
    intro hD cD yD e
    unfold f_X2_readClause_1_141 f_X2_readClause_1_158 at e
    obtain ⟨h6, e6, e⟩ := ob1_some e
    have eh' : h' = sI h6 10 1 (eI h6 10 1 + 1) := (Option.some.inj e).symm
    have f' : Fr [(0, 10, 1)] h6 h' := by rw [eh']; exact Fr_sI (by decide) (Fr_refl _ _)
    have fx := w_f_X2_expect _ _ _ e6
    exact ⟨CTk_1 (ct_expect_1 cD e6 (by decide)) f' (by decide) (by decide) (by decide) (by decide) (by decide) (by decide), TYL_fr_1 (TYL_fr_1 yD fx (by decide) (by decide) (by decide) (by decide)) f' (by decide) (by decide) (by decide) (by decide)⟩
  have fk : Fr [(0, 5, 2)] h (sI h 5 2 (r1 - 16)) := Fr_sI (by decide) (Fr_refl _ _)
  by_cases c16 : r1 < 16
  · rw [if_pos c16] at e; exact absurd e no25
  · rw [if_neg c16] at e
    have d16 := gi_of_nlt c16
    by_cases c23 : r1 ≤ 23
    · rw [if_pos c23] at e
      have d23 := gi_of_le c23
      have hw := fb_subI (x := r1) (y := 16) (by omega) (by omega)
      obtain ⟨r4, h4, e4, e⟩ := ob2_some e
      obtain ⟨u1, -⟩ := cp_hasLaw_1 e4 (by omega)
      replace u1 : h4 = sI h 5 2 (r1 - 16) := u1
      subst u1
      by_cases c4 : r4 = 0
      · rw [if_pos c4] at e
        by_cases c24 : eI (sI h 5 2 (r1 - 16)) 10 1 < 24
        · rw [if_pos c24] at e
          obtain ⟨h7, e7, e⟩ := ob1_some e
          obtain ⟨h8, e8, e⟩ := ob1_some e
          have f7 := w_f_X6_setClause_1 _ _ _ _ _ e7
          have c7 : CT B L P 10 h7 := CTk_1 (CTk_1 ct fk (by decide) (by decide) (by decide) (by decide) (by decide) (by decide)) f7 (by decide) (by decide) (by decide) (by decide) (by decide) (by decide)
          have y7 : TYL 10 h7 := TYL_fr_1 (TYL_fr_1 ty0 fk (by decide) (by decide) (by decide) (by decide)) f7 (by decide) (by decide) (by decide) (by decide)
          have k7 : kd h7 = kd h := by unfold kd; rw [f7.1 4 4 (by decide), f7.2.1 4 0 (by decide)]; rfl
          have a8 := CT_adv (by decide) c7 (by omega) e8
          have f8 := w_f_X7_advance _ _ e8
          have y8 : TYL 10 h8 := TYL_fr_1 y7 f8 (by decide) (by decide) (by decide) (by decide)
          have h852 : eI h8 5 2 = r1 - 16 := by rw [f8.1 5 2 (by decide), f7.1 5 2 (by decide)]; rfl
          rw [h852] at e
          by_cases c5 : (4 : Int32) ≤ r1 - 16
          · rw [if_pos c5] at e
            obtain ⟨h10, e10, e⟩ := ob1_some e
            have fd := w_f_X2_readDeed_1 _ _ _ e10
            exact end141 h10 (ct_deed_1 a8.1 e10) (TYL_fr_1 y8 fd (by decide) (by decide) (by decide) (by decide)) e
          · rw [if_neg c5] at e
            have d5 := gi_of_nle c5
            obtain ⟨h11, e11, e⟩ := ob1_some e
            have eh11 := cp_beginLaw_1 e11 (by omega) (by omega)
            have f11 : Fr [(1, 10, 3)] h8 h11 := by rw [eh11]; exact Fr_sA (by decide) (Fr_refl _ _)
            have c11 : CT B L P 10 h11 := CTk_1 a8.1 f11 (by decide) (by decide) (by decide) (by decide) (by decide) (by decide)
            have h1152 : eI h11 5 2 = r1 - 16 := (f11.1 5 2 (by decide)).trans h852
            have s11 : eI h11 10 5 = eI h8 10 5 := f11.1 10 5 (by decide)
            have law : ∀ (lvl : Int32), f_X2_readClause_1_119 h11 lvl = some h' → (lvl = 0 ∨ lvl = 3) → decide (lvl.toInt ≤ 2) = decide ((r1 - 16).toInt.toNat = 3) → CT B L P 10 h' ∧ TYL 10 h' := by
              intro lvl e hl hb
              unfold f_X2_readClause_1_119 at e
              obtain ⟨h17, e17, e⟩ := ob1_some e
              obtain ⟨h18, e18, e⟩ := ob1_some e
              have f17 : eI h17 5 0 = 0 := by
                have k141 := kf_f_X2_readClause_1_141 _ _ e fz
                have f18 := w_f_X6_closeLaw_1 _ _ _ e18
                rw [← f18.1 5 0 (by decide)]; exact k141
              obtain ⟨w1, w2⟩ := (types_1 B L P 200).2.2 lvl h11 h17 0 e17 (by rcases hl with q | q <;> (rw [q]; decide)) (by rcases hl with q | q <;> (rw [q]; decide)) c11 (by decide) (by decide) f17
              have fr17 : Fr S_read_1 h11 h17 := w_G_read_1 _ _ _ _ _ _ e17
              have h52 : eI h17 5 2 = r1 - 16 := (fr17.1 5 2 (by decide)).trans h1152
              rw [h52] at e18
              have eh18 := cp_closeLaw_1 e18 (by omega) (by omega)
              have f18 : Fr [(1, 10, 4)] h17 h18 := by rw [eh18]; exact Fr_sA (by decide) (Fr_refl _ _)
              refine end141 h18 (CTk_1 w1 f18 (by decide) (by decide) (by decide) (by decide) (by decide) (by decide)) ?_ e
              obtain ⟨x1, x2, x3, x4⟩ := w2
              have S3 : eA h18 10 3 = upd (eA h8 10 3) (r1 - 16).toInt.toNat (eI h8 10 5) := by
                rw [f18.2.1 10 3 (by decide), fr17.2.1 10 3 (by decide), eh11]; rfl
              have S4 : eA h18 10 4 = upd (eA h8 10 4) (r1 - 16).toInt.toNat (eI h17 10 5) := by
                rw [eh18]
                show upd (eA h17 10 4) _ _ = _
                rw [fr17.2.1 10 4 (by decide), f11.2.1 10 4 (by decide)]
              have S2 : eA h18 10 2 = eA h17 10 2 := f18.2.1 10 2 (by decide)
              have S5 : eI h18 10 5 = eI h17 10 5 := f18.1 10 5 (by decide)
              have st8 : eA h11 10 2 = eA h8 10 2 := f11.2.1 10 2 (by decide)
              rw [s11] at x1 x3 x4
              rw [st8] at x3
              have n8 : 0 ≤ (eI h8 10 5).toInt := a8.1.2.2.2.2.1
              intro w hw nw
              rw [S3] at nw ⊢
              rw [S4, S2, S5]
              unfold upd at nw ⊢
              by_cases cw : w = (r1 - 16).toInt.toNat
              · rw [if_pos cw, if_pos cw]
                refine ⟨n8, x1, Int.le_refl _, ?_, fun w2 i i1 i2 => ?_⟩
                · rw [x4 [] 22 (by rcases hl with q | q <;> (rw [q]; decide)), cw]
                  rw [hb]
                · have nb := (nb_all_1 200).2.2 lvl h11 h17 0 e17 (by rcases hl with q | q <;> (rw [q]; decide)) (by rcases hl with q | q <;> (rw [q]; decide))
                  exact nb.2 (by rw [h1152]; omega) (eI h8 10 5).toInt (fun k k1 k2 => by rw [s11] at k2; omega) i i1 i2
              · rw [if_neg cw] at nw
                rw [if_neg cw, if_neg cw]
                obtain ⟨v1, v2, v3, v4, v5⟩ := y8 w hw nw
                refine ⟨v1, v2, by omega, ?_, fun w2 i i1 i2 => ?_⟩
                · rw [ty_congr (a := eA h8 10 2) _ _ _ (fun j j1 j2 => x3 j (by omega))]
                  exact v4
                · rw [x3 i (by omega)]
                  exact v5 w2 i i1 i2
            rw [h1152] at e
            by_cases c3 : r1 - 16 = 3
            · rw [if_pos c3] at e
              refine law 0 e (Or.inl rfl) ?_
              rw [c3]; decide
            · rw [if_neg c3] at e
              refine law 3 e (Or.inr rfl) ?_
              have d3 := gi_of_ne c3
              rw [decide_eq_false (show ¬ (3 : Int32).toInt ≤ 2 by decide), decide_eq_false (by omega)]
        · rw [if_neg c24] at e
          obtain ⟨h13, e13, e⟩ := ob1_some e
          cases e
          exact absurd fz (fail_nz e13 (by decide))
      · rw [if_neg c4] at e
        obtain ⟨h14, e14, e⟩ := ob1_some e
        cases e
        exact absurd fz (fail_nz e14 (by decide))
    · rw [if_neg c23] at e; exact absurd e no25
/-! text 1: the whole text -/
theorem typ_loop_1 {B : Int → Int} {L : Int} {P : Nat → Int} {h' : HS} (fz : eI h' 5 0 = 0) : ∀ (n : Nat) (h : HS) (x3 : Int32), f_X2_parse_1_16 n h x3 = some h' → (eI h 5 0 = 0 → CT B L P 10 h ∧ TYL 10 h) → TYL 10 h' := by
  intro n
  induction n with
  | zero => intro h x3 e; cases e
  | succ n ih =>
    intro h x3 e i
    rw [f_X2_parse_1_16_s] at e
    unfold f_X2_parse_1_48 at e
    have stop : some h = some h' → TYL 10 h' := by
      intro q
      cases q
      exact (i fz).2
    by_cases c : (24 : Int32) < x3
    · rw [if_pos c] at e; exact stop e
    · rw [if_neg c] at e
      by_cases p0 : eI h 5 0 = 0
      · rw [if_pos p0] at e
        obtain ⟨r4, h4, e4, e⟩ := ob2_some e
        obtain rfl : h = h4 := (cp_kind_same e4).symm
        by_cases c4 : r4 = 0
        · rw [if_pos c4] at e; exact stop e
        · rw [if_neg c4] at e
          obtain ⟨h6, e6, e⟩ := ob1_some e
          exact ih h6 (x3 + 1) e (fun q => tcl_1 (i p0).1 (i p0).2 e6 q)
      · rw [if_neg p0] at e; exact stop e
theorem typ_text_1 {h h3 h4 : HS} (hL0 : 0 ≤ cL h) (hL : cL h ≤ 300) (e3 : f_X7_split h = some h3) (e4 : f_X2_parse_1 h3 = some h4) (fz : eI h4 5 0 = 0) : TYL 10 h4 := by
  have z0 : (0 : Int32).toInt = 0 := rfl
  obtain ⟨P, te, at0⟩ := cx_split e3 hL0 hL
  unfold f_X2_parse_1 at e4
  obtain ⟨h1, e1, e4⟩ := ob1_some e4
  unfold f_X6_clear_1 at e1
  obtain ⟨cl1, cl2⟩ := cp_clear_1 _ _ h1 0 e1 (by decide) (fun w hw => by omega)
  have f1 : Fr [(0, 5, 0), (0, 5, 1), (0, 10, 1), (0, 10, 5), (1, 10, 3), (1, 10, 4)] h3 h1 := Fr_trans (Fr_sI (by decide) (Fr_sI (by decide) (Fr_sI (by decide) (Fr_sI (by decide) (Fr_refl _ _))))) (Fr_mono (by decide) cl2)
  have c5 : eI h1 10 5 = 0 := cl2.1 10 5 (by decide)
  have te1 : TE (cB h) (cL h) h1 P := TE_fr te f1 (by decide) (by decide) (by decide) (by decide)
  have a1 : eI h1 4 4 = 0 := (f1.1 4 4 (by decide)).trans at0
  have p := te1.2.1
  refine typ_loop_1 (B := cB h) (L := cL h) (P := P) fz _ h1 0 e4 (fun _ => ⟨⟨hL, te1, ?_, ?_, ?_, ?_⟩, fun w hw nw => absurd (cl1 w hw) nw⟩)
  · unfold at_; rw [a1]; decide
  · unfold at_; rw [a1]; omega
  · rw [c5]; decide
  · unfold at_; rw [a1, c5]; decide
/-! text 2: each law that stands is of one type -/
theorem CTk_2 {B : Int → Int} {L : Int} {P : Nat → Int} {S : CL} {h h' : HS} (t : CT B L P 11 h) (f : Fr S h h') (n1 : (0, 4, 3) ∉ S) (n2 : (0, 4, 4) ∉ S) (n3 : (1, 4, 0) ∉ S) (n4 : (1, 4, 1) ∉ S) (n5 : (1, 4, 2) ∉ S) (n6 : (0, 11, 5) ∉ S) : CT B L P 11 h' := by
  obtain ⟨t0, t1, t2, t3, t4, t5⟩ := t
  have a : at_ h' = at_ h := by unfold at_; rw [f.1 4 4 n2]
  refine ⟨t0, TE_fr t1 f n1 n3 n4 n5, by omega, by rw [f.1 4 3 n1]; omega, by rw [f.1 11 5 n6]; exact t4, by rw [f.1 11 5 n6, a]; exact t5⟩
theorem ct_expect_2 {B : Int → Int} {L : Int} {P : Nat → Int} {h h' : HS} {k : Int32} (t : CT B L P 11 h) (e : f_X2_expect h k = some h') (hk : ¬ k.toInt = 0) : CT B L P 11 h' := by
  unfold f_X2_expect f_X2_expect_29 at e
  by_cases c : eI h 5 0 = 0
  · rw [if_pos c] at e
    obtain ⟨r, h2, e2, e⟩ := ob2_some e
    obtain ⟨u1, u2⟩ := CT_kind t e2
    obtain rfl : h = h2 := u1.symm
    replace u2 : r.toInt = kd h := u2
    by_cases c2 : r = k
    · rw [if_pos c2] at e
      have d2 := gi_of_eq c2
      obtain ⟨h5, e5, e⟩ := ob1_some e
      cases e
      exact (CT_adv (by decide) t (by omega) e5).1
    · rw [if_neg c2] at e
      obtain ⟨h4, e4, e⟩ := ob1_some e
      cases e
      exact CTk_2 t (w_f_X2_fail _ _ _ e4) (by decide) (by decide) (by decide) (by decide) (by decide) (by decide)
  · rw [if_neg c] at e
    cases e
    exact t
theorem ct_number_2 {B : Int → Int} {L : Int} {P : Nat → Int} {h h' : HS} {f lo hi : Int32} (t : CT B L P 11 h) (e : f_X2_readNumber_2 h f lo hi = some h') : CT B L P 11 h' := by
  have z2 : (2 : Int32).toInt = 2 := rfl
  unfold f_X2_readNumber_2 f_X2_readNumber_2_69 at e
  have fl : ∀ (w : Int32) (y : HS), f_X2_fail h w = some y → CT B L P 11 y := fun w y ef => CTk_2 t (w_f_X2_fail _ _ _ ef) (by decide) (by decide) (by decide) (by decide) (by decide) (by decide)
  by_cases c : eI h 5 0 = 0
  · rw [if_pos c] at e
    obtain ⟨r, h2, e2, e⟩ := ob2_some e
    obtain ⟨u1, u2⟩ := CT_kind t e2
    obtain rfl : h = h2 := u1.symm
    replace u2 : r.toInt = kd h := u2
    have b43 : f_X2_readNumber_2_43 h = some h' → CT B L P 11 h' := by
      intro e
      unfold f_X2_readNumber_2_43 f_X2_readNumber_2_69 at e
      obtain ⟨h4, e4, e⟩ := ob1_some e
      cases e
      exact fl _ _ e4
    by_cases c2 : r = 2
    · rw [if_pos c2] at e
      have d2 := gi_of_eq c2
      obtain ⟨r4, h4, e4, e⟩ := ob2_some e
      obtain ⟨u3, -⟩ := CT_value t e4
      obtain rfl : h = h4 := u3.symm
      by_cases c4 : r4 < lo
      · rw [if_pos c4] at e; exact b43 e
      · rw [if_neg c4] at e
        obtain ⟨r6, h6, e6, e⟩ := ob2_some e
        obtain ⟨u5, -⟩ := CT_value t e6
        obtain rfl : h = h6 := u5.symm
        by_cases c6 : r6 ≤ hi
        · rw [if_pos c6] at e
          obtain ⟨r8, h8, e8, e⟩ := ob2_some e
          obtain ⟨u7, -⟩ := CT_value t e8
          obtain rfl : h = h8 := u7.symm
          obtain ⟨h9, e9, e⟩ := ob1_some e
          obtain ⟨h10, e10, e⟩ := ob1_some e
          cases e
          have f9 := w_f_X6_setClause_2 _ _ _ _ _ e9
          have k9 : kd h9 = kd h := by unfold kd; rw [f9.1 4 4 (by decide), f9.2.1 4 0 (by decide)]
          exact (CT_adv (by decide) (CTk_2 t f9 (by decide) (by decide) (by decide) (by decide) (by decide) (by decide)) (by omega) e10).1
        · rw [if_neg c6] at e; exact b43 e
    · rw [if_neg c2] at e
      obtain ⟨h4, e4, e⟩ := ob1_some e
      cases e
      exact fl _ _ e4
  · rw [if_neg c] at e
    cases e
    exact t
theorem ct_deed_2 {B : Int → Int} {L : Int} {P : Nat → Int} {h h' : HS} {p : Int32} (t : CT B L P 11 h) (e : f_X2_readDeed_2 h p = some h') : CT B L P 11 h' := by
  unfold f_X2_readDeed_2 f_X2_readDeed_2_90 at e
  by_cases c : p = 23
  · rw [if_pos c] at e
    obtain ⟨h1, e1, e⟩ := ob1_some e
    cases e
    exact ct_number_2 t e1
  · rw [if_neg c] at e
    obtain ⟨h2, e2, e⟩ := ob1_some e
    have t2 := ct_number_2 t e2
    by_cases c20 : p = 20
    · rw [if_pos c20] at e
      obtain ⟨h3, e3, e⟩ := ob1_some e
      obtain ⟨h4, e4, e⟩ := ob1_some e
      obtain ⟨h5, e5, e⟩ := ob1_some e
      obtain ⟨h6, e6, e⟩ := ob1_some e
      cases e
      exact ct_number_2 (ct_expect_2 (ct_number_2 (ct_expect_2 t2 e3 (by decide)) e4) e5 (by decide)) e6
    · rw [if_neg c20] at e
      by_cases c21 : p = 21
      · rw [if_pos c21] at e
        obtain ⟨h3, e3, e⟩ := ob1_some e
        obtain ⟨h4, e4, e⟩ := ob1_some e
        cases e
        exact ct_number_2 (ct_expect_2 t2 e3 (by decide)) e4
      · rw [if_neg c21] at e
        cases e
        exact t2
theorem TYL_fr_2 {S : CL} {h h' : HS} (x : TYL 11 h) (f : Fr S h h') (n1 : (1, 11, 2) ∉ S) (n2 : (1, 11, 3) ∉ S) (n3 : (1, 11, 4) ∉ S) (n4 : (0, 11, 5) ∉ S) : TYL 11 h' := by
  unfold TYL at *
  rw [f.2.1 11 2 n1, f.2.1 11 3 n2, f.2.1 11 4 n3, f.1 11 5 n4]
  exact x
theorem tcl_2 {B : Int → Int} {L : Int} {P : Nat → Int} {h h' : HS} (ct : CT B L P 11 h) (ty0 : TYL 11 h) (e : f_X2_readClause_2 h = some h') (fz : eI h' 5 0 = 0) : CT B L P 11 h' ∧ TYL 11 h' := by
  have z0 : (0 : Int32).toInt = 0 := rfl
  have z3 : (3 : Int32).toInt = 3 := rfl
  have z4 : (4 : Int32).toInt = 4 := rfl
  have z16 : (16 : Int32).toInt = 16 := rfl
  have z23 : (23 : Int32).toInt = 23 := rfl
  unfold f_X2_readClause_2 f_X2_readClause_2_158 at e
  obtain ⟨r1, h1, e1, e⟩ := ob2_some e
  obtain ⟨q1, q2⟩ := CT_kind ct e1
  obtain rfl : h = h1 := q1.symm
  replace q2 : r1.toInt = kd h := q2
  have no25 : f_X2_readClause_2_25 (sI h 5 2 (r1 - 16)) = some h' → False := by
    intro e
    unfold f_X2_readClause_2_25 f_X2_readClause_2_158 at e
    obtain ⟨h5, e5, e⟩ := ob1_some e
    cases e
    exact fail_nz e5 (by decide) fz
  have end141 : ∀ (hD : HS), CT B L P 11 hD → TYL 11 hD → f_X2_readClause_2_141 hD = some h' → CT B L P 11 h' ∧ TYL 11 h' := by
    intro hD cD yD e
    unfold f_X2_readClause_2_141 f_X2_readClause_2_158 at e
    obtain ⟨h6, e6, e⟩ := ob1_some e
    have eh' : h' = sI h6 11 1 (eI h6 11 1 + 1) := (Option.some.inj e).symm
    have f' : Fr [(0, 11, 1)] h6 h' := by rw [eh']; exact Fr_sI (by decide) (Fr_refl _ _)
    have fx := w_f_X2_expect _ _ _ e6
    exact ⟨CTk_2 (ct_expect_2 cD e6 (by decide)) f' (by decide) (by decide) (by decide) (by decide) (by decide) (by decide), TYL_fr_2 (TYL_fr_2 yD fx (by decide) (by decide) (by decide) (by decide)) f' (by decide) (by decide) (by decide) (by decide)⟩
  have fk : Fr [(0, 5, 2)] h (sI h 5 2 (r1 - 16)) := Fr_sI (by decide) (Fr_refl _ _)
  by_cases c16 : r1 < 16
  · rw [if_pos c16] at e; exact absurd e no25
  · rw [if_neg c16] at e
    have d16 := gi_of_nlt c16
    by_cases c23 : r1 ≤ 23
    · rw [if_pos c23] at e
      have d23 := gi_of_le c23
      have hw := fb_subI (x := r1) (y := 16) (by omega) (by omega)
      obtain ⟨r4, h4, e4, e⟩ := ob2_some e
      obtain ⟨u1, -⟩ := cp_hasLaw_2 e4 (by omega)
      replace u1 : h4 = sI h 5 2 (r1 - 16) := u1
      subst u1
      by_cases c4 : r4 = 0
      · rw [if_pos c4] at e
        by_cases c24 : eI (sI h 5 2 (r1 - 16)) 11 1 < 24
        · rw [if_pos c24] at e
          obtain ⟨h7, e7, e⟩ := ob1_some e
          obtain ⟨h8, e8, e⟩ := ob1_some e
          have f7 := w_f_X6_setClause_2 _ _ _ _ _ e7
          have c7 : CT B L P 11 h7 := CTk_2 (CTk_2 ct fk (by decide) (by decide) (by decide) (by decide) (by decide) (by decide)) f7 (by decide) (by decide) (by decide) (by decide) (by decide) (by decide)
          have y7 : TYL 11 h7 := TYL_fr_2 (TYL_fr_2 ty0 fk (by decide) (by decide) (by decide) (by decide)) f7 (by decide) (by decide) (by decide) (by decide)
          have k7 : kd h7 = kd h := by unfold kd; rw [f7.1 4 4 (by decide), f7.2.1 4 0 (by decide)]; rfl
          have a8 := CT_adv (by decide) c7 (by omega) e8
          have f8 := w_f_X7_advance _ _ e8
          have y8 : TYL 11 h8 := TYL_fr_2 y7 f8 (by decide) (by decide) (by decide) (by decide)
          have h852 : eI h8 5 2 = r1 - 16 := by rw [f8.1 5 2 (by decide), f7.1 5 2 (by decide)]; rfl
          rw [h852] at e
          by_cases c5 : (4 : Int32) ≤ r1 - 16
          · rw [if_pos c5] at e
            obtain ⟨h10, e10, e⟩ := ob1_some e
            have fd := w_f_X2_readDeed_2 _ _ _ e10
            exact end141 h10 (ct_deed_2 a8.1 e10) (TYL_fr_2 y8 fd (by decide) (by decide) (by decide) (by decide)) e
          · rw [if_neg c5] at e
            have d5 := gi_of_nle c5
            obtain ⟨h11, e11, e⟩ := ob1_some e
            have eh11 := cp_beginLaw_2 e11 (by omega) (by omega)
            have f11 : Fr [(1, 11, 3)] h8 h11 := by rw [eh11]; exact Fr_sA (by decide) (Fr_refl _ _)
            have c11 : CT B L P 11 h11 := CTk_2 a8.1 f11 (by decide) (by decide) (by decide) (by decide) (by decide) (by decide)
            have h1152 : eI h11 5 2 = r1 - 16 := (f11.1 5 2 (by decide)).trans h852
            have s11 : eI h11 11 5 = eI h8 11 5 := f11.1 11 5 (by decide)
            have law : ∀ (lvl : Int32), f_X2_readClause_2_119 h11 lvl = some h' → (lvl = 0 ∨ lvl = 3) → decide (lvl.toInt ≤ 2) = decide ((r1 - 16).toInt.toNat = 3) → CT B L P 11 h' ∧ TYL 11 h' := by
              intro lvl e hl hb
              unfold f_X2_readClause_2_119 at e
              obtain ⟨h17, e17, e⟩ := ob1_some e
              obtain ⟨h18, e18, e⟩ := ob1_some e
              have f17 : eI h17 5 0 = 0 := by
                have k141 := kf_f_X2_readClause_2_141 _ _ e fz
                have f18 := w_f_X6_closeLaw_2 _ _ _ e18
                rw [← f18.1 5 0 (by decide)]; exact k141
              obtain ⟨w1, w2⟩ := (types_2 B L P 200).2.2 lvl h11 h17 0 e17 (by rcases hl with q | q <;> (rw [q]; decide)) (by rcases hl with q | q <;> (rw [q]; decide)) c11 (by decide) (by decide) f17
              have fr17 : Fr S_read_2 h11 h17 := w_G_read_2 _ _ _ _ _ _ e17
              have h52 : eI h17 5 2 = r1 - 16 := (fr17.1 5 2 (by decide)).trans h1152
              rw [h52] at e18
              have eh18 := cp_closeLaw_2 e18 (by omega) (by omega)
              have f18 : Fr [(1, 11, 4)] h17 h18 := by rw [eh18]; exact Fr_sA (by decide) (Fr_refl _ _)
              refine end141 h18 (CTk_2 w1 f18 (by decide) (by decide) (by decide) (by decide) (by decide) (by decide)) ?_ e
              obtain ⟨x1, x2, x3, x4⟩ := w2
              have S3 : eA h18 11 3 = upd (eA h8 11 3) (r1 - 16).toInt.toNat (eI h8 11 5) := by
                rw [f18.2.1 11 3 (by decide), fr17.2.1 11 3 (by decide), eh11]; rfl
              have S4 : eA h18 11 4 = upd (eA h8 11 4) (r1 - 16).toInt.toNat (eI h17 11 5) := by
                rw [eh18]
                show upd (eA h17 11 4) _ _ = _
                rw [fr17.2.1 11 4 (by decide), f11.2.1 11 4 (by decide)]
              have S2 : eA h18 11 2 = eA h17 11 2 := f18.2.1 11 2 (by decide)
              have S5 : eI h18 11 5 = eI h17 11 5 := f18.1 11 5 (by decide)
              have st8 : eA h11 11 2 = eA h8 11 2 := f11.2.1 11 2 (by decide)
              rw [s11] at x1 x3 x4
              rw [st8] at x3
              have n8 : 0 ≤ (eI h8 11 5).toInt := a8.1.2.2.2.2.1
              intro w hw nw
              rw [S3] at nw ⊢
              rw [S4, S2, S5]
              unfold upd at nw ⊢
              by_cases cw : w = (r1 - 16).toInt.toNat
              · rw [if_pos cw, if_pos cw]
                refine ⟨n8, x1, Int.le_refl _, ?_, fun w2 i i1 i2 => ?_⟩
                · rw [x4 [] 22 (by rcases hl with q | q <;> (rw [q]; decide)), cw]
                  rw [hb]
                · have nb := (nb_all_2 200).2.2 lvl h11 h17 0 e17 (by rcases hl with q | q <;> (rw [q]; decide)) (by rcases hl with q | q <;> (rw [q]; decide))
                  exact nb.2 (by rw [h1152]; omega) (eI h8 11 5).toInt (fun k k1 k2 => by rw [s11] at k2; omega) i i1 i2
              · rw [if_neg cw] at nw
                rw [if_neg cw, if_neg cw]
                obtain ⟨v1, v2, v3, v4, v5⟩ := y8 w hw nw
                refine ⟨v1, v2, by omega, ?_, fun w2 i i1 i2 => ?_⟩
                · rw [ty_congr (a := eA h8 11 2) _ _ _ (fun j j1 j2 => x3 j (by omega))]
                  exact v4
                · rw [x3 i (by omega)]
                  exact v5 w2 i i1 i2
            rw [h1152] at e
            by_cases c3 : r1 - 16 = 3
            · rw [if_pos c3] at e
              refine law 0 e (Or.inl rfl) ?_
              rw [c3]; decide
            · rw [if_neg c3] at e
              refine law 3 e (Or.inr rfl) ?_
              have d3 := gi_of_ne c3
              rw [decide_eq_false (show ¬ (3 : Int32).toInt ≤ 2 by decide), decide_eq_false (by omega)]
        · rw [if_neg c24] at e
          obtain ⟨h13, e13, e⟩ := ob1_some e
          cases e
          exact absurd fz (fail_nz e13 (by decide))
      · rw [if_neg c4] at e
        obtain ⟨h14, e14, e⟩ := ob1_some e
        cases e
        exact absurd fz (fail_nz e14 (by decide))
    · rw [if_neg c23] at e; exact absurd e no25
/-! text 2: the whole text -/
theorem typ_loop_2 {B : Int → Int} {L : Int} {P : Nat → Int} {h' : HS} (fz : eI h' 5 0 = 0) : ∀ (n : Nat) (h : HS) (x3 : Int32), f_X2_parse_2_16 n h x3 = some h' → (eI h 5 0 = 0 → CT B L P 11 h ∧ TYL 11 h) → TYL 11 h' := by
  intro n
  induction n with
  | zero => intro h x3 e; cases e
  | succ n ih =>
    intro h x3 e i
    rw [f_X2_parse_2_16_s] at e
    unfold f_X2_parse_2_48 at e
    have stop : some h = some h' → TYL 11 h' := by
      intro q
      cases q
      exact (i fz).2
    by_cases c : (24 : Int32) < x3
    · rw [if_pos c] at e; exact stop e
    · rw [if_neg c] at e
      by_cases p0 : eI h 5 0 = 0
      · rw [if_pos p0] at e
        obtain ⟨r4, h4, e4, e⟩ := ob2_some e
        obtain rfl : h = h4 := (cp_kind_same e4).symm
        by_cases c4 : r4 = 0
        · rw [if_pos c4] at e; exact stop e
        · rw [if_neg c4] at e
          obtain ⟨h6, e6, e⟩ := ob1_some e
          exact ih h6 (x3 + 1) e (fun q => tcl_2 (i p0).1 (i p0).2 e6 q)
      · rw [if_neg p0] at e; exact stop e
theorem typ_text_2 {h h3 h4 : HS} (hL0 : 0 ≤ cL h) (hL : cL h ≤ 300) (e3 : f_X7_split h = some h3) (e4 : f_X2_parse_2 h3 = some h4) (fz : eI h4 5 0 = 0) : TYL 11 h4 := by
  have z0 : (0 : Int32).toInt = 0 := rfl
  obtain ⟨P, te, at0⟩ := cx_split e3 hL0 hL
  unfold f_X2_parse_2 at e4
  obtain ⟨h1, e1, e4⟩ := ob1_some e4
  unfold f_X6_clear_2 at e1
  obtain ⟨cl1, cl2⟩ := cp_clear_2 _ _ h1 0 e1 (by decide) (fun w hw => by omega)
  have f1 : Fr [(0, 5, 0), (0, 5, 1), (0, 11, 1), (0, 11, 5), (1, 11, 3), (1, 11, 4)] h3 h1 := Fr_trans (Fr_sI (by decide) (Fr_sI (by decide) (Fr_sI (by decide) (Fr_sI (by decide) (Fr_refl _ _))))) (Fr_mono (by decide) cl2)
  have c5 : eI h1 11 5 = 0 := cl2.1 11 5 (by decide)
  have te1 : TE (cB h) (cL h) h1 P := TE_fr te f1 (by decide) (by decide) (by decide) (by decide)
  have a1 : eI h1 4 4 = 0 := (f1.1 4 4 (by decide)).trans at0
  have p := te1.2.1
  refine typ_loop_2 (B := cB h) (L := cL h) (P := P) fz _ h1 0 e4 (fun _ => ⟨⟨hL, te1, ?_, ?_, ?_, ?_⟩, fun w hw nw => absurd (cl1 w hw) nw⟩)
  · unfold at_; rw [a1]; decide
  · unfold at_; rw [a1]; omega
  · rw [c5]; decide
  · unfold at_; rw [a1, c5]; decide
/-! text 3: each law that stands is of one type -/
theorem CTk_3 {B : Int → Int} {L : Int} {P : Nat → Int} {S : CL} {h h' : HS} (t : CT B L P 12 h) (f : Fr S h h') (n1 : (0, 4, 3) ∉ S) (n2 : (0, 4, 4) ∉ S) (n3 : (1, 4, 0) ∉ S) (n4 : (1, 4, 1) ∉ S) (n5 : (1, 4, 2) ∉ S) (n6 : (0, 12, 5) ∉ S) : CT B L P 12 h' := by
  obtain ⟨t0, t1, t2, t3, t4, t5⟩ := t
  have a : at_ h' = at_ h := by unfold at_; rw [f.1 4 4 n2]
  refine ⟨t0, TE_fr t1 f n1 n3 n4 n5, by omega, by rw [f.1 4 3 n1]; omega, by rw [f.1 12 5 n6]; exact t4, by rw [f.1 12 5 n6, a]; exact t5⟩
theorem ct_expect_3 {B : Int → Int} {L : Int} {P : Nat → Int} {h h' : HS} {k : Int32} (t : CT B L P 12 h) (e : f_X2_expect h k = some h') (hk : ¬ k.toInt = 0) : CT B L P 12 h' := by
  unfold f_X2_expect f_X2_expect_29 at e
  by_cases c : eI h 5 0 = 0
  · rw [if_pos c] at e
    obtain ⟨r, h2, e2, e⟩ := ob2_some e
    obtain ⟨u1, u2⟩ := CT_kind t e2
    obtain rfl : h = h2 := u1.symm
    replace u2 : r.toInt = kd h := u2
    by_cases c2 : r = k
    · rw [if_pos c2] at e
      have d2 := gi_of_eq c2
      obtain ⟨h5, e5, e⟩ := ob1_some e
      cases e
      exact (CT_adv (by decide) t (by omega) e5).1
    · rw [if_neg c2] at e
      obtain ⟨h4, e4, e⟩ := ob1_some e
      cases e
      exact CTk_3 t (w_f_X2_fail _ _ _ e4) (by decide) (by decide) (by decide) (by decide) (by decide) (by decide)
  · rw [if_neg c] at e
    cases e
    exact t
theorem ct_number_3 {B : Int → Int} {L : Int} {P : Nat → Int} {h h' : HS} {f lo hi : Int32} (t : CT B L P 12 h) (e : f_X2_readNumber_3 h f lo hi = some h') : CT B L P 12 h' := by
  have z2 : (2 : Int32).toInt = 2 := rfl
  unfold f_X2_readNumber_3 f_X2_readNumber_3_69 at e
  have fl : ∀ (w : Int32) (y : HS), f_X2_fail h w = some y → CT B L P 12 y := fun w y ef => CTk_3 t (w_f_X2_fail _ _ _ ef) (by decide) (by decide) (by decide) (by decide) (by decide) (by decide)
  by_cases c : eI h 5 0 = 0
  · rw [if_pos c] at e
    obtain ⟨r, h2, e2, e⟩ := ob2_some e
    obtain ⟨u1, u2⟩ := CT_kind t e2
    obtain rfl : h = h2 := u1.symm
    replace u2 : r.toInt = kd h := u2
    have b43 : f_X2_readNumber_3_43 h = some h' → CT B L P 12 h' := by
      intro e
      unfold f_X2_readNumber_3_43 f_X2_readNumber_3_69 at e
      obtain ⟨h4, e4, e⟩ := ob1_some e
      cases e
      exact fl _ _ e4
    by_cases c2 : r = 2
    · rw [if_pos c2] at e
      have d2 := gi_of_eq c2
      obtain ⟨r4, h4, e4, e⟩ := ob2_some e
      obtain ⟨u3, -⟩ := CT_value t e4
      obtain rfl : h = h4 := u3.symm
      by_cases c4 : r4 < lo
      · rw [if_pos c4] at e; exact b43 e
      · rw [if_neg c4] at e
        obtain ⟨r6, h6, e6, e⟩ := ob2_some e
        obtain ⟨u5, -⟩ := CT_value t e6
        obtain rfl : h = h6 := u5.symm
        by_cases c6 : r6 ≤ hi
        · rw [if_pos c6] at e
          obtain ⟨r8, h8, e8, e⟩ := ob2_some e
          obtain ⟨u7, -⟩ := CT_value t e8
          obtain rfl : h = h8 := u7.symm
          obtain ⟨h9, e9, e⟩ := ob1_some e
          obtain ⟨h10, e10, e⟩ := ob1_some e
          cases e
          have f9 := w_f_X6_setClause_3 _ _ _ _ _ e9
          have k9 : kd h9 = kd h := by unfold kd; rw [f9.1 4 4 (by decide), f9.2.1 4 0 (by decide)]
          exact (CT_adv (by decide) (CTk_3 t f9 (by decide) (by decide) (by decide) (by decide) (by decide) (by decide)) (by omega) e10).1
        · rw [if_neg c6] at e; exact b43 e
    · rw [if_neg c2] at e
      obtain ⟨h4, e4, e⟩ := ob1_some e
      cases e
      exact fl _ _ e4
  · rw [if_neg c] at e
    cases e
    exact t
theorem ct_deed_3 {B : Int → Int} {L : Int} {P : Nat → Int} {h h' : HS} {p : Int32} (t : CT B L P 12 h) (e : f_X2_readDeed_3 h p = some h') : CT B L P 12 h' := by
  unfold f_X2_readDeed_3 f_X2_readDeed_3_90 at e
  by_cases c : p = 23
  · rw [if_pos c] at e
    obtain ⟨h1, e1, e⟩ := ob1_some e
    cases e
    exact ct_number_3 t e1
  · rw [if_neg c] at e
    obtain ⟨h2, e2, e⟩ := ob1_some e
    have t2 := ct_number_3 t e2
    by_cases c20 : p = 20
    · rw [if_pos c20] at e
      obtain ⟨h3, e3, e⟩ := ob1_some e
      obtain ⟨h4, e4, e⟩ := ob1_some e
      obtain ⟨h5, e5, e⟩ := ob1_some e
      obtain ⟨h6, e6, e⟩ := ob1_some e
      cases e
      exact ct_number_3 (ct_expect_3 (ct_number_3 (ct_expect_3 t2 e3 (by decide)) e4) e5 (by decide)) e6
    · rw [if_neg c20] at e
      by_cases c21 : p = 21
      · rw [if_pos c21] at e
        obtain ⟨h3, e3, e⟩ := ob1_some e
        obtain ⟨h4, e4, e⟩ := ob1_some e
        cases e
        exact ct_number_3 (ct_expect_3 t2 e3 (by decide)) e4
      · rw [if_neg c21] at e
        cases e
        exact t2
theorem TYL_fr_3 {S : CL} {h h' : HS} (x : TYL 12 h) (f : Fr S h h') (n1 : (1, 12, 2) ∉ S) (n2 : (1, 12, 3) ∉ S) (n3 : (1, 12, 4) ∉ S) (n4 : (0, 12, 5) ∉ S) : TYL 12 h' := by
  unfold TYL at *
  rw [f.2.1 12 2 n1, f.2.1 12 3 n2, f.2.1 12 4 n3, f.1 12 5 n4]
  exact x
theorem tcl_3 {B : Int → Int} {L : Int} {P : Nat → Int} {h h' : HS} (ct : CT B L P 12 h) (ty0 : TYL 12 h) (e : f_X2_readClause_3 h = some h') (fz : eI h' 5 0 = 0) : CT B L P 12 h' ∧ TYL 12 h' := by
  have z0 : (0 : Int32).toInt = 0 := rfl
  have z3 : (3 : Int32).toInt = 3 := rfl
  have z4 : (4 : Int32).toInt = 4 := rfl
  have z16 : (16 : Int32).toInt = 16 := rfl
  have z23 : (23 : Int32).toInt = 23 := rfl
  unfold f_X2_readClause_3 f_X2_readClause_3_158 at e
  obtain ⟨r1, h1, e1, e⟩ := ob2_some e
  obtain ⟨q1, q2⟩ := CT_kind ct e1
  obtain rfl : h = h1 := q1.symm
  replace q2 : r1.toInt = kd h := q2
  have no25 : f_X2_readClause_3_25 (sI h 5 2 (r1 - 16)) = some h' → False := by
    intro e
    unfold f_X2_readClause_3_25 f_X2_readClause_3_158 at e
    obtain ⟨h5, e5, e⟩ := ob1_some e
    cases e
    exact fail_nz e5 (by decide) fz
  have end141 : ∀ (hD : HS), CT B L P 12 hD → TYL 12 hD → f_X2_readClause_3_141 hD = some h' → CT B L P 12 h' ∧ TYL 12 h' := by
    intro hD cD yD e
    unfold f_X2_readClause_3_141 f_X2_readClause_3_158 at e
    obtain ⟨h6, e6, e⟩ := ob1_some e
    have eh' : h' = sI h6 12 1 (eI h6 12 1 + 1) := (Option.some.inj e).symm
    have f' : Fr [(0, 12, 1)] h6 h' := by rw [eh']; exact Fr_sI (by decide) (Fr_refl _ _)
    have fx := w_f_X2_expect _ _ _ e6
    exact ⟨CTk_3 (ct_expect_3 cD e6 (by decide)) f' (by decide) (by decide) (by decide) (by decide) (by decide) (by decide), TYL_fr_3 (TYL_fr_3 yD fx (by decide) (by decide) (by decide) (by decide)) f' (by decide) (by decide) (by decide) (by decide)⟩
  have fk : Fr [(0, 5, 2)] h (sI h 5 2 (r1 - 16)) := Fr_sI (by decide) (Fr_refl _ _)
  by_cases c16 : r1 < 16
  · rw [if_pos c16] at e; exact absurd e no25
  · rw [if_neg c16] at e
    have d16 := gi_of_nlt c16
    by_cases c23 : r1 ≤ 23
    · rw [if_pos c23] at e
      have d23 := gi_of_le c23
      have hw := fb_subI (x := r1) (y := 16) (by omega) (by omega)
      obtain ⟨r4, h4, e4, e⟩ := ob2_some e
      obtain ⟨u1, -⟩ := cp_hasLaw_3 e4 (by omega)
      replace u1 : h4 = sI h 5 2 (r1 - 16) := u1
      subst u1
      by_cases c4 : r4 = 0
      · rw [if_pos c4] at e
        by_cases c24 : eI (sI h 5 2 (r1 - 16)) 12 1 < 24
        · rw [if_pos c24] at e
          obtain ⟨h7, e7, e⟩ := ob1_some e
          obtain ⟨h8, e8, e⟩ := ob1_some e
          have f7 := w_f_X6_setClause_3 _ _ _ _ _ e7
          have c7 : CT B L P 12 h7 := CTk_3 (CTk_3 ct fk (by decide) (by decide) (by decide) (by decide) (by decide) (by decide)) f7 (by decide) (by decide) (by decide) (by decide) (by decide) (by decide)
          have y7 : TYL 12 h7 := TYL_fr_3 (TYL_fr_3 ty0 fk (by decide) (by decide) (by decide) (by decide)) f7 (by decide) (by decide) (by decide) (by decide)
          have k7 : kd h7 = kd h := by unfold kd; rw [f7.1 4 4 (by decide), f7.2.1 4 0 (by decide)]; rfl
          have a8 := CT_adv (by decide) c7 (by omega) e8
          have f8 := w_f_X7_advance _ _ e8
          have y8 : TYL 12 h8 := TYL_fr_3 y7 f8 (by decide) (by decide) (by decide) (by decide)
          have h852 : eI h8 5 2 = r1 - 16 := by rw [f8.1 5 2 (by decide), f7.1 5 2 (by decide)]; rfl
          rw [h852] at e
          by_cases c5 : (4 : Int32) ≤ r1 - 16
          · rw [if_pos c5] at e
            obtain ⟨h10, e10, e⟩ := ob1_some e
            have fd := w_f_X2_readDeed_3 _ _ _ e10
            exact end141 h10 (ct_deed_3 a8.1 e10) (TYL_fr_3 y8 fd (by decide) (by decide) (by decide) (by decide)) e
          · rw [if_neg c5] at e
            have d5 := gi_of_nle c5
            obtain ⟨h11, e11, e⟩ := ob1_some e
            have eh11 := cp_beginLaw_3 e11 (by omega) (by omega)
            have f11 : Fr [(1, 12, 3)] h8 h11 := by rw [eh11]; exact Fr_sA (by decide) (Fr_refl _ _)
            have c11 : CT B L P 12 h11 := CTk_3 a8.1 f11 (by decide) (by decide) (by decide) (by decide) (by decide) (by decide)
            have h1152 : eI h11 5 2 = r1 - 16 := (f11.1 5 2 (by decide)).trans h852
            have s11 : eI h11 12 5 = eI h8 12 5 := f11.1 12 5 (by decide)
            have law : ∀ (lvl : Int32), f_X2_readClause_3_119 h11 lvl = some h' → (lvl = 0 ∨ lvl = 3) → decide (lvl.toInt ≤ 2) = decide ((r1 - 16).toInt.toNat = 3) → CT B L P 12 h' ∧ TYL 12 h' := by
              intro lvl e hl hb
              unfold f_X2_readClause_3_119 at e
              obtain ⟨h17, e17, e⟩ := ob1_some e
              obtain ⟨h18, e18, e⟩ := ob1_some e
              have f17 : eI h17 5 0 = 0 := by
                have k141 := kf_f_X2_readClause_3_141 _ _ e fz
                have f18 := w_f_X6_closeLaw_3 _ _ _ e18
                rw [← f18.1 5 0 (by decide)]; exact k141
              obtain ⟨w1, w2⟩ := (types_3 B L P 200).2.2 lvl h11 h17 0 e17 (by rcases hl with q | q <;> (rw [q]; decide)) (by rcases hl with q | q <;> (rw [q]; decide)) c11 (by decide) (by decide) f17
              have fr17 : Fr S_read_3 h11 h17 := w_G_read_3 _ _ _ _ _ _ e17
              have h52 : eI h17 5 2 = r1 - 16 := (fr17.1 5 2 (by decide)).trans h1152
              rw [h52] at e18
              have eh18 := cp_closeLaw_3 e18 (by omega) (by omega)
              have f18 : Fr [(1, 12, 4)] h17 h18 := by rw [eh18]; exact Fr_sA (by decide) (Fr_refl _ _)
              refine end141 h18 (CTk_3 w1 f18 (by decide) (by decide) (by decide) (by decide) (by decide) (by decide)) ?_ e
              obtain ⟨x1, x2, x3, x4⟩ := w2
              have S3 : eA h18 12 3 = upd (eA h8 12 3) (r1 - 16).toInt.toNat (eI h8 12 5) := by
                rw [f18.2.1 12 3 (by decide), fr17.2.1 12 3 (by decide), eh11]; rfl
              have S4 : eA h18 12 4 = upd (eA h8 12 4) (r1 - 16).toInt.toNat (eI h17 12 5) := by
                rw [eh18]
                show upd (eA h17 12 4) _ _ = _
                rw [fr17.2.1 12 4 (by decide), f11.2.1 12 4 (by decide)]
              have S2 : eA h18 12 2 = eA h17 12 2 := f18.2.1 12 2 (by decide)
              have S5 : eI h18 12 5 = eI h17 12 5 := f18.1 12 5 (by decide)
              have st8 : eA h11 12 2 = eA h8 12 2 := f11.2.1 12 2 (by decide)
              rw [s11] at x1 x3 x4
              rw [st8] at x3
              have n8 : 0 ≤ (eI h8 12 5).toInt := a8.1.2.2.2.2.1
              intro w hw nw
              rw [S3] at nw ⊢
              rw [S4, S2, S5]
              unfold upd at nw ⊢
              by_cases cw : w = (r1 - 16).toInt.toNat
              · rw [if_pos cw, if_pos cw]
                refine ⟨n8, x1, Int.le_refl _, ?_, fun w2 i i1 i2 => ?_⟩
                · rw [x4 [] 22 (by rcases hl with q | q <;> (rw [q]; decide)), cw]
                  rw [hb]
                · have nb := (nb_all_3 200).2.2 lvl h11 h17 0 e17 (by rcases hl with q | q <;> (rw [q]; decide)) (by rcases hl with q | q <;> (rw [q]; decide))
                  exact nb.2 (by rw [h1152]; omega) (eI h8 12 5).toInt (fun k k1 k2 => by rw [s11] at k2; omega) i i1 i2
              · rw [if_neg cw] at nw
                rw [if_neg cw, if_neg cw]
                obtain ⟨v1, v2, v3, v4, v5⟩ := y8 w hw nw
                refine ⟨v1, v2, by omega, ?_, fun w2 i i1 i2 => ?_⟩
                · rw [ty_congr (a := eA h8 12 2) _ _ _ (fun j j1 j2 => x3 j (by omega))]
                  exact v4
                · rw [x3 i (by omega)]
                  exact v5 w2 i i1 i2
            rw [h1152] at e
            by_cases c3 : r1 - 16 = 3
            · rw [if_pos c3] at e
              refine law 0 e (Or.inl rfl) ?_
              rw [c3]; decide
            · rw [if_neg c3] at e
              refine law 3 e (Or.inr rfl) ?_
              have d3 := gi_of_ne c3
              rw [decide_eq_false (show ¬ (3 : Int32).toInt ≤ 2 by decide), decide_eq_false (by omega)]
        · rw [if_neg c24] at e
          obtain ⟨h13, e13, e⟩ := ob1_some e
          cases e
          exact absurd fz (fail_nz e13 (by decide))
      · rw [if_neg c4] at e
        obtain ⟨h14, e14, e⟩ := ob1_some e
        cases e
        exact absurd fz (fail_nz e14 (by decide))
    · rw [if_neg c23] at e; exact absurd e no25
/-! text 3: the whole text -/
theorem typ_loop_3 {B : Int → Int} {L : Int} {P : Nat → Int} {h' : HS} (fz : eI h' 5 0 = 0) : ∀ (n : Nat) (h : HS) (x3 : Int32), f_X2_parse_3_16 n h x3 = some h' → (eI h 5 0 = 0 → CT B L P 12 h ∧ TYL 12 h) → TYL 12 h' := by
  intro n
  induction n with
  | zero => intro h x3 e; cases e
  | succ n ih =>
    intro h x3 e i
    rw [f_X2_parse_3_16_s] at e
    unfold f_X2_parse_3_48 at e
    have stop : some h = some h' → TYL 12 h' := by
      intro q
      cases q
      exact (i fz).2
    by_cases c : (24 : Int32) < x3
    · rw [if_pos c] at e; exact stop e
    · rw [if_neg c] at e
      by_cases p0 : eI h 5 0 = 0
      · rw [if_pos p0] at e
        obtain ⟨r4, h4, e4, e⟩ := ob2_some e
        obtain rfl : h = h4 := (cp_kind_same e4).symm
        by_cases c4 : r4 = 0
        · rw [if_pos c4] at e; exact stop e
        · rw [if_neg c4] at e
          obtain ⟨h6, e6, e⟩ := ob1_some e
          exact ih h6 (x3 + 1) e (fun q => tcl_3 (i p0).1 (i p0).2 e6 q)
      · rw [if_neg p0] at e; exact stop e
theorem typ_text_3 {h h3 h4 : HS} (hL0 : 0 ≤ cL h) (hL : cL h ≤ 300) (e3 : f_X7_split h = some h3) (e4 : f_X2_parse_3 h3 = some h4) (fz : eI h4 5 0 = 0) : TYL 12 h4 := by
  have z0 : (0 : Int32).toInt = 0 := rfl
  obtain ⟨P, te, at0⟩ := cx_split e3 hL0 hL
  unfold f_X2_parse_3 at e4
  obtain ⟨h1, e1, e4⟩ := ob1_some e4
  unfold f_X6_clear_3 at e1
  obtain ⟨cl1, cl2⟩ := cp_clear_3 _ _ h1 0 e1 (by decide) (fun w hw => by omega)
  have f1 : Fr [(0, 5, 0), (0, 5, 1), (0, 12, 1), (0, 12, 5), (1, 12, 3), (1, 12, 4)] h3 h1 := Fr_trans (Fr_sI (by decide) (Fr_sI (by decide) (Fr_sI (by decide) (Fr_sI (by decide) (Fr_refl _ _))))) (Fr_mono (by decide) cl2)
  have c5 : eI h1 12 5 = 0 := cl2.1 12 5 (by decide)
  have te1 : TE (cB h) (cL h) h1 P := TE_fr te f1 (by decide) (by decide) (by decide) (by decide)
  have a1 : eI h1 4 4 = 0 := (f1.1 4 4 (by decide)).trans at0
  have p := te1.2.1
  refine typ_loop_3 (B := cB h) (L := cL h) (P := P) fz _ h1 0 e4 (fun _ => ⟨⟨hL, te1, ?_, ?_, ?_, ?_⟩, fun w hw nw => absurd (cl1 w hw) nw⟩)
  · unfold at_; rw [a1]; decide
  · unfold at_; rw [a1]; omega
  · rw [c5]; decide
  · unfold at_; rw [a1, c5]; decide
/-! what a step works out: class and reference side by side -/
def clampI (z : Int) : Int := if 1000000 < z then 1000000 else if z < -1000000 then -1000000 else z
def MB (z : Int) : Prop := -1000000 ≤ z ∧ z ≤ 1000000
theorem MB_clamp (z : Int) : MB (clampI z) := by
  unfold MB clampI
  by_cases c1 : 1000000 < z
  · rw [if_pos c1]; omega
  · rw [if_neg c1]
    by_cases c2 : z < -1000000
    · rw [if_pos c2]; omega
    · rw [if_neg c2]; omega
theorem clamp_id {z : Int} (h : MB z) : clampI z = z := by
  unfold MB at h
  unfold clampI
  rw [if_neg (by omega), if_neg (by omega)]
theorem q_bmod {z : Int} (h1 : -9223372036854775808 ≤ z) (h2 : z < 9223372036854775808) : z.bmod (2 ^ 64) = z := by
  rw [Int.bmod_eq_of_le (by omega) (by omega)]
theorem q_add {x y : Int64} (hx : MB x.toInt) (hy : MB y.toInt) : (x + y).toInt = x.toInt + y.toInt := by
  unfold MB at *
  rw [Int64.toInt_add, q_bmod (by omega) (by omega)]
theorem q_sub {x y : Int64} (hx : MB x.toInt) (hy : MB y.toInt) : (x - y).toInt = x.toInt - y.toInt := by
  unfold MB at *
  rw [Int64.toInt_sub, q_bmod (by omega) (by omega)]
theorem q_neg {x : Int64} (hx : MB x.toInt) : (-x).toInt = -x.toInt := by
  unfold MB at *
  rw [Int64.toInt_neg, q_bmod (by omega) (by omega)]
theorem mb_abs {z : Int} (h : MB z) : z.natAbs ≤ 1000000 := by unfold MB at h; omega
theorem q_mul {x y : Int64} (hx : MB x.toInt) (hy : MB y.toInt) : (x * y).toInt = x.toInt * y.toInt := by
  have a : (x.toInt * y.toInt).natAbs ≤ 1000000 * 1000000 := by
    rw [Int.natAbs_mul]
    exact Nat.mul_le_mul (mb_abs hx) (mb_abs hy)
  rw [Int64.toInt_mul, q_bmod (by omega) (by omega)]
theorem mb_div {a b : Int} (h : MB a) : MB (a.tdiv b) := by
  have e : (a.tdiv b).natAbs ≤ a.natAbs := by
    rw [Int.natAbs_tdiv]
    exact Nat.div_le_self _ _
  have m := mb_abs h
  unfold MB
  omega
theorem q_div {x y : Int64} (hx : MB x.toInt) : (x / y).toInt = x.toInt.tdiv y.toInt := by
  have m := mb_div (b := y.toInt) hx
  unfold MB at m
  rw [Int64.toInt_div, q_bmod (by omega) (by omega)]
theorem q_le {x y : Int64} (h : lg_cmp x y ≤ 0) : x.toInt ≤ y.toInt := Int64.le_iff_toInt_le.mp ((lg_cmp_le x y).mp h)
theorem q_nle {x y : Int64} (h : ¬ lg_cmp x y ≤ 0) : y.toInt < x.toInt := by
  rw [lg_cmp_le, Int64.le_iff_toInt_le] at h; omega
theorem q_ge {x y : Int64} (h : 0 ≤ lg_cmp x y) : y.toInt ≤ x.toInt := Int64.le_iff_toInt_le.mp ((lg_cmp_ge x y).mp h)
theorem q_nge {x y : Int64} (h : ¬ 0 ≤ lg_cmp x y) : x.toInt < y.toInt := by
  rw [lg_cmp_ge, Int64.le_iff_toInt_le] at h; omega
theorem q_bound {v r : Int64} (e : f_X9_bound v = some r) : r.toInt = clampI v.toInt := by
  have z1 : (1000000 : Int64).toInt = 1000000 := rfl
  have z2 : (-1000000 : Int64).toInt = -1000000 := rfl
  unfold f_X9_bound f_X9_bound_29 at e
  unfold clampI
  by_cases c1 : lg_cmp v 1000000 ≤ 0
  · rw [if_pos c1] at e
    have d1 := q_le c1
    rw [if_neg (by omega)]
    by_cases c2 : 0 ≤ lg_cmp v (-1000000)
    · rw [if_pos c2] at e
      have d2 := q_ge c2
      cases e
      rw [if_neg (by omega)]
    · rw [if_neg c2] at e
      have d2 := q_nge c2
      cases e
      rw [if_pos (by omega)]
      exact z2
  · rw [if_neg c1] at e
    have d1 := q_nle c1
    cases e
    rw [if_pos (by omega)]
    exact z1
theorem q_bit {x : Int64} (h : x.toInt = 0 ∨ x.toInt = 1) : x = 0 ∨ x = 1 := by
  rcases h with h | h
  · exact Or.inl (Int64.toInt_inj.mp (h.trans rfl))
  · exact Or.inr (Int64.toInt_inj.mp (h.trans rfl))
def JW (k : Int) (r1 r2 : Int64) : Prop := clampI r1.toInt = r2.toInt ∧ MB r2.toInt ∧ (¬ (9 ≤ k ∧ k ≤ 12) → r2.toInt = 0 ∨ r2.toInt = 1)
theorem JW_0 (k : Int) : JW k 0 0 := ⟨by decide, by unfold MB; decide, fun _ => Or.inl (by decide)⟩
theorem JW_1 (k : Int) : JW k 1 1 := ⟨by decide, by unfold MB; decide, fun _ => Or.inr (by decide)⟩
theorem jw_9 {x y r1 r2 : Int64} (hx : MB x.toInt) (hy : MB y.toInt) (e1 : f_X1_joined 9 x y = some r1) (e2 : f_X9_worked 43 x y = some r2) : JW 9 r1 r2 := by
  unfold f_X1_joined at e1
  unfold f_X9_worked at e2
  rw [if_neg (by decide), if_neg (by decide), if_neg (by decide), if_neg (by decide), if_neg (by decide), if_neg (by decide), if_pos rfl] at e1
  rw [if_neg (by decide), if_neg (by decide), if_pos rfl] at e2
  obtain ⟨r, e3, e2⟩ := ob1_some e2
  have b := q_bound e3
  cases e1
  cases e2
  refine ⟨b.symm, by rw [b]; exact MB_clamp _, fun n => absurd (by decide) n⟩
theorem jw_10 {x y r1 r2 : Int64} (hx : MB x.toInt) (hy : MB y.toInt) (e1 : f_X1_joined 10 x y = some r1) (e2 : f_X9_worked 45 x y = some r2) : JW 10 r1 r2 := by
  unfold f_X1_joined at e1
  unfold f_X9_worked at e2
  rw [if_neg (by decide), if_neg (by decide), if_neg (by decide), if_neg (by decide), if_neg (by decide), if_neg (by decide), if_neg (by decide), if_pos rfl] at e1
  rw [if_neg (by decide), if_neg (by decide), if_neg (by decide), if_pos rfl] at e2
  obtain ⟨r, e3, e2⟩ := ob1_some e2
  have b := q_bound e3
  cases e1
  cases e2
  refine ⟨b.symm, by rw [b]; exact MB_clamp _, fun n => absurd (by decide) n⟩
theorem jw_11 {x y r1 r2 : Int64} (hx : MB x.toInt) (hy : MB y.toInt) (e1 : f_X1_joined 11 x y = some r1) (e2 : f_X9_worked 42 x y = some r2) : JW 11 r1 r2 := by
  unfold f_X1_joined at e1
  unfold f_X9_worked at e2
  rw [if_neg (by decide), if_neg (by decide), if_neg (by decide), if_neg (by decide), if_neg (by decide), if_neg (by decide), if_neg (by decide), if_neg (by decide), if_pos rfl] at e1
  rw [if_neg (by decide), if_pos rfl] at e2
  obtain ⟨r, e3, e2⟩ := ob1_some e2
  have b := q_bound e3
  cases e1
  cases e2
  refine ⟨b.symm, by rw [b]; exact MB_clamp _, fun n => absurd (by decide) n⟩
theorem jw_12 {x y r1 r2 : Int64} (hx : MB x.toInt) (hy : MB y.toInt) (e1 : f_X1_joined 12 x y = some r1) (e2 : f_X9_worked 47 x y = some r2) : JW 12 r1 r2 := by
  unfold f_X1_joined at e1
  unfold f_X9_worked at e2
  rw [if_neg (by decide), if_neg (by decide), if_neg (by decide), if_neg (by decide), if_neg (by decide), if_neg (by decide), if_neg (by decide), if_neg (by decide), if_neg (by decide), if_pos rfl] at e1
  rw [if_neg (by decide), if_neg (by decide), if_neg (by decide), if_neg (by decide), if_pos rfl] at e2
  by_cases c : lg_cmp y 0 = 0
  · rw [if_pos c] at e1 e2
    unfold f_X1_joined_141 at e1
    unfold f_X9_worked_134 at e2
    cases e1
    cases e2
    exact JW_0 _
  · rw [if_neg c] at e1 e2
    obtain ⟨-, e1⟩ := ob_if e1
    obtain ⟨-, e2⟩ := ob_if e2
    unfold f_X1_joined_141 at e1
    unfold f_X9_worked_134 at e2
    cases e1
    cases e2
    have m := mb_div (b := y.toInt) hx
    rw [← q_div hx] at m
    exact ⟨clamp_id m, m, fun n => absurd (by decide) n⟩
theorem jw_3 {x y r1 r2 : Int64} (hx : MB x.toInt) (hy : MB y.toInt) (e1 : f_X1_joined 3 x y = some r1) (e2 : f_X9_worked 60 x y = some r2) : JW 3 r1 r2 := by
  unfold f_X1_joined at e1
  unfold f_X9_worked at e2
  rw [if_pos rfl] at e1
  rw [if_neg (by decide), if_neg (by decide), if_neg (by decide), if_neg (by decide), if_neg (by decide), if_pos rfl] at e2
  by_cases c : 0 ≤ lg_cmp x y
  · rw [if_pos c] at e1 e2
    unfold f_X1_joined_153 at e1
    unfold f_X9_worked_146 at e2
    cases e1
    cases e2
    exact JW_0 _
  · rw [if_neg c] at e1 e2
    unfold f_X1_joined_153 at e1
    unfold f_X9_worked_146 at e2
    cases e1
    cases e2
    exact JW_1 _
theorem jw_4 {x y r1 r2 : Int64} (hx : MB x.toInt) (hy : MB y.toInt) (e1 : f_X1_joined 4 x y = some r1) (e2 : f_X9_worked 300 x y = some r2) : JW 4 r1 r2 := by
  unfold f_X1_joined at e1
  unfold f_X9_worked at e2
  rw [if_neg (by decide), if_pos rfl] at e1
  rw [if_neg (by decide), if_neg (by decide), if_neg (by decide), if_neg (by decide), if_neg (by decide), if_neg (by decide), if_neg (by decide), if_neg (by decide), if_pos rfl] at e2
  by_cases c : 0 < lg_cmp x y
  · rw [if_pos c] at e1 e2
    unfold f_X1_joined_165 at e1
    unfold f_X9_worked_194 at e2
    cases e1
    cases e2
    exact JW_0 _
  · rw [if_neg c] at e1 e2
    unfold f_X1_joined_165 at e1
    unfold f_X9_worked_194 at e2
    cases e1
    cases e2
    exact JW_1 _
theorem jw_5 {x y r1 r2 : Int64} (hx : MB x.toInt) (hy : MB y.toInt) (e1 : f_X1_joined 5 x y = some r1) (e2 : f_X9_worked 62 x y = some r2) : JW 5 r1 r2 := by
  unfold f_X1_joined at e1
  unfold f_X9_worked at e2
  rw [if_neg (by decide), if_neg (by decide), if_pos rfl] at e1
  rw [if_neg (by decide), if_neg (by decide), if_neg (by decide), if_neg (by decide), if_neg (by decide), if_neg (by decide), if_neg (by decide), if_pos rfl] at e2
  by_cases c : lg_cmp x y ≤ 0
  · rw [if_pos c] at e1 e2
    unfold f_X1_joined_177 at e1
    unfold f_X9_worked_158 at e2
    cases e1
    cases e2
    exact JW_0 _
  · rw [if_neg c] at e1 e2
    unfold f_X1_joined_177 at e1
    unfold f_X9_worked_158 at e2
    cases e1
    cases e2
    exact JW_1 _
theorem jw_6 {x y r1 r2 : Int64} (hx : MB x.toInt) (hy : MB y.toInt) (e1 : f_X1_joined 6 x y = some r1) (e2 : f_X9_worked 301 x y = some r2) : JW 6 r1 r2 := by
  unfold f_X1_joined at e1
  unfold f_X9_worked at e2
  rw [if_neg (by decide), if_neg (by decide), if_neg (by decide), if_pos rfl] at e1
  rw [if_neg (by decide), if_neg (by decide), if_neg (by decide), if_neg (by decide), if_neg (by decide), if_neg (by decide), if_neg (by decide), if_neg (by decide), if_neg (by decide), if_pos rfl] at e2
  by_cases c : lg_cmp x y < 0
  · rw [if_pos c] at e1 e2
    unfold f_X1_joined_189 at e1
    unfold f_X9_worked_206 at e2
    cases e1
    cases e2
    exact JW_0 _
  · rw [if_neg c] at e1 e2
    unfold f_X1_joined_189 at e1
    unfold f_X9_worked_206 at e2
    cases e1
    cases e2
    exact JW_1 _
theorem jw_7 {x y r1 r2 : Int64} (hx : MB x.toInt) (hy : MB y.toInt) (e1 : f_X1_joined 7 x y = some r1) (e2 : f_X9_worked 61 x y = some r2) : JW 7 r1 r2 := by
  unfold f_X1_joined at e1
  unfold f_X9_worked at e2
  rw [if_neg (by decide), if_neg (by decide), if_neg (by decide), if_neg (by decide), if_pos rfl] at e1
  rw [if_neg (by decide), if_neg (by decide), if_neg (by decide), if_neg (by decide), if_neg (by decide), if_neg (by decide), if_pos rfl] at e2
  by_cases c : lg_cmp x y = 0
  · rw [if_pos c] at e1 e2
    unfold f_X1_joined_201 at e1
    unfold f_X9_worked_170 at e2
    cases e1
    cases e2
    exact JW_1 _
  · rw [if_neg c] at e1 e2
    unfold f_X1_joined_201 at e1
    unfold f_X9_worked_170 at e2
    cases e1
    cases e2
    exact JW_0 _
theorem jw_8 {x y r1 r2 : Int64} (hx : MB x.toInt) (hy : MB y.toInt) (e1 : f_X1_joined 8 x y = some r1) (e2 : f_X9_worked 35 x y = some r2) : JW 8 r1 r2 := by
  unfold f_X1_joined at e1
  unfold f_X9_worked at e2
  rw [if_neg (by decide), if_neg (by decide), if_neg (by decide), if_neg (by decide), if_neg (by decide), if_pos rfl] at e1
  rw [if_pos rfl] at e2
  by_cases c : lg_cmp x y = 0
  · rw [if_pos c] at e1 e2
    unfold f_X1_joined_213 at e1
    unfold f_X9_worked_182 at e2
    cases e1
    cases e2
    exact JW_0 _
  · rw [if_neg c] at e1 e2
    unfold f_X1_joined_213 at e1
    unfold f_X9_worked_182 at e2
    cases e1
    cases e2
    exact JW_1 _
theorem jw_27 {x y r1 r2 : Int64} (hx : MB x.toInt) (hy : MB y.toInt) (bx : x.toInt = 0 ∨ x.toInt = 1) (yb : y.toInt = 0 ∨ y.toInt = 1) (e1 : f_X1_joined 27 x y = some r1) (e2 : f_X9_worked 406 x y = some r2) : JW 27 r1 r2 := by
  unfold f_X1_joined at e1
  unfold f_X9_worked at e2
  rw [if_neg (by decide), if_neg (by decide), if_neg (by decide), if_neg (by decide), if_neg (by decide), if_neg (by decide), if_neg (by decide), if_neg (by decide), if_neg (by decide), if_neg (by decide), if_neg (by decide), if_neg (by decide), if_neg (by decide), if_neg (by decide), if_neg (by decide), if_neg (by decide), if_neg (by decide), if_neg (by decide), if_neg (by decide), if_neg (by decide), if_neg (by decide), if_neg (by decide), if_neg (by decide), if_neg (by decide), if_pos rfl] at e1
  rw [if_neg (by decide), if_neg (by decide), if_neg (by decide), if_neg (by decide), if_neg (by decide), if_neg (by decide), if_neg (by decide), if_neg (by decide), if_neg (by decide), if_neg (by decide), if_pos rfl] at e2
  cases e1
  cases e2
  rcases q_bit bx with rfl | rfl <;> rcases q_bit yb with rfl | rfl
  · exact JW_0 _
  · exact JW_0 _
  · exact JW_0 _
  · exact JW_1 _
theorem jw_26 {x y r1 r2 : Int64} (hx : MB x.toInt) (hy : MB y.toInt) (bx : x.toInt = 0 ∨ x.toInt = 1) (yb : y.toInt = 0 ∨ y.toInt = 1) (e1 : f_X1_joined 26 x y = some r1) (e2 : f_X9_worked 407 x y = some r2) : JW 26 r1 r2 := by
  unfold f_X1_joined at e1
  unfold f_X9_worked at e2
  rw [if_neg (by decide), if_neg (by decide), if_neg (by decide), if_neg (by decide), if_neg (by decide), if_neg (by decide), if_neg (by decide), if_neg (by decide), if_neg (by decide), if_neg (by decide), if_neg (by decide), if_neg (by decide), if_neg (by decide), if_neg (by decide), if_neg (by decide), if_neg (by decide), if_neg (by decide), if_neg (by decide), if_neg (by decide), if_neg (by decide), if_neg (by decide), if_neg (by decide), if_neg (by decide), if_pos rfl] at e1
  rw [if_neg (by decide), if_neg (by decide), if_neg (by decide), if_neg (by decide), if_neg (by decide), if_neg (by decide), if_neg (by decide), if_neg (by decide), if_neg (by decide), if_neg (by decide), if_neg (by decide)] at e2
  cases e1
  unfold f_X9_worked_224 at e2
  rcases q_bit bx with rfl | rfl <;> rcases q_bit yb with rfl | rfl
  · rw [if_pos (by decide)] at e2; cases e2; exact JW_0 _
  · rw [if_neg (by decide)] at e2; cases e2; exact JW_1 _
  · rw [if_neg (by decide)] at e2; cases e2; exact JW_1 _
  · rw [if_neg (by decide)] at e2; cases e2; exact JW_1 _
theorem jw {k p : Int32} {x y r1 r2 : Int64} (o : OPR k.toInt p.toInt) (n1 : ¬ k.toInt = 28) (n2 : ¬ k.toInt = 38) (hx : MB x.toInt) (hy : MB y.toInt) (bx : (k.toInt = 26 ∨ k.toInt = 27) → (x.toInt = 0 ∨ x.toInt = 1) ∧ (y.toInt = 0 ∨ y.toInt = 1)) (e1 : f_X1_joined k x y = some r1) (e2 : f_X9_worked p x y = some r2) : JW k.toInt r1 r2 := by
  unfold OPR at o
  rcases o with ⟨a, b⟩ | ⟨a, b⟩ | ⟨a, b⟩ | ⟨a, b⟩ | ⟨a, b⟩ | ⟨a, b⟩ | ⟨a, b⟩ | ⟨a, b⟩ | ⟨a, b⟩ | ⟨a, b⟩ | ⟨a, b⟩ | ⟨a, b⟩ | ⟨a, b⟩ | ⟨a, b⟩
  · obtain rfl : k = 9 := gi_eq (a.trans rfl)
    obtain rfl : p = 43 := gi_eq (b.trans rfl)
    exact jw_9 hx hy e1 e2
  · obtain rfl : k = 10 := gi_eq (a.trans rfl)
    obtain rfl : p = 45 := gi_eq (b.trans rfl)
    exact jw_10 hx hy e1 e2
  · obtain rfl : k = 11 := gi_eq (a.trans rfl)
    obtain rfl : p = 42 := gi_eq (b.trans rfl)
    exact jw_11 hx hy e1 e2
  · obtain rfl : k = 12 := gi_eq (a.trans rfl)
    obtain rfl : p = 47 := gi_eq (b.trans rfl)
    exact jw_12 hx hy e1 e2
  · obtain rfl : k = 3 := gi_eq (a.trans rfl)
    obtain rfl : p = 60 := gi_eq (b.trans rfl)
    exact jw_3 hx hy e1 e2
  · obtain rfl : k = 4 := gi_eq (a.trans rfl)
    obtain rfl : p = 300 := gi_eq (b.trans rfl)
    exact jw_4 hx hy e1 e2
  · obtain rfl : k = 5 := gi_eq (a.trans rfl)
    obtain rfl : p = 62 := gi_eq (b.trans rfl)
    exact jw_5 hx hy e1 e2
  · obtain rfl : k = 6 := gi_eq (a.trans rfl)
    obtain rfl : p = 301 := gi_eq (b.trans rfl)
    exact jw_6 hx hy e1 e2
  · obtain rfl : k = 7 := gi_eq (a.trans rfl)
    obtain rfl : p = 61 := gi_eq (b.trans rfl)
    exact jw_7 hx hy e1 e2
  · obtain rfl : k = 8 := gi_eq (a.trans rfl)
    obtain rfl : p = 35 := gi_eq (b.trans rfl)
    exact jw_8 hx hy e1 e2
  · obtain rfl : k = 27 := gi_eq (a.trans rfl)
    obtain rfl : p = 406 := gi_eq (b.trans rfl)
    exact jw_27 hx hy (bx (by decide)).1 (bx (by decide)).2 e1 e2
  · obtain rfl : k = 26 := gi_eq (a.trans rfl)
    obtain rfl : p = 407 := gi_eq (b.trans rfl)
    exact jw_26 hx hy (bx (by decide)).1 (bx (by decide)).2 e1 e2
  · exact absurd a n1
  · exact absurd a n2
/-! the stack and the pile -/
def STK : List Bool → (Nat → Int32) → (Nat → Int64) → Prop
  | [], _, _ => True
  | b :: S, st, pl => (pl S.length).toInt = (st S.length).toInt ∧ MB (st S.length).toInt ∧ (b = true → (st S.length).toInt = 0 ∨ (st S.length).toInt = 1) ∧ STK S st pl
theorem STK_upd {x : Int32} {y : Int64} : ∀ (S : List Bool) {st : Nat → Int32} {pl : Nat → Int64} {i j : Nat}, S.length ≤ i → S.length ≤ j → STK S st pl → STK S (upd st i x) (vp_updL pl j y) := by
  intro S
  induction S with
  | nil => intro st pl i j _ _ _; exact trivial
  | cons b S ih =>
    intro st pl i j hi hj h
    have hi : S.length + 1 ≤ i := hi
    have hj : S.length + 1 ≤ j := hj
    obtain ⟨h1, h2, h3, h4⟩ := h
    have e1 : upd st i x S.length = st S.length := by unfold upd; rw [if_neg (by omega)]
    have e2 : vp_updL pl j y S.length = pl S.length := by unfold vp_updL; rw [if_neg (by omega)]
    refine ⟨?_, ?_, ?_, ih (by omega) (by omega) h4⟩
    · rw [e1, e2]; exact h1
    · rw [e1]; exact h2
    · rw [e1]; exact h3
theorem STK_push {b : Bool} {S : List Bool} {st : Nat → Int32} {pl : Nat → Int64} {x : Int32} {y : Int64} (h : STK S st pl) (e : y.toInt = x.toInt) (m : MB x.toInt) (q : b = true → x.toInt = 0 ∨ x.toInt = 1) : STK (b :: S) (upd st S.length x) (vp_updL pl S.length y) := by
  have e1 : upd st S.length x S.length = x := by unfold upd; rw [if_pos rfl]
  have e2 : vp_updL pl S.length y S.length = y := by unfold vp_updL; rw [if_pos rfl]
  refine ⟨?_, ?_, ?_, STK_upd S (Nat.le_refl _) (Nat.le_refl _) h⟩
  · rw [e1, e2]; exact e
  · rw [e1]; exact m
  · rw [e1]; exact q
theorem step1_num {s : Int} {S S' : List Bool} (h : s < 20000) (st : step1 s S = some S') : S' = false :: S := by
  unfold step1 at st
  rw [if_pos h] at st
  exact (Option.some.inj st).symm
theorem step1_neg {S S' : List Bool} (st : step1 20038 S = some S') : ∃ R : List Bool, S = false :: R ∧ S' = false :: R := by
  unfold step1 at st
  rw [if_neg (by decide), if_pos rfl] at st
  rcases S with _ | ⟨b, R⟩
  · cases st
  · cases b
    · exact ⟨R, rfl, (Option.some.inj st).symm⟩
    · cases st
theorem step1_not {S S' : List Bool} (st : step1 20028 S = some S') : ∃ R : List Bool, S = true :: R ∧ S' = true :: R := by
  unfold step1 at st
  rw [if_neg (by decide), if_neg (by decide), if_pos rfl] at st
  rcases S with _ | ⟨b, R⟩
  · cases st
  · cases b
    · cases st
    · exact ⟨R, rfl, (Option.some.inj st).symm⟩
theorem step1_bin {s : Int} {S S' : List Bool} (h : 20000 ≤ s) (n1 : ¬ s = 20038) (n2 : ¬ s = 20028) (st : step1 s S = some S') : ∃ (R : List Bool) (b c : Bool), S = b :: b :: R ∧ S' = c :: R ∧ ((s - 20000 = 26 ∨ s - 20000 = 27) → b = true) ∧ (c = true → ¬ (9 ≤ s - 20000 ∧ s - 20000 ≤ 12)) := by
  unfold step1 at st
  rw [if_neg (by omega), if_neg n1, if_neg n2] at st
  by_cases c1 : s = 20026 ∨ s = 20027
  · rw [if_pos c1] at st
    rcases S with _ | ⟨b1, _ | ⟨b2, R⟩⟩
    · cases st
    · cases b1 <;> cases st
    · cases b1 <;> cases b2
      · cases st
      · cases st
      · cases st
      · exact ⟨R, true, true, rfl, (Option.some.inj st).symm, fun _ => rfl, fun _ => by omega⟩
  · rw [if_neg c1] at st
    by_cases c2 : 20003 ≤ s ∧ s ≤ 20008
    · rw [if_pos c2] at st
      rcases S with _ | ⟨b1, _ | ⟨b2, R⟩⟩
      · cases st
      · cases b1 <;> cases st
      · cases b1 <;> cases b2
        · exact ⟨R, false, true, rfl, (Option.some.inj st).symm, fun q => by omega, fun _ => by omega⟩
        · cases st
        · cases st
        · cases st
    · rw [if_neg c2] at st
      rcases S with _ | ⟨b1, _ | ⟨b2, R⟩⟩
      · cases st
      · cases b1 <;> cases st
      · cases b1 <;> cases b2
        · exact ⟨R, false, false, rfl, (Option.some.inj st).symm, fun q => by omega, fun q => by cases q⟩
        · cases st
        · cases st
        · cases st
/-! one turn of both -/
theorem i32_m1 (x : Int32) : x + (-1) = x - 1 := (Int32.sub_eq_add_neg x 1).symm
theorem cp_push {h h' : HS} {p : Int64} (e : f_X1_push h p = some h') (t0 : 0 ≤ (eI h 6 3).toInt) (t1 : (eI h 6 3).toInt < 40) : ∃ y : Int32, y.toInt = clampI p.toInt ∧ h' = sI (sA h 6 2 (upd (eA h 6 2) (eI h 6 3).toInt.toNat y)) 6 3 (eI h 6 3 + 1) := by
  have y0 : (0 : Int32).toInt = 0 := rfl
  have y40 : (40 : Int32).toInt = 40 := rfl
  have z1 : (1000000 : Int64).toInt = 1000000 := rfl
  have z2 : (-1000000 : Int64).toInt = -1000000 := rfl
  unfold f_X1_push f_X1_push_55 f_X1_push_66 at e
  rw [if_neg (gi_nlt (by omega)), if_neg (gi_nle (by omega))] at e
  unfold clampI
  by_cases c1 : lg_cmp p 1000000 ≤ 0
  · rw [if_pos c1] at e
    have d1 := q_le c1
    by_cases c2 : 0 ≤ lg_cmp p (-1000000)
    · rw [if_pos c2] at e
      have d2 := q_ge c2
      obtain ⟨-, e⟩ := ob_if e
      refine ⟨p.toInt32, ?_, (Option.some.inj e).symm⟩
      rw [if_neg (by omega), if_neg (by omega), Int64.toInt_toInt32, fb_bmod (by omega) (by omega)]
    · rw [if_neg c2] at e
      have d2 := q_nge c2
      obtain ⟨-, e⟩ := ob_if e
      refine ⟨-1000000, ?_, (Option.some.inj e).symm⟩
      rw [if_neg (by omega), if_pos (by omega)]
      rfl
  · rw [if_neg c1] at e
    have d1 := q_nle c1
    obtain ⟨-, e⟩ := ob_if e
    refine ⟨1000000, ?_, (Option.some.inj e).symm⟩
    rw [if_pos (by omega)]
    rfl
theorem cp_pop {h : HS} {z : Int32 × HS} (e : f_X1_pop h = some z) (t0 : 1 ≤ (eI h 6 3).toInt) (t1 : (eI h 6 3).toInt ≤ 40) : z = (eA h 6 2 ((eI h 6 3).toInt - 1).toNat, sI h 6 3 (eI h 6 3 - 1)) ∧ (eI h 6 3 - 1).toInt = (eI h 6 3).toInt - 1 := by
  have y1 : (1 : Int32).toInt = 1 := rfl
  have y40 : (40 : Int32).toInt = 40 := rfl
  have s := fb_subI (x := eI h 6 3) (y := 1) (by omega) (by omega)
  unfold f_X1_pop at e
  rw [if_neg (gi_nlt (by omega)), if_pos (gi_le (by omega))] at e
  obtain ⟨-, e⟩ := ob_if e
  have ix : (eI h 6 3 - 1).toNatClampNeg = ((eI h 6 3).toInt - 1).toNat := by
    show (eI h 6 3 - 1).toInt.toNat = _
    rw [s, y1]
  rw [ix] at e
  exact ⟨(Option.some.inj e).symm, by omega⟩
theorem ST6 (h : HS) (v : Nat → Int32) (x : Int32) : Fr [(1, 6, 2), (0, 6, 3)] h (sI (sA h 6 2 v) 6 3 x) := Fr_sI (by decide) (Fr_sA (by decide) (Fr_refl _ _))
theorem JT40 (g : HS) (v : Nat → Int64) : Fr [(3, 0, 40)] g (sJ g 0 40 v) := Fr_sJ (by decide) (Fr_refl _ _)
def EVR (h h1 g : HS) (x3 : Int32) (w : Int64 × HS) (S' : List Bool) : Prop := ∃ (m' : Nat) (g1 : HS) (x2' : Int32), f_X9_saysOf_4 m' g1 x2' (x3 + 1) = some w ∧ x2'.toInt = (S'.length : Int) ∧ (eI h1 6 3).toInt = (S'.length : Int) ∧ STK S' (eA h1 6 2) (eJ g1 0 40) ∧ Fr [(1, 6, 2), (0, 6, 3)] h h1 ∧ Fr [(3, 0, 40)] g g1
/-- a number or a name is laid upon both -/
theorem ev_leaf {h h1 g : HS} {p : Int64} {v : Int64} {x2 x3 : Int32} {m : Nat} {w : Int64 × HS} {S : List Bool} (e1 : f_X1_push h p = some h1) (e2 : f_X9_saysOf_75 (f_X9_saysOf_4 m) g x2 x3 v x2 = some w) (pv : p = v) (mb : MB p.toInt) (sl : S.length + 1 ≤ 22) (tp : (eI h 6 3).toInt = (S.length : Int)) (px : x2.toInt = (S.length : Int)) (sk : STK S (eA h 6 2) (eJ g 0 40)) : EVR h h1 g x3 w (false :: S) := by
  have z1 : (1 : Int32).toInt = 1 := rfl
  subst pv
  obtain ⟨y, y1, y2⟩ := cp_push e1 (by omega) (by omega)
  rw [clamp_id mb] at y1
  unfold f_X9_saysOf_75 f_X9_saysOf_169 at e2
  obtain ⟨-, e2⟩ := ob_if e2
  have ix : x2.toNatClampNeg = S.length := by
    show x2.toInt.toNat = _
    omega
  have iy : (eI h 6 3).toInt.toNat = S.length := by omega
  rw [ix] at e2
  rw [iy] at y2
  have a1 := fb_addI (x := x2) (y := 1) (by omega) (by omega)
  have a2 := fb_addI (x := eI h 6 3) (y := 1) (by omega) (by omega)
  subst y2
  refine ⟨m, _, x2 + 1, e2, ?_, ?_, ?_, ST6 _ _ _, JT40 _ _⟩
  · show (x2 + 1).toInt = ((S.length + 1 : Nat) : Int); omega
  · show (eI h 6 3 + 1).toInt = ((S.length + 1 : Nat) : Int); omega
  · exact STK_push sk y1.symm (by rw [y1]; exact mb) (fun q => by cases q)
/-- one value is turned -/
theorem ev_un {h h3 h1 g : HS} {r3 : Int32} {p v : Int64} {x2 x3 : Int32} {m : Nat} {w : Int64 × HS} {b : Bool} {R : List Bool} (e3 : f_X1_pop h = some (r3, h3)) (e1 : f_X1_push h3 p = some h1) (e2 : f_X9_saysOf_4 m (sJ g 0 40 (vp_updL (eJ g 0 40) (x2 - 1).toNatClampNeg v)) x2 (x3 + 1) = some w) (sl : R.length + 1 ≤ 22) (tp : (eI h 6 3).toInt = (R.length : Int) + 1) (px : x2.toInt = (R.length : Int) + 1) (sk : STK R (eA h 6 2) (eJ g 0 40)) (pv : r3 = eA h 6 2 R.length → p.toInt = v.toInt ∧ MB p.toInt ∧ (b = true → p.toInt = 0 ∨ p.toInt = 1)) : EVR h h1 g x3 w (b :: R) := by
  have z1 : (1 : Int32).toInt = 1 := rfl
  obtain ⟨q1, q2⟩ := cp_pop e3 (by omega) (by omega)
  have iz : ((eI h 6 3).toInt - 1).toNat = R.length := by omega
  rw [iz] at q1
  have r3e : r3 = eA h 6 2 R.length := congrArg Prod.fst q1
  have h3e : h3 = sI h 6 3 (eI h 6 3 - 1) := congrArg Prod.snd q1
  obtain ⟨v1, v2, v3⟩ := pv r3e
  have t3 : (eI h3 6 3).toInt = (R.length : Int) := by
    rw [h3e]
    show (eI h 6 3 - 1).toInt = _
    omega
  obtain ⟨y, y1, y2⟩ := cp_push e1 (by omega) (by omega)
  rw [clamp_id v2] at y1
  have iy : (eI h3 6 3).toInt.toNat = R.length := by omega
  rw [iy] at y2
  have s := fb_subI (x := x2) (y := 1) (by omega) (by omega)
  have ix : (x2 - 1).toNatClampNeg = R.length := by
    show (x2 - 1).toInt.toNat = _
    omega
  rw [ix] at e2
  have a2 := fb_addI (x := eI h3 6 3) (y := 1) (by omega) (by omega)
  have st3 : eA h3 6 2 = eA h 6 2 := by rw [h3e]; rfl
  rw [st3] at y2
  have f3 : Fr [(1, 6, 2), (0, 6, 3)] h h3 := by rw [h3e]; exact Fr_sI (by decide) (Fr_refl _ _)
  subst y2
  refine ⟨m, _, x2, e2, ?_, ?_, ?_, Fr_trans f3 (ST6 _ _ _), JT40 _ _⟩
  · show x2.toInt = ((R.length + 1 : Nat) : Int); omega
  · show (eI h3 6 3 + 1).toInt = ((R.length + 1 : Nat) : Int); omega
  · exact STK_push sk (by rw [y1]; exact v1.symm) (by rw [y1]; exact v2) (fun q => by rw [y1]; exact v3 q)
/-- two values are joined -/
theorem ev_bin {h h3 h8 h1 g : HS} {r3 r8 k p : Int32} {r9 r10 : Int64} {x2 x3 : Int32} {m : Nat} {w : Int64 × HS} {b c : Bool} {R : List Bool} (e3 : f_X1_pop h = some (r3, h3)) (e8 : f_X1_pop h3 = some (r8, h8)) (e9 : f_X1_joined k r8.toInt64 r3.toInt64 = some r9) (e1 : f_X1_push h8 r9 = some h1) (e10 : f_X9_worked p (eJ g 0 40 R.length) (eJ g 0 40 (R.length + 1)) = some r10) (e2 : f_X9_saysOf_4 m (sJ g 0 40 (vp_updL (eJ g 0 40) R.length r10)) x2 (x3 + 1) = some w) (o : OPR k.toInt p.toInt) (n1 : ¬ k.toInt = 28) (n2 : ¬ k.toInt = 38) (sl : R.length + 1 ≤ 22) (tp : (eI h 6 3).toInt = (R.length : Int) + 2) (px : x2.toInt = (R.length : Int) + 1) (sk : STK (b :: b :: R) (eA h 6 2) (eJ g 0 40)) (hb : (k.toInt = 26 ∨ k.toInt = 27) → b = true) (hc : c = true → ¬ (9 ≤ k.toInt ∧ k.toInt ≤ 12)) : EVR h h1 g x3 w (c :: R) := by
  have z1 : (1 : Int32).toInt = 1 := rfl
  obtain ⟨q1, q2⟩ := cp_pop e3 (by omega) (by omega)
  have iz : ((eI h 6 3).toInt - 1).toNat = R.length + 1 := by omega
  rw [iz] at q1
  have r3e : r3 = eA h 6 2 (R.length + 1) := congrArg Prod.fst q1
  have h3e : h3 = sI h 6 3 (eI h 6 3 - 1) := congrArg Prod.snd q1
  have t3 : (eI h3 6 3).toInt = (R.length : Int) + 1 := by
    rw [h3e]
    show (eI h 6 3 - 1).toInt = _
    omega
  have st3 : eA h3 6 2 = eA h 6 2 := by rw [h3e]; rfl
  have f3 : Fr [(1, 6, 2), (0, 6, 3)] h h3 := by rw [h3e]; exact Fr_sI (by decide) (Fr_refl _ _)
  obtain ⟨q3, q4⟩ := cp_pop e8 (by omega) (by omega)
  have iw : ((eI h3 6 3).toInt - 1).toNat = R.length := by omega
  rw [iw, st3] at q3
  have r8e : r8 = eA h 6 2 R.length := congrArg Prod.fst q3
  have h8e : h8 = sI h3 6 3 (eI h3 6 3 - 1) := congrArg Prod.snd q3
  have t8 : (eI h8 6 3).toInt = (R.length : Int) := by
    rw [h8e]
    show (eI h3 6 3 - 1).toInt = _
    omega
  have st8 : eA h8 6 2 = eA h 6 2 := by rw [h8e, ← st3]; rfl
  have f8 : Fr [(1, 6, 2), (0, 6, 3)] h3 h8 := by rw [h8e]; exact Fr_sI (by decide) (Fr_refl _ _)
  obtain ⟨s1, s2, s3, s4, s5, s6, s7⟩ := sk
  have s1 : (eJ g 0 40 (R.length + 1)).toInt = (eA h 6 2 (R.length + 1)).toInt := s1
  have s2 : MB (eA h 6 2 (R.length + 1)).toInt := s2
  have s3 : b = true → (eA h 6 2 (R.length + 1)).toInt = 0 ∨ (eA h 6 2 (R.length + 1)).toInt = 1 := s3
  have x8 : r8.toInt64 = eJ g 0 40 R.length := Int64.toInt_inj.mp (by rw [Int32.toInt_toInt64, r8e]; exact s4.symm)
  have x3e : r3.toInt64 = eJ g 0 40 (R.length + 1) := Int64.toInt_inj.mp (by rw [Int32.toInt_toInt64, r3e]; exact s1.symm)
  rw [x8, x3e] at e9
  obtain ⟨j1, j2, j3⟩ := jw o n1 n2 (by rw [s4]; exact s5) (by rw [s1]; exact s2) (fun q => ⟨by rw [s4]; exact s6 (hb q), by rw [s1]; exact s3 (hb q)⟩) e9 e10
  obtain ⟨y, y1, y2⟩ := cp_push e1 (by omega) (by omega)
  rw [j1] at y1
  have iy : (eI h8 6 3).toInt.toNat = R.length := by omega
  rw [iy, st8] at y2
  have a2 := fb_addI (x := eI h8 6 3) (y := 1) (by omega) (by omega)
  subst y2
  refine ⟨m, _, x2, e2, ?_, ?_, ?_, Fr_trans f3 (Fr_trans f8 (ST6 _ _ _)), JT40 _ _⟩
  · show x2.toInt = ((R.length + 1 : Nat) : Int); omega
  · show (eI h8 6 3 + 1).toInt = ((R.length + 1 : Nat) : Int); omega
  · exact STK_push s7 y1.symm (by rw [y1]; exact j2) (fun q => by rw [y1]; exact j3 (hc q))
theorem ev_turn {h h1 g : HS} {s x2 x3 : Int32} {m : Nat} {w : Int64 × HS} {S S' : List Bool} (e1 : f_X1_take h s = some h1) (e2 : f_X9_saysOf_4 m g x2 x3 = some w) (cr : CR s.toInt (eA g 0 12 x3.toInt.toNat).toInt (eA g 0 13 x3.toInt.toNat).toInt) (nm : 10000 ≤ s.toInt → s.toInt < 20000 → eA h 6 1 (s.toInt - 10000).toNat = eA g 0 39 (s.toInt - 10000).toNat ∧ MB (eA h 6 1 (s.toInt - 10000).toNat).toInt) (st : step1 s.toInt S = some S') (sl : S'.length ≤ 22) (tp : (eI h 6 3).toInt = (S.length : Int)) (px : x2.toInt = (S.length : Int)) (sk : STK S (eA h 6 2) (eJ g 0 40)) : EVR h h1 g x3 w S' := by
  have y9 : (9 : Int32).toInt = 9 := rfl
  have y28 : (28 : Int32).toInt = 28 := rfl
  have y38 : (38 : Int32).toInt = 38 := rfl
  have y400 : (400 : Int32).toInt = 400 := rfl
  have y401 : (401 : Int32).toInt = 401 := rfl
  have y402 : (402 : Int32).toInt = 402 := rfl
  have y405 : (405 : Int32).toInt = 405 := rfl
  have y408 : (408 : Int32).toInt = 408 := rfl
  have y1 : (1 : Int32).toInt = 1 := rfl
  have y10000 : (10000 : Int32).toInt = 10000 := rfl
  have y20000 : (20000 : Int32).toInt = 20000 := rfl
  have ix3 : x3.toNatClampNeg = x3.toInt.toNat := rfl
  cases m with
  | zero => cases e2
  | succ m =>
    rw [f_X9_saysOf_4_s, ix3] at e2
    obtain ⟨r3, e2⟩ := ob_if e2
    unfold f_X1_take f_X1_take_128 at e1
    rcases cr with ⟨c1, c2, c3, c4⟩ | ⟨c1, c2, c3, c4⟩ | ⟨c1, c2⟩
    · obtain rfl := step1_num (by omega) st
      rw [if_neg (gi_nle (by omega))] at e1
      obtain ⟨h13, e13, e1⟩ := ob1_some e1
      cases e1
      rw [if_neg (gi_ne (by omega))] at e2
      obtain ⟨-, e2⟩ := ob_if e2
      rw [if_pos (gi_eq (by omega))] at e2
      unfold f_X9_saysOf_40 at e2
      rw [if_pos (gi_eq (by omega)), ix3] at e2
      obtain ⟨-, e2⟩ := ob_if e2
      have ev : eA g 0 13 x3.toInt.toNat = s := gi_eq c4
      rw [ev] at e2
      exact ev_leaf e13 e2 rfl (by rw [Int32.toInt_toInt64]; unfold MB; omega) sl tp px sk
    · obtain rfl := step1_num (by omega) st
      have sb := fb_subI (x := s) (y := 10000) (by omega) (by omega)
      rw [if_pos (gi_le (by omega)), if_neg (gi_nle (by omega)), if_neg (gi_nle (by omega))] at e1
      obtain ⟨-, e1⟩ := ob_if e1
      unfold f_X1_take_47 f_X1_take_128 at e1
      obtain ⟨h13, e13, e1⟩ := ob1_some e1
      cases e1
      rw [if_neg (gi_ne (by omega))] at e2
      obtain ⟨-, e2⟩ := ob_if e2
      rw [if_neg (gi_ne (by omega)), if_pos (gi_eq (by omega))] at e2
      unfold f_X9_saysOf_40 at e2
      rw [if_neg (gi_ne (by omega)), ix3] at e2
      obtain ⟨-, e2⟩ := ob_if e2
      obtain ⟨-, e2⟩ := ob_if e2
      obtain ⟨n1, n2⟩ := nm (by omega) (by omega)
      have i1 : (s - 10000).toNatClampNeg = (s.toInt - 10000).toNat := by
        show (s - 10000).toInt.toNat = _
        rw [sb, y10000]
      have i2 : (eA g 0 13 x3.toInt.toNat).toNatClampNeg = (s.toInt - 10000).toNat := by
        show (eA g 0 13 x3.toInt.toNat).toInt.toNat = _
        rw [c4]
      rw [i1] at e13
      rw [i2] at e2
      exact ev_leaf e13 e2 (by rw [n1]) (by rw [Int32.toInt_toInt64]; exact n2) sl tp px sk
    · have sr := fb_rng s
      have sb := fb_subI (x := s) (y := 20000) (by omega) (by omega)
      rw [y20000] at sb
      rw [if_pos (gi_le (by omega)), if_pos (gi_le (by omega))] at e1
      obtain ⟨r3', h3, e3, e1⟩ := ob2_some e1
      by_cases k28 : s.toInt - 20000 = 28
      · rw [if_pos (gi_eq (by omega))] at e1
        obtain ⟨h5, e5, e1⟩ := ob1_some e1
        cases e1
        rw [show s.toInt = 20028 by omega] at st
        obtain ⟨R, rfl, rfl⟩ := step1_not st
        have od : (eA g 0 12 x3.toInt.toNat).toInt = 405 := by unfold OPR at c2; omega
        rw [if_neg (gi_ne (by omega))] at e2
        obtain ⟨-, e2⟩ := ob_if e2
        rw [if_neg (gi_ne (by omega)), if_neg (gi_ne (by omega)), if_neg (gi_ne (by omega)), if_pos (gi_eq (by omega))] at e2
        obtain ⟨-, e2⟩ := ob_if e2
        obtain ⟨-, e2⟩ := ob_if e2
        unfold f_X9_saysOf_169 at e2
        obtain ⟨s1, s2, s3, s4⟩ := sk
        have tp : (eI h 6 3).toInt = ((R.length + 1 : Nat) : Int) := tp
        have px : x2.toInt = ((R.length + 1 : Nat) : Int) := px
        have xs := fb_subI (x := x2) (y := 1) (by omega) (by omega)
        have ip : (x2 - 1).toNatClampNeg = R.length := by
          show (x2 - 1).toInt.toNat = _
          omega
        refine ev_un e3 e5 e2 sl (by omega) (by omega) s4 (fun q => ?_)
        subst q
        rw [ip]
        have b3 := s3 rfl
        have v : (1 - eA h 6 2 R.length).toInt = 1 - (eA h 6 2 R.length).toInt := by
          have := fb_subI (x := 1) (y := eA h 6 2 R.length) (by omega) (by omega)
          omega
        have u : (1 - eJ g 0 40 R.length).toInt = 1 - (eJ g 0 40 R.length).toInt := by
          have z : (1 : Int64).toInt = 1 := rfl
          have := q_sub (x := 1) (y := eJ g 0 40 R.length) (by rw [z]; unfold MB; omega) (by rw [s1]; exact s2)
          omega
        rw [Int32.toInt_toInt64, v, u, s1]
        exact ⟨rfl, by unfold MB; omega, fun _ => by omega⟩
      · rw [if_neg (gi_ne (by omega))] at e1
        by_cases k38 : s.toInt - 20000 = 38
        · rw [if_pos (gi_eq (by omega))] at e1
          obtain ⟨h5, e5, e1⟩ := ob1_some e1
          cases e1
          rw [show s.toInt = 20038 by omega] at st
          obtain ⟨R, rfl, rfl⟩ := step1_neg st
          have od : (eA g 0 12 x3.toInt.toNat).toInt = 402 := by unfold OPR at c2; omega
          rw [if_neg (gi_ne (by omega))] at e2
          obtain ⟨-, e2⟩ := ob_if e2
          rw [if_neg (gi_ne (by omega)), if_neg (gi_ne (by omega)), if_pos (gi_eq (by omega))] at e2
          obtain ⟨-, e2⟩ := ob_if e2
          obtain ⟨-, e2⟩ := ob_if e2
          unfold f_X9_saysOf_169 at e2
          obtain ⟨s1, s2, s3, s4⟩ := sk
          have tp : (eI h 6 3).toInt = ((R.length + 1 : Nat) : Int) := tp
          have px : x2.toInt = ((R.length + 1 : Nat) : Int) := px
          have xs := fb_subI (x := x2) (y := 1) (by omega) (by omega)
          have ip : (x2 - 1).toNatClampNeg = R.length := by
            show (x2 - 1).toInt.toNat = _
            omega
          refine ev_un e3 e5 e2 sl (by omega) (by omega) s4 (fun q => ?_)
          subst q
          rw [ip]
          have v : (-(eA h 6 2 R.length)).toInt = -(eA h 6 2 R.length).toInt := by
            unfold MB at s2
            rw [Int32.toInt_neg, fb_bmod (by omega) (by omega)]
          have u : (-(eJ g 0 40 R.length)).toInt = -(eJ g 0 40 R.length).toInt := q_neg (by rw [s1]; exact s2)
          rw [Int32.toInt_toInt64, v, u, s1]
          exact ⟨rfl, by unfold MB at *; omega, fun q => by cases q⟩
        · rw [if_neg (gi_ne (by omega))] at e1
          obtain ⟨r8, h8, e8, e1⟩ := ob2_some e1
          obtain ⟨r9, e9, e1⟩ := ob1_some e1
          obtain ⟨h10, e10, e1⟩ := ob1_some e1
          cases e1
          obtain ⟨R, b, c, rfl, rfl, hb, hc⟩ := step1_bin (by omega) (by omega) (by omega) st
          have od : ¬ (eA g 0 12 x3.toInt.toNat).toInt = 408 ∧ ¬ (eA g 0 12 x3.toInt.toNat).toInt = 400 ∧ ¬ (eA g 0 12 x3.toInt.toNat).toInt = 401 ∧ ¬ (eA g 0 12 x3.toInt.toNat).toInt = 402 ∧ ¬ (eA g 0 12 x3.toInt.toNat).toInt = 405 := by unfold OPR at c2; omega
          rw [if_neg (gi_ne (by omega))] at e2
          obtain ⟨-, e2⟩ := ob_if e2
          rw [if_neg (gi_ne (by omega)), if_neg (gi_ne (by omega)), if_neg (gi_ne (by omega)), if_neg (gi_ne (by omega))] at e2
          obtain ⟨-, e2⟩ := ob_if e2
          obtain ⟨-, e2⟩ := ob_if e2
          obtain ⟨r10, e11, e2⟩ := ob1_some e2
          obtain ⟨-, e2⟩ := ob_if e2
          unfold f_X9_saysOf_169 at e2
          have tp : (eI h 6 3).toInt = ((R.length + 1 + 1 : Nat) : Int) := tp
          have px : x2.toInt = ((R.length + 1 + 1 : Nat) : Int) := px
          have sl : R.length + 1 ≤ 22 := sl
          have hy' : (x2 + (-1)).toInt = x2.toInt - 1 := by
            rw [i32_m1]
            have s := fb_subI (x := x2) (y := 1) (by omega) (by omega)
            omega
          generalize x2 + (-1) = y at e2 e11 hy'
          have a2 := fb_subI (x := y) (y := 1) (by omega) (by omega)
          have i1 : y.toNatClampNeg = R.length + 1 := by
            show y.toInt.toNat = _
            omega
          have i2 : (y - 1).toNatClampNeg = R.length := by
            show (y - 1).toInt.toNat = _
            omega
          rw [i1, i2] at e11
          rw [i2] at e2
          exact ev_bin e3 e8 e9 e10 e11 e2 (by rw [sb]; exact c2) (by rw [sb]; exact k28) (by rw [sb]; exact k38) sl (by omega) (by omega) sk (by rw [sb]; exact hb) (by rw [sb]; exact hc)
def hldI (v lim : Int) : Int := if v < 0 then 0 else if lim < v then lim else v
theorem held_ok {v : Int64} {lim r : Int32} (e : f_X9_held v 0 lim = some r) : r.toInt = hldI v.toInt lim.toInt ∨ lim.toInt < 0 := by
  have z0 : (0 : Int32).toInt64.toInt = 0 := rfl
  have y0 : (0 : Int32).toInt = 0 := rfl
  unfold f_X9_held f_X9_held_24 at e
  unfold hldI
  by_cases c1 : 0 ≤ lg_cmp v (0 : Int32).toInt64
  · rw [if_pos c1] at e
    have d1 := q_ge c1
    by_cases c2 : lg_cmp v lim.toInt64 ≤ 0
    · rw [if_pos c2] at e
      have d2 := q_le c2
      rw [Int32.toInt_toInt64] at d2
      cases e
      have lr := fb_rng lim
      left
      rw [if_neg (by omega), if_neg (by omega), Int64.toInt_toInt32, fb_bmod (by omega) (by omega)]
    · rw [if_neg c2] at e
      have d2 := q_nle c2
      rw [Int32.toInt_toInt64] at d2
      cases e
      left
      rw [if_neg (by omega), if_pos (by omega)]
  · rw [if_neg c1] at e
    have d1 := q_nge c1
    cases e
    left
    rw [if_pos (by omega)]
    exact y0
/-- what the class makes of the last value -/
theorem hold_cls {v lim : Int32} (l : 0 ≤ lim.toInt) : (if (0 : Int32) < (if v < lim then v else lim) then (if v < lim then v else lim) else (0 : Int32)).toInt = hldI v.toInt lim.toInt := by
  have y0 : (0 : Int32).toInt = 0 := rfl
  unfold hldI
  by_cases c1 : v < lim
  · rw [if_pos c1]
    have d1 := gi_of_lt c1
    by_cases c2 : (0 : Int32) < v
    · rw [if_pos c2]
      have d2 := gi_of_lt c2
      rw [if_neg (by omega), if_neg (by omega)]
    · rw [if_neg c2]
      have d2 := gi_of_nlt c2
      by_cases c3 : v.toInt < 0
      · rw [if_pos c3]; exact y0
      · rw [if_neg c3, if_neg (by omega)]; omega
  · rw [if_neg c1]
    have d1 := gi_of_nlt c1
    by_cases c2 : (0 : Int32) < lim
    · rw [if_pos c2]
      have d2 := gi_of_lt c2
      rw [if_neg (by omega)]
      by_cases c3 : lim.toInt < v.toInt
      · rw [if_pos c3]
      · rw [if_neg c3]; omega
    · rw [if_neg c2]
      have d2 := gi_of_nlt c2
      rw [if_neg (by omega)]
      by_cases c3 : lim.toInt < v.toInt
      · rw [if_pos c3]; omega
      · rw [if_neg c3]; omega
/-- what both make of a law: the answer as a number, the class's held one -/
def SAYS (lw : Int32) (r : Int32 × HS) (w : Int64 × HS) : Prop := MB w.1.toInt ∧ (lw.toInt = 3 → w.1.toInt = 0 ∨ w.1.toInt = 1) ∧ (lw.toInt = 2 → r.1.toInt = hldI w.1.toInt 99) ∧ (¬ lw.toInt = 2 → r.1.toInt = hldI w.1.toInt 10)
def NMA (st nc nr : Nat → Int32) (a b : Int) : Prop := ∀ i : Nat, a ≤ (i : Int) → (i : Int) < b → 10000 ≤ (st i).toInt → (st i).toInt < 20000 → nc ((st i).toInt - 10000).toNat = nr ((st i).toInt - 10000).toNat ∧ MB (nc ((st i).toInt - 10000).toNat).toInt
theorem ty_cons {st : Nat → Int32} {lim n i : Nat} {S T : List Bool} (h : ty st lim (n + 1) i S = some T) : ∃ S' : List Bool, step1 (st i).toInt S = some S' ∧ S'.length ≤ lim ∧ ty st lim n (i + 1) S' = some T := by
  unfold ty at h
  cases hs : step1 (st i).toInt S with
  | none => rw [hs] at h; cases h
  | some S' =>
    rw [hs] at h
    have h : (if S'.length ≤ lim then ty st lim n (i + 1) S' else none) = some T := h
    obtain ⟨c, h⟩ := ob_if h
    exact ⟨S', rfl, c, h⟩
theorem ev_end {h g : HS} {lw : Int32} {b : Bool} {r : Int32 × HS} {x2 x3 : Int32} {m : Nat} {w : Int64 × HS} (e1 : (if lw = 2 then f_X1_rule_82 h 99 0 else f_X1_rule_82 h 10 0) = some r) (e2 : f_X9_saysOf_4 m g x2 x3 = some w) (od : eA g 0 12 x3.toInt.toNat = 408) (tp : (eI h 6 3).toInt = 1) (sk : STK [b] (eA h 6 2) (eJ g 0 40)) (lb : lw.toInt = 3 → b = true) : SAYS lw r w := by
  have y2 : (2 : Int32).toInt = 2 := rfl
  have ix3 : x3.toNatClampNeg = x3.toInt.toNat := rfl
  obtain ⟨s1, s2, s3, -⟩ := sk
  have s1 : (eJ g 0 40 0).toInt = (eA h 6 2 0).toInt := s1
  have s2 : MB (eA h 6 2 0).toInt := s2
  have s3 : b = true → (eA h 6 2 0).toInt = 0 ∨ (eA h 6 2 0).toInt = 1 := s3
  cases m with
  | zero => cases e2
  | succ m =>
    rw [f_X9_saysOf_4_s, ix3] at e2
    obtain ⟨-, e2⟩ := ob_if e2
    rw [if_pos od] at e2
    have we : w = (eJ g 0 40 0, g) := (Option.some.inj e2).symm
    have main : ∀ lim : Int32, 0 ≤ lim.toInt → f_X1_rule_82 h lim 0 = some r → r.1.toInt = hldI w.1.toInt lim.toInt := by
      intro lim l e
      unfold f_X1_rule_82 at e
      obtain ⟨r43, h43, e43, e⟩ := ob2_some e
      obtain ⟨q1, -⟩ := cp_pop e43 (by omega) (by omega)
      have iz : ((eI h 6 3).toInt - 1).toNat = 0 := by omega
      rw [iz] at q1
      have q2 : r43 = eA h 6 2 0 := congrArg Prod.fst q1
      cases e
      show (if (0 : Int32) < (if r43 < lim then r43 else lim) then (if r43 < lim then r43 else lim) else (0 : Int32)).toInt = _
      rw [hold_cls l, we, q2]
      show hldI (eA h 6 2 0).toInt lim.toInt = hldI (eJ g 0 40 0).toInt lim.toInt
      rw [s1]
    have w1 : w.1.toInt = (eA h 6 2 0).toInt := by rw [we]; exact s1
    refine ⟨by rw [w1]; exact s2, fun q => by rw [w1]; exact s3 (lb q), fun q => ?_, fun q => ?_⟩
    · rw [if_pos (gi_eq (by omega))] at e1
      exact main 99 (by decide) e1
    · rw [if_neg (gi_ne (by omega))] at e1
      exact main 10 (by decide) e1
