/-! text 3: the steps that are read are of one type -/
theorem cst_3 {B : Int → Int} {L : Int} {P : Nat → Int} {h h' : HS} {s : Int32} (e : f_X6_addStep_3 h s = some h') (t0 : L ≤ 300) (t1 : TE B L h P) (t2 : 0 ≤ at_ h) (t3 : at_ h < (eI h 4 3).toInt) (a0 : 0 ≤ (eI h 12 5).toInt) (a1 : (eI h 12 5).toInt < 300) : (eI h' 12 5).toInt = (eI h 12 5).toInt + 1 ∧ eA h' 12 2 = upd (eA h 12 2) (eI h 12 5).toInt.toNat s ∧ at_ h' = at_ h ∧ eI h' 5 0 = eI h 5 0 ∧ kd h' = kd h ∧ ((eI h 12 5).toInt + 1 ≤ at_ h → CT B L P 12 h') := by
  have z1 : (1 : Int32).toInt = 1 := rfl
  have eh := cp_addStep_3 e a0 a1
  have a := fb_addI (x := eI h 12 5) (y := 1) (by omega) (by omega)
  subst eh
  have f : Fr [(1, 12, 2), (0, 12, 5)] h (sI (sA h 12 2 (upd (eA h 12 2) (eI h 12 5).toInt.toNat s)) 12 5 (eI h 12 5 + 1)) := Fr_sI (by decide) (Fr_sA (by decide) (Fr_refl _ _))
  have q : (eI (sI (sA h 12 2 (upd (eA h 12 2) (eI h 12 5).toInt.toNat s)) 12 5 (eI h 12 5 + 1)) 12 5).toInt = (eI h 12 5).toInt + 1 := a.trans (by omega)
  exact ⟨q, rfl, rfl, rfl, rfl, fun l => ⟨t0, TE_fr t1 f (by decide) (by decide) (by decide) (by decide), t2, t3, by omega, by rw [q]; exact l⟩⟩
def TOne_3 (B : Int → Int) (L : Int) (P : Nat → Int) (n : Nat) : Prop := ∀ (h h' : HS) (op : Int32), G_read_3 n 2 h op 0 = some h' → CT B L P 12 h → 0 ≤ op.toInt → op.toInt ≤ 8 → eI h' 5 0 = 0 → CT B L P 12 h' ∧ TYR 12 h h' (17 - 2 * op.toInt) false
def TAsk_3 (B : Int → Int) (L : Int) (P : Nat → Int) (n : Nat) : Prop := ∀ (h h' : HS) (op : Int32), G_read_3 n 1 h op 0 = some h' → CT B L P 12 h → 0 ≤ op.toInt → op.toInt ≤ 8 → eI h' 5 0 = 0 → CT B L P 12 h' ∧ TYR 12 h h' (20 - 2 * op.toInt) true
def TLev_3 (B : Int → Int) (L : Int) (P : Nat → Int) (n : Nat) : Prop := ∀ (l : Int32) (h h' : HS) (op : Int32), G_read_3 n 0 h l op = some h' → 0 ≤ l.toInt → l.toInt ≤ 5 → CT B L P 12 h → 0 ≤ op.toInt → op.toInt ≤ 8 → eI h' 5 0 = 0 → CT B L P 12 h' ∧ TYR 12 h h' (22 - 2 * op.toInt - l.toInt) (decide (l.toInt ≤ 2))
theorem tleaf_3 {B : Int → Int} {L : Int} {P : Nat → Int} {h h1 h' : HS} {s : Int32} (ct : CT B L P 12 h) (k : ¬ kd h = 0) (e1 : f_X6_addStep_3 h s = some h1) (e2 : f_X7_advance h1 = some h') (hs : s.toInt < 20000) : CT B L P 12 h' ∧ TYR 12 h h' 1 false := by
  obtain ⟨t0, t1, t2, t3, t4, t5⟩ := id ct
  have lt : at_ h < 300 := by
    obtain ⟨-, -, u3, u4⟩ := id t1
    have i1 := u4 (eI h 4 4).toInt.toNat (by unfold at_ at *; omega)
    unfold kd at k
    have ne : ¬ (eI h 4 4).toInt = (eI h 4 3).toInt - 1 := fun q => k (i1.2.2.mpr (by unfold at_ at *; omega))
    unfold at_ at *
    omega
  have eh := cp_addStep_3 e1 t4 (by omega)
  obtain ⟨q1, q2, q3, q4, q5, -⟩ := cst_3 e1 t0 t1 t2 t3 t4 (by omega)
  -- advance looks at the tokens alone
  have f1 : Fr [(1, 12, 2), (0, 12, 5)] h h1 := by rw [eh]; exact Fr_sI (by decide) (Fr_sA (by decide) (Fr_refl _ _))
  have te1 : TE B L h1 P := TE_fr t1 f1 (by decide) (by decide) (by decide) (by decide)
  have c43 : eI h1 4 3 = eI h 4 3 := f1.1 4 3 (by decide)
  have z1 : (1 : Int32).toInt = 1 := rfl
  have s1 := fb_subI (x := eI h1 4 3) (y := 1) (by have := te1.2.1; omega) (by have := te1.2.2.1; omega)
  have a44 : eI h1 4 4 = eI h 4 4 := f1.1 4 4 (by decide)
  have ne : ¬ at_ h1 = (eI h1 4 3).toInt - 1 := by
    intro q
    have i1 := te1.2.2.2 (eI h1 4 4).toInt.toNat (by unfold at_ at q; have := te1.2.1; omega)
    have : kd h1 = 0 := i1.2.2.mpr (by unfold at_ at q; have := te1.2.1; omega)
    omega
  unfold f_X7_advance f_X7_advance_23 at e2
  have s2 := fb_addI (x := eI h1 4 4) (y := 1) (by unfold at_ at q3 t2; omega) (by unfold at_ at q3 lt; omega)
  have at1 : at_ h1 = (eI h1 4 4).toInt := rfl
  rw [if_neg (fun c => by have := gi_of_le c; rw [c43] at s1 this ne; omega)] at e2
  have eh' : h' = sI h1 4 4 (eI h1 4 4 + 1) := (Option.some.inj e2).symm
  have at' : at_ h' = at_ h + 1 := by
    rw [eh']
    show (eI h1 4 4 + 1).toInt = _
    omega
  have f2 : Fr [(0, 4, 4)] h1 h' := by rw [eh']; exact Fr_sI (by decide) (Fr_refl _ _)
  have r5 : eI h' 12 5 = eI h1 12 5 := f2.1 12 5 (by decide)
  have r2 : eA h' 12 2 = eA h1 12 2 := f2.2.1 12 2 (by decide)
  refine ⟨⟨t0, TE_fr te1 f2 (by decide) (by decide) (by decide) (by decide), by omega, ?_, by rw [r5]; omega, by rw [r5]; omega⟩, tyr_leaf t4 (by rw [r5]; exact q1) (by rw [r2]; exact q2) at' hs⟩
  rw [f2.1 4 3 (by decide)]
  rw [c43] at ne ⊢
  omega
theorem tone_3 {B : Int → Int} {L : Int} {P : Nat → Int} {n : Nat} (ih1 : TOne_3 B L P n) (ih2 : TLev_3 B L P n) : TOne_3 B L P (n + 1) := by
  have z1 : (1 : Int32).toInt = 1 := rfl
  have z2 : (2 : Int32).toInt = 2 := rfl
  have z3 : (3 : Int32).toInt = 3 := rfl
  have z8 : (8 : Int32).toInt = 8 := rfl
  have z10 : (10 : Int32).toInt = 10 := rfl
  have z13 : (13 : Int32).toInt = 13 := rfl
  have z14 : (14 : Int32).toInt = 14 := rfl
  have z29 : (29 : Int32).toInt = 29 := rfl
  have z37 : (37 : Int32).toInt = 37 := rfl
  have z9999 : (9999 : Int32).toInt = 9999 := rfl
  have z10000 : (10000 : Int32).toInt = 10000 := rfl
  intro h h' op e ct op0 op8 fz
  have e : f_X2_readOne_3_b (fun h p1 p2 => G_read_3 n 0 h p1 p2) (fun h p1 => G_read_3 n 1 h p1 0) (fun h p1 => G_read_3 n 2 h p1 0) h op = some h' := e
  unfold f_X2_readOne_3_b at e
  obtain ⟨r1, h1, e1, e⟩ := ob2_some e
  obtain ⟨q1, q2⟩ := CT_kind ct e1
  obtain rfl : h = h1 := q1.symm
  replace q2 : r1.toInt = kd h := q2
  by_cases k2 : kd h = 2
  · rw [if_pos (gi_eq (by omega))] at e
    obtain ⟨h6, e6, e⟩ := ob1_some e
    unfold f_X2_readOne_3_121 at e
    cases e
    unfold f_X2_readValue_3 at e6
    obtain ⟨r3, h3, e3, e6⟩ := ob2_some e6
    obtain ⟨q3, q4⟩ := CT_value ct e3
    obtain rfl : h = h3 := q3.symm
    by_cases c : r3 ≤ 9999
    · rw [if_pos c] at e6
      have dc := gi_of_le c
      obtain ⟨r5, h5, e5, e6⟩ := ob2_some e6
      obtain ⟨q5, q6⟩ := CT_value ct e5
      obtain rfl : h = h5 := q5.symm
      obtain ⟨h7, e7, e6⟩ := ob1_some e6
      obtain ⟨h8, e8, e6⟩ := ob1_some e6
      cases e6
      replace q4 : r3.toInt = vl h := q4
      replace q6 : r5.toInt = vl h := q6
      obtain ⟨y1, y2⟩ := tleaf_3 ct (by omega) e7 e8 (by omega)
      exact ⟨y1, TYR_le y2 (by omega)⟩
    · rw [if_neg c] at e6
      obtain ⟨h7, e7, e6⟩ := ob1_some e6
      cases e6
      exact absurd fz (fail_nz e7 (by decide))
  · rw [if_neg (fun q => by have := gi_of_eq q; omega)] at e
    have go44 : f_X2_readOne_3_44 (fun h p1 p2 => G_read_3 n 0 h p1 p2) (fun h p1 => G_read_3 n 1 h p1 0) (fun h p1 => G_read_3 n 2 h p1 0) h op r1 = some h' → CT B L P 12 h' ∧ TYR 12 h h' (17 - 2 * op.toInt) false := by
      intro e
      unfold f_X2_readOne_3_44 at e
      have opens : ∀ (a : Int32 × HS), f_X2_opens h op = some a → ¬ kd h = 0 → (¬ eI a.2 5 0 = 0 ∧ a.1 = 0) ∨ (a.1 = 1 ∧ op.toInt < 8 ∧ CT B L P 12 a.2 ∧ at_ a.2 = at_ h + 1 ∧ eI a.2 12 5 = eI h 12 5 ∧ eA a.2 12 2 = eA h 12 2) := by
        intro a ea nk
        unfold f_X2_opens at ea
        by_cases c : op < 8
        · rw [if_pos c] at ea
          obtain ⟨h2, e2, ea⟩ := ob1_some ea
          cases ea
          obtain ⟨y1, y2, y3, y4, y5, y6⟩ := CT_adv (by decide) ct nk e2
          exact Or.inr ⟨rfl, by have := gi_of_lt c; omega, y1, y2, y4, y5⟩
        · rw [if_neg c] at ea
          obtain ⟨h2, e2, ea⟩ := ob1_some ea
          cases ea
          exact Or.inl ⟨fail_nz e2 (by decide), rfl⟩
      by_cases c13 : r1 = 13
      · rw [if_pos c13] at e
        have d13 := gi_of_eq c13
        obtain ⟨r14, h14, e14, e⟩ := ob2_some e
        rcases opens _ e14 (by omega) with ⟨y1, y2⟩ | ⟨y1, y2, y3, y4, y5, y6⟩
        · replace y2 : r14 = 0 := y2
          rw [if_pos y2] at e
          unfold f_X2_readOne_3_121 at e
          cases e
          exact absurd fz y1
        · replace y1 : r14 = 1 := y1
          rw [if_neg (by rw [y1]; decide)] at e
          obtain ⟨h16, e16, e⟩ := ob1_some e
          obtain ⟨h17, e17, e⟩ := ob1_some e
          unfold f_X2_readOne_3_121 at e
          cases e
          have f16 : eI h16 5 0 = 0 := kf_f_X2_expect _ _ _ e17 fz
          have a1 := fb_addI (x := op) (y := 1) (by omega) (by omega)
          obtain ⟨w1, w2⟩ := ih2 3 h14 h16 (op + 1) e16 (by omega) (by omega) y3 (by omega) (by omega) f16
          unfold f_X2_expect f_X2_expect_29 at e17
          rw [if_pos f16] at e17
          obtain ⟨rk1, hk, ek, e17⟩ := ob2_some e17
          obtain ⟨u1, u2⟩ := CT_kind w1 ek
          obtain rfl : h16 = hk := u1.symm
          replace u2 : rk1.toInt = kd h16 := u2
          by_cases c14 : rk1 = 14
          · rw [if_pos c14] at e17
            have d14 := gi_of_eq c14
            obtain ⟨h5, e5, e17⟩ := ob1_some e17
            cases e17
            obtain ⟨v1, v2, v3, v4, v5, v6⟩ := CT_adv (by decide) w1 (by omega) e5
            refine ⟨v1, TYR_le (tyr_wrap y5 y6 y4 w2 v4 v5 v2) (by omega)⟩
          · rw [if_neg c14] at e17
            obtain ⟨h4, e4, e17⟩ := ob1_some e17
            cases e17
            exact absurd fz (fail_nz e4 (by decide))
      · rw [if_neg c13] at e
        by_cases c10 : r1 = 10
        · rw [if_pos c10] at e
          have d10 := gi_of_eq c10
          obtain ⟨r10, h10, e10, e⟩ := ob2_some e
          rcases opens _ e10 (by omega) with ⟨y1, y2⟩ | ⟨y1, y2, y3, y4, y5, y6⟩
          · replace y2 : r10 = 0 := y2
            rw [if_pos y2] at e
            unfold f_X2_readOne_3_121 at e
            cases e
            exact absurd fz y1
          · replace y1 : r10 = 1 := y1
            rw [if_neg (by rw [y1]; decide)] at e
            obtain ⟨h12, e12, e⟩ := ob1_some e
            obtain ⟨h13, e13, e⟩ := ob1_some e
            unfold f_X2_readOne_3_121 at e
            cases e
            have f12 : eI h12 5 0 = 0 := by rw [← (w_f_X6_addStep_3 _ _ _ e13).1 5 0 (by decide)]; exact fz
            have a1 := fb_addI (x := op) (y := 1) (by omega) (by omega)
            obtain ⟨w1, w2⟩ := ih1 h10 h12 (op + 1) e12 y3 (by omega) (by omega) f12
            obtain ⟨t0, t1, t2, t3, t4, t5⟩ := id w1
            have tc := t1.2.2.1
            replace y4 : at_ h10 = at_ h + 1 := y4
            replace y5 : eI h10 12 5 = eI h 12 5 := y5
            have l1 := w2.2.1
            have l0 := ct.2.2.2.2.2
            rw [y5] at l1
            obtain ⟨v1, v2, v3, v4, v5, v6⟩ := cst_3 e13 t0 t1 t2 t3 t4 (by omega)
            exact ⟨v6 (by omega), TYR_le (tyr_un ct.2.2.2.2.1 y5 y6 y4 w2 v1 v2 v3 (fun S => rfl) (by omega)) (by omega)⟩
        · rw [if_neg c10] at e
          obtain ⟨h9, e9, e⟩ := ob1_some e
          unfold f_X2_readOne_3_121 at e
          cases e
          exact absurd fz (fail_nz e9 (by decide))
    by_cases c29 : r1 < 29
    · rw [if_pos c29] at e
      exact go44 e
    · rw [if_neg c29] at e
      have d29 := gi_of_nlt c29
      by_cases c37 : (37 : Int32) < r1
      · rw [if_pos c37] at e
        exact go44 e
      · rw [if_neg c37] at e
        have d37 := gi_of_nlt c37
        obtain ⟨h5, e5, e⟩ := ob1_some e
        unfold f_X2_readOne_3_121 at e
        cases e
        unfold f_X2_readName_3 at e5
        obtain ⟨r3, h3, e3, e5⟩ := ob2_some e5
        obtain ⟨q3, q4⟩ := CT_kind ct e3
        obtain rfl : h = h3 := q3.symm
        have good : f_X2_readName_3_31 h = some h' → CT B L P 12 h' ∧ TYR 12 h h' (17 - 2 * op.toInt) false := by
          intro e6
          unfold f_X2_readName_3_31 at e6
          obtain ⟨r5, h6, e6', e6⟩ := ob2_some e6
          obtain ⟨q5, q6⟩ := CT_kind ct e6'
          obtain rfl : h = h6 := q5.symm
          replace q6 : r5.toInt = kd h := q6
          obtain ⟨h7, e7, e6⟩ := ob1_some e6
          obtain ⟨h8, e8, e6⟩ := ob1_some e6
          cases e6
          have u1 := fb_addI (x := 10000) (y := r5) (by omega) (by omega)
          have u2 := fb_subI (x := 10000 + r5) (y := 29) (by omega) (by omega)
          obtain ⟨y1, y2⟩ := tleaf_3 ct (by omega) e7 e8 (by omega)
          exact ⟨y1, TYR_le y2 (by omega)⟩
        by_cases c35 : r3 < 35
        · rw [if_pos c35] at e5; exact good e5
        · rw [if_neg c35] at e5
          by_cases c0 : eI h 5 2 = 0
          · rw [if_pos c0] at e5; exact good e5
          · rw [if_neg c0] at e5
            by_cases c1 : eI h 5 2 = 1
            · rw [if_pos c1] at e5; exact good e5
            · rw [if_neg c1] at e5
              obtain ⟨h6, e6, e5⟩ := ob1_some e5
              cases e5
              exact absurd fz (fail_nz e6 (by decide))
theorem task_3 {B : Int → Int} {L : Int} {P : Nat → Int} {n : Nat} (ih1 : TAsk_3 B L P n) (ih2 : TLev_3 B L P n) : TAsk_3 B L P (n + 1) := by
  have z1 : (1 : Int32).toInt = 1 := rfl
  have z3 : (3 : Int32).toInt = 3 := rfl
  have z8 : (8 : Int32).toInt = 8 := rfl
  have z28 : (28 : Int32).toInt = 28 := rfl
  have z20000 : (20000 : Int32).toInt = 20000 := rfl
  intro h h' op e ct op0 op8 fz
  have e : f_X2_readAsk_3_b (fun h p1 p2 => G_read_3 n 0 h p1 p2) (fun h p1 => G_read_3 n 1 h p1 0) (fun h p1 => G_read_3 n 2 h p1 0) h op = some h' := e
  unfold f_X2_readAsk_3_b at e
  obtain ⟨r1, h1, e1, e⟩ := ob2_some e
  obtain ⟨q1, q2⟩ := CT_kind ct e1
  obtain rfl : h = h1 := q1.symm
  replace q2 : r1.toInt = kd h := q2
  by_cases c28 : r1 = 28
  · rw [if_pos c28] at e
    have d28 := gi_of_eq c28
    obtain ⟨r7, h7, e7, e⟩ := ob2_some e
    unfold f_X2_opens at e7
    by_cases c : op < 8
    · rw [if_pos c] at e7
      have dc := gi_of_lt c
      obtain ⟨h2, e2, e7⟩ := ob1_some e7
      cases e7
      obtain ⟨y1, y2, y3, y4, y5, y6⟩ := CT_adv (by decide) ct (by omega) e2
      rw [if_neg (by decide)] at e
      obtain ⟨h9, e9, e⟩ := ob1_some e
      obtain ⟨h10, e10, e⟩ := ob1_some e
      unfold f_X2_readAsk_3_34 at e
      cases e
      have f9 : eI h9 5 0 = 0 := by rw [← (w_f_X6_addStep_3 _ _ _ e10).1 5 0 (by decide)]; exact fz
      have a1 := fb_addI (x := op) (y := 1) (by omega) (by omega)
      obtain ⟨w1, w2⟩ := ih1 h7 h9 (op + 1) e9 y1 (by omega) (by omega) f9
      obtain ⟨t0, t1, t2, t3, t4, t5⟩ := id w1
      have tc := t1.2.2.1
      have l1 := w2.2.1
      have l0 := ct.2.2.2.2.2
      rw [y4] at l1
      obtain ⟨v1, v2, v3, v4, v5, v6⟩ := cst_3 e10 t0 t1 t2 t3 t4 (by omega)
      exact ⟨v6 (by omega), TYR_le (tyr_un ct.2.2.2.2.1 y4 y5 y2 w2 v1 v2 v3 (fun S => rfl) (by omega)) (by omega)⟩
    · rw [if_neg c] at e7
      obtain ⟨h2, e2, e7⟩ := ob1_some e7
      cases e7
      rw [if_pos rfl] at e
      unfold f_X2_readAsk_3_34 at e
      cases e
      exact absurd fz (fail_nz e2 (by decide))
  · rw [if_neg c28] at e
    obtain ⟨h3, e3, e⟩ := ob1_some e
    obtain ⟨r4, h4, e4, e⟩ := ob2_some e
    have k4 : h4 = h3 := cp_kind_same e4
    obtain rfl : h3 = h4 := k4.symm
    have no62 : f_X2_readAsk_3_62 (fun h p1 p2 => G_read_3 n 0 h p1 p2) (fun h p1 => G_read_3 n 1 h p1 0) (fun h p1 => G_read_3 n 2 h p1 0) h3 op r4 = some h' → False := by
      intro e
      unfold f_X2_readAsk_3_62 at e
      obtain ⟨h5, e5, e⟩ := ob1_some e
      have nz := fail_nz e5 (by decide)
      unfold f_X2_readAsk_3_68 f_X2_readAsk_3_97 at e
      rw [if_neg nz] at e
      cases e
      exact nz fz
    by_cases c3 : r4 < 3
    · rw [if_pos c3] at e; exact absurd e no62
    · rw [if_neg c3] at e
      have d3 := gi_of_nlt c3
      by_cases c8 : r4 ≤ 8
      · rw [if_pos c8] at e
        have d8 := gi_of_le c8
        unfold f_X2_readAsk_3_68 f_X2_readAsk_3_97 at e
        by_cases p0 : eI h3 5 0 = 0
        · rw [if_pos p0] at e
          obtain ⟨w1, w2⟩ := ih2 3 h h3 op e3 (by omega) (by omega) ct op0 op8 p0
          obtain ⟨u1, u2⟩ := CT_kind w1 e4
          replace u2 : r4.toInt = kd h3 := u2
          obtain ⟨h13, e13, e⟩ := ob1_some e
          obtain ⟨h14, e14, e⟩ := ob1_some e
          obtain ⟨h15, e15, e⟩ := ob1_some e
          cases e
          obtain ⟨y1, y2, y3, y4, y5, y6⟩ := CT_adv (by decide) w1 (by omega) e13
          have f14 : eI h14 5 0 = 0 := by rw [← (w_f_X6_addStep_3 _ _ _ e15).1 5 0 (by decide)]; exact fz
          obtain ⟨x1, x2⟩ := ih2 3 h13 h14 op e14 (by omega) (by omega) y1 op0 op8 f14
          obtain ⟨t0, t1, t2, t3, t4, t5⟩ := id x1
          have tc := t1.2.2.1
          have l1 := x2.2.1
          have l2 := w2.2.1
          have l0 := ct.2.2.2.2.2
          rw [y4] at l1
          obtain ⟨v1, v2, v3, v4, v5, v6⟩ := cst_3 e15 t0 t1 t2 t3 t4 (by omega)
          have b3 : decide ((3 : Int32).toInt ≤ 2) = false := by decide
          rw [b3] at w2 x2
          have us := fb_addI (x := 20000) (y := r4) (by omega) (by omega)
          refine ⟨v6 (by omega), tyr_bin ct.2.2.2.2.1 w2 y4 y5 y2 x2 v1 v2 v3 (fun S => ?_) (by omega) (by omega) (by omega)⟩
          unfold step1
          rw [if_neg (by omega), if_neg (by omega), if_neg (by omega), if_neg (by omega), if_pos (by omega)]
        · rw [if_neg p0] at e
          cases e
          exact absurd fz p0
      · rw [if_neg c8] at e; exact absurd e no62
theorem tloop_3 {B : Int → Int} {L : Int} {P : Nat → Int} {n : Nat} (ih3 : TLev_3 B L P n) {l op : Int32} (hl : 0 ≤ l.toInt ∧ l.toInt ≤ 4 ∧ ¬ l.toInt = 2) (op0 : 0 ≤ op.toInt) (op8 : op.toInt ≤ 8) {h h' : HS} (ct : CT B L P 12 h) (fz : eI h' 5 0 = 0) : ∀ (k : Nat) (h3 : HS) (x5 : Int32), f_X2_readLevel_3_42 (fun h p1 p2 => G_read_3 n 0 h p1 p2) (fun h p1 => G_read_3 n 1 h p1 0) (fun h p1 => G_read_3 n 2 h p1 0) k h3 l op x5 = some h' → CT B L P 12 h3 → TYR 12 h h3 (22 - 2 * op.toInt - l.toInt) (decide (l.toInt ≤ 2)) → CT B L P 12 h' ∧ TYR 12 h h' (22 - 2 * op.toInt - l.toInt) (decide (l.toInt ≤ 2)) := by
  have z1 : (1 : Int32).toInt = 1 := rfl
  have z20000 : (20000 : Int32).toInt = 20000 := rfl
  have al := fb_addI (x := l) (y := 1) (by omega) (by omega)
  intro k
  induction k with
  | zero => intro h3 x5 e; cases e
  | succ k ihk =>
    intro h3 x5 e c3 y3
    rw [f_X2_readLevel_3_42_s] at e
    unfold f_X2_readLevel_3_105 at e
    have stop : some h3 = some h' → CT B L P 12 h' ∧ TYR 12 h h' (22 - 2 * op.toInt - l.toInt) (decide (l.toInt ≤ 2)) := by
      intro q
      cases q
      exact ⟨c3, y3⟩
    by_cases c1 : (300 : Int32) ≤ x5
    · rw [if_pos c1] at e; exact stop e
    · rw [if_neg c1] at e
      by_cases p0 : eI h3 5 0 = 0
      · rw [if_pos p0] at e
        obtain ⟨r8, h8, e8, e⟩ := ob2_some e
        obtain ⟨u1, u2⟩ := CT_kind c3 e8
        obtain rfl : h3 = h8 := u1.symm
        replace u2 : r8.toInt = kd h3 := u2
        obtain ⟨r9, e9, e⟩ := ob1_some e
        have u9 := cp_levelOf e9
        rw [u2] at u9
        by_cases c9 : r9 = l
        · rw [if_pos c9] at e
          have d9 := gi_of_eq c9
          obtain ⟨r11, h11, e11, e⟩ := ob2_some e
          obtain ⟨u3, u4⟩ := CT_kind c3 e11
          obtain rfl : h3 = h11 := u3.symm
          replace u4 : r11.toInt = kd h3 := u4
          obtain ⟨h12, e12, e⟩ := ob1_some e
          obtain ⟨h13, e13, e⟩ := ob1_some e
          obtain ⟨h14, e14, e⟩ := ob1_some e
          have sp := lv_spec (kd h3)
          obtain ⟨a1, a2, a3, a4, a5, a6⟩ := CT_adv (by decide) c3 (by omega) e12
          have f14 : eI h14 5 0 = 0 := kf_f_X2_readLevel_3_42 _ (fun h p1 p2 => kf_G_read_3 n 0 h p1 p2) _ (fun h p1 => kf_G_read_3 n 1 h p1 0) _ (fun h p1 => kf_G_read_3 n 2 h p1 0) _ _ _ _ _ _ e fz
          have f13 : eI h13 5 0 = 0 := by rw [← (w_f_X6_addStep_3 _ _ _ e14).1 5 0 (by decide)]; exact f14
          obtain ⟨w1, w2⟩ := ih3 (l + 1) h12 h13 op e13 (by omega) (by omega) a1 op0 op8 f13
          rw [show (l + 1).toInt = l.toInt + 1 by omega] at w2
          have bb : decide (l.toInt + 1 ≤ 2) = decide (l.toInt ≤ 2) := by
            by_cases q : l.toInt ≤ 2
            · rw [decide_eq_true q, decide_eq_true (by omega)]
            · rw [decide_eq_false q, decide_eq_false (by omega)]
          rw [bb] at w2
          obtain ⟨t0, t1, t2, t3, t4, t5⟩ := id w1
          have tc := t1.2.2.1
          have l1 := w2.2.1
          have l2 := y3.2.1
          have l0 := ct.2.2.2.2.2
          rw [a4] at l1
          obtain ⟨v1, v2, v3, v4, v5, v6⟩ := cst_3 e14 t0 t1 t2 t3 t4 (by omega)
          have us := fb_addI (x := 20000) (y := r11) (by omega) (by omega)
          refine ihk h14 (x5 + 1) e (v6 (by omega)) (tyr_bin ct.2.2.2.2.1 y3 a4 a5 a2 w2 v1 v2 v3 (fun S => ?_) (by omega) (by omega) (by omega))
          unfold step1
          by_cases q : l.toInt ≤ 2
          · rw [decide_eq_true q]
            rw [if_neg (by omega), if_neg (by omega), if_neg (by omega), if_pos (by omega)]
          · rw [decide_eq_false q]
            rw [if_neg (by omega), if_neg (by omega), if_neg (by omega), if_neg (by omega), if_neg (by omega)]
        · rw [if_neg c9] at e; exact stop e
      · rw [if_neg p0] at e; exact stop e
theorem tlev_3 {B : Int → Int} {L : Int} {P : Nat → Int} {n : Nat} (ih1 : TOne_3 B L P n) (ih2 : TAsk_3 B L P n) (ih3 : TLev_3 B L P n) : TLev_3 B L P (n + 1) := by
  have z1 : (1 : Int32).toInt = 1 := rfl
  have z2 : (2 : Int32).toInt = 2 := rfl
  have z5 : (5 : Int32).toInt = 5 := rfl
  intro l h h' op e l0 l5 ct op0 op8 fz
  have e : f_X2_readLevel_3_b (fun h p1 p2 => G_read_3 n 0 h p1 p2) (fun h p1 => G_read_3 n 1 h p1 0) (fun h p1 => G_read_3 n 2 h p1 0) h l op = some h' := e
  unfold f_X2_readLevel_3_b at e
  by_cases c2 : l = 2
  · rw [if_pos c2] at e
    have d2 := gi_of_eq c2
    obtain ⟨h5, e5, e⟩ := ob1_some e
    cases e
    obtain ⟨y1, y2⟩ := ih2 h h' op e5 ct op0 op8 fz
    rw [show decide (l.toInt ≤ 2) = true from decide_eq_true (by omega)]
    exact ⟨y1, TYR_le y2 (by omega)⟩
  · rw [if_neg c2] at e
    have d2 := gi_of_ne c2
    by_cases c5 : l = 5
    · rw [if_pos c5] at e
      have d5 := gi_of_eq c5
      obtain ⟨h5, e5, e⟩ := ob1_some e
      cases e
      obtain ⟨y1, y2⟩ := ih1 h h' op e5 ct op0 op8 fz
      rw [show decide (l.toInt ≤ 2) = false from decide_eq_false (by omega)]
      exact ⟨y1, TYR_le y2 (by omega)⟩
    · rw [if_neg c5] at e
      have d5 := gi_of_ne c5
      obtain ⟨h3, e3, e⟩ := ob1_some e
      have al := fb_addI (x := l) (y := 1) (by omega) (by omega)
      have f3 : eI h3 5 0 = 0 := kf_f_X2_readLevel_3_42 _ (fun h p1 p2 => kf_G_read_3 n 0 h p1 p2) _ (fun h p1 => kf_G_read_3 n 1 h p1 0) _ (fun h p1 => kf_G_read_3 n 2 h p1 0) _ _ _ _ _ _ e fz
      obtain ⟨y1, y2⟩ := ih3 (l + 1) h h3 op e3 (by omega) (by omega) ct op0 op8 f3
      rw [show (l + 1).toInt = l.toInt + 1 by omega] at y2
      have bb : decide (l.toInt + 1 ≤ 2) = decide (l.toInt ≤ 2) := by
        by_cases q : l.toInt ≤ 2
        · rw [decide_eq_true q, decide_eq_true (by omega)]
        · rw [decide_eq_false q, decide_eq_false (by omega)]
      rw [bb] at y2
      exact tloop_3 ih3 ⟨l0, by omega, by omega⟩ op0 op8 ct fz _ h3 0 e y1 (TYR_le y2 (by omega))
theorem types_3 (B : Int → Int) (L : Int) (P : Nat → Int) : ∀ n : Nat, TOne_3 B L P n ∧ TAsk_3 B L P n ∧ TLev_3 B L P n := by
  intro n
  induction n with
  | zero =>
    refine ⟨?_, ?_, ?_⟩
    · intro h h' op e
      exact absurd e (by simp [G_read_3])
    · intro h h' op e
      exact absurd e (by simp [G_read_3])
    · intro l h h' op e
      exact absurd e (by simp [G_read_3])
  | succ n ih => exact ⟨tone_3 ih.1 ih.2.2, task_3 ih.2.1 ih.2.2, tlev_3 ih.1 ih.2.1 ih.2.2⟩
