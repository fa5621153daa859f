/-! text 1: what the class reads and what the reference reads -/
theorem cp_addStep_1 {h h' : HS} {s : Int32} (e : f_X6_addStep_1 h s = some h') (a0 : 0 ≤ (eI h 10 5).toInt) (a1 : (eI h 10 5).toInt < 300) : h' = sI (sA h 10 2 (upd (eA h 10 2) (eI h 10 5).toInt.toNat s)) 10 5 (eI h 10 5 + 1) := by
  have z : (300 : Int32).toInt = 300 := rfl
  unfold f_X6_addStep_1 f_X6_addStep_1_32 at e
  rw [if_neg (fun c => by have := gi_of_le c; omega)] at e
  obtain ⟨-, e⟩ := ob_if e
  cases e
  rfl
theorem leaf_1 {B : Int → Int} {L : Int} {P : Nat → Int} {d : Nat} {op : Int} {h h1 h' g g1 g2 : HS} {s p v : Int32} (x : PRE B L P 10 d op h g) (k : ¬ kd h = 0) (e1 : f_X6_addStep_1 h s = some h1) (e2 : f_X7_advance h1 = some h') (e3 : f_X9_emits g p v = some g1) (e4 : f_X9_next g1 = some g2) (hc : CR s.toInt p.toInt v.toInt) : RES B L P 10 d h g h' g2 [] := by
  have z1 : (1 : Int32).toInt = 1 := rfl
  obtain ⟨t, f0, g0, -, -, wf, b, ⟨s0, s1⟩, -⟩ := x
  have ta := TT_lt t k
  have eh1 := cp_addStep_1 e1 s0 (by omega)
  subst eh1
  have fh : Fr [(1, 10, 2), (0, 10, 5)] h (sI (sA h 10 2 (upd (eA h 10 2) (eI h 10 5).toInt.toNat s)) 10 5 (eI h 10 5 + 1)) := Fr_sI (by decide) (Fr_sA (by decide) (Fr_refl _ _))
  have t1 := TT_h t fh (by decide) (by decide) (by decide) (by decide) (by decide)
  obtain ⟨⟨q1, q2⟩, eg1⟩ := mp_emits e3
  subst eg1
  have fg : Fr [(1, 0, 37), (1, 0, 38), (0, 0, 36)] g (sI (sA (sA g 0 37 (upd (eA g 0 37) (eI g 0 36).toInt.toNat p)) 0 38 (upd (eA g 0 38) (eI g 0 36).toInt.toNat v)) 0 36 (eI g 0 36 + 1)) := Fr_sI (by decide) (Fr_sA (by decide) (Fr_sA (by decide) (Fr_refl _ _)))
  obtain ⟨t2, eh, ea⟩ := TT_adv t1 k e2 fg (by decide) (by decide) (by decide) e4
  have fn := w_f_X9_next _ _ e4
  subst eh
  have a1 := fb_addI (x := eI h 10 5) (y := 1) (by omega) (by omega)
  have a2 := fb_addI (x := eI g 0 36) (y := 1) (by omega) (by omega)
  refine ⟨t2, f0, (fn.1 0 19 (by decide)).trans g0, ⟨fn.1 0 22 (by decide), fn.1 0 21 (by decide), fun i _ => by rw [fn.2.1 0 23 (by decide)]; rfl, fun i _ => by rw [fn.2.1 0 24 (by decide)]; rfl⟩, WW_nil (fn.1 0 25 (by decide)) (fn.2.1 0 26 (by decide)) (fn.2.1 0 27 (by decide)), ?_, ?_, Fr_trans (Fr_mono (by decide) fg) (Fr_mono (by decide) fn), rfl⟩
  · refine CC_same (CC_emit (h2 := sI (sA h 10 2 (upd (eA h 10 2) (eI h 10 5).toInt.toNat s)) 10 5 (eI h 10 5 + 1)) (g2 := sI (sA (sA g 0 37 (upd (eA g 0 37) (eI g 0 36).toInt.toNat p)) 0 38 (upd (eA g 0 38) (eI g 0 36).toInt.toNat v)) 0 36 (eI g 0 36 + 1)) (CC_refl s0 b) ?_ rfl ?_ rfl rfl hc) rfl rfl (fn.1 0 36 (by decide)) (fn.2.1 0 37 (by decide)) (fn.2.1 0 38 (by decide))
    · show (eI h 10 5 + 1).toInt = _; omega
    · show (eI g 0 36 + 1).toInt = _; omega
  · rw [ea]
    show (eI h 10 5 + 1).toInt - (eI h 10 5).toInt ≤ at_ h + 1 - at_ h
    omega
def OneS_1 (B : Int → Int) (L : Int) (P : Nat → Int) (d : Nat) (n : Nat) : Prop := ∀ (h h' g : HS) (N : Nat) (r : Int32 × HS) (op : Int32), G_read_1 n 2 h op 0 = some h' → PRE B L P 10 d op.toInt h g → (eI g 0 28).toInt = 1 → 1 ≤ (eI g 0 22).toInt → f_X9_text_74 N g = some r → BAD r h' g ∨ ∃ (N' m : Nat) (g1 g' : HS), f_X9_oneIsOver_0 m g1 = some g' ∧ f_X9_text_74 N' g' = some r ∧ RES B L P 10 d h g h' g1 []
def AskS_1 (B : Int → Int) (L : Int) (P : Nat → Int) (d : Nat) (n : Nat) : Prop := ∀ (h h' g : HS) (N : Nat) (r : Int32 × HS) (op : Int32), G_read_1 n 1 h op 0 = some h' → PRE B L P 10 d op.toInt h g → (eI g 0 28).toInt = 0 → 1 ≤ (eI g 0 22).toInt → f_X9_text_74 N g = some r → BAD r h' g ∨ ∃ (N' m : Nat) (g1 g' : HS), f_X9_askIsOver_0 m g1 = some g' ∧ f_X9_text_74 N' g' = some r ∧ RES B L P 10 d h g h' g1 []
def LevS_1 (B : Int → Int) (L : Int) (P : Nat → Int) (d : Nat) (n : Nat) : Prop := ∀ (l : Int32) (h h' g : HS) (N : Nat) (r : Int32 × HS) (op : Int32), G_read_1 n 0 h l op = some h' → 0 ≤ l.toInt → l.toInt ≤ 5 → PRE B L P 10 d op.toInt h g → ((l.toInt ≤ 2 ∧ (eI g 0 28).toInt = 0) ∨ (3 ≤ l.toInt ∧ (eI g 0 28).toInt = 1)) → 1 ≤ (eI g 0 22).toInt → ¬ (eA g 0 23 ((eI g 0 22).toInt.toNat - 1)).toInt = 7 → ¬ (eA g 0 23 ((eI g 0 22).toInt.toNat - 1)).toInt = 3 → STOP (eA g 0 26) (eA g 0 27) (eI g 0 22).toInt (rl l.toInt) (eI g 0 25).toInt.toNat → f_X9_text_74 N g = some r → BAD r h' g ∨ ∃ (N' : Nat) (g' : HS) (ps : List Int), f_X9_text_74 N' g' = some r ∧ RES B L P 10 d h g h' g' ps ∧ ((l.toInt ≤ 2 ∧ (eI g' 0 28).toInt = 3) ∨ (3 ≤ l.toInt ∧ (eI g' 0 28).toInt = 2)) ∧ (∀ p ∈ ps, rl l.toInt ≤ rnk p) ∧ NOP l.toInt (kd h')
/-- what a sign that was opened leaves when it is over: the frame is gone, its step is told -/
theorem over_1 {B : Int → Int} {L : Int} {P : Nat → Int} {d : Nat} {h g h1 g1 h2 g3 h' g4 : HS} {f s p : Int32} (hp : PRE B L P 10 d (eI g 0 21).toInt h g) (ea : at_ h1 = at_ h + 1) (hs : eI h1 10 5 = eI h 10 5 ∧ eA h1 10 2 = eA h 10 2 ∧ eI h1 5 1 = eI h 5 1) (i22 : eI g1 0 22 = eI g 0 22 + 1) (j22 : (eI g1 0 22).toInt = (eI g 0 22).toInt + 1) (i23 : eA g1 0 23 = upd (eA g 0 23) (eI g 0 22).toInt.toNat f) (i21 : eI g1 0 21 = eI g 0 21 + 1) (fr : Fr [(0, 0, 15), (0, 0, 16), (0, 0, 17), (0, 0, 18), (0, 0, 21), (0, 0, 22), (1, 0, 23)] g g1) (R : RES B L P 10 d h1 g1 h2 g3 []) (e1 : f_X6_addStep_1 h2 s = some h') (e2 : f_X9_emits (sI (sI g3 0 22 (eI g3 0 22 - 1)) 0 21 (eI g3 0 21 - 1)) p 0 = some g4) (hc : OPK s.toInt p.toInt) : RES B L P 10 d h g h' g4 [] := by
  have z1 : (1 : Int32).toInt = 1 := rfl
  obtain ⟨t, f0, g0, -, -, wf, b, ⟨s0, s1⟩, -⟩ := hp
  obtain ⟨r1, r2, r3, ⟨r4, r5, r6, r6'⟩, ⟨r7, r8, -⟩, r9, r10, r11⟩ := R
  have tl := TT_at r1
  have ccl := CC_left r9 hs.1 hs.2.1 (fr.1 0 36 (by decide)) (fr.2.1 0 37 (by decide)) (fr.2.1 0 38 (by decide))
  have l0 : (([] : List Int).length : Int) = 0 := rfl
  have sc1 : (eI h1 10 5).toInt = (eI h 10 5).toInt := by rw [hs.1]
  have cc3 := ccl.2.2.1
  have eh := cp_addStep_1 e1 (by omega) (by omega)
  subst eh
  obtain ⟨⟨q1, q2⟩, eg⟩ := mp_emits e2
  replace q1 : 0 ≤ (eI g3 0 36).toInt := q1
  replace q2 : (eI g3 0 36).toInt < 400 := q2
  subst eg
  have a1 := fb_addI (x := eI h2 10 5) (y := 1) (by omega) (by omega)
  have a2 := fb_addI (x := eI g3 0 36) (y := 1) (by omega) (by omega)
  have fg : Fr [(0, 0, 22), (0, 0, 21), (1, 0, 37), (1, 0, 38), (0, 0, 36)] g3 (sI (sA (sA (sI (sI g3 0 22 (eI g3 0 22 - 1)) 0 21 (eI g3 0 21 - 1)) 0 37 (upd (eA g3 0 37) (eI g3 0 36).toInt.toNat p)) 0 38 (upd (eA g3 0 38) (eI g3 0 36).toInt.toNat 0)) 0 36 (eI g3 0 36 + 1)) := Fr_sI (by decide) (Fr_sA (by decide) (Fr_sA (by decide) (Fr_sI (by decide) (Fr_sI (by decide) (Fr_refl _ _)))))
  have fh : Fr [(1, 10, 2), (0, 10, 5)] h2 (sI (sA h2 10 2 (upd (eA h2 10 2) (eI h2 10 5).toInt.toNat s)) 10 5 (eI h2 10 5 + 1)) := Fr_sI (by decide) (Fr_sA (by decide) (Fr_refl _ _))
  refine ⟨TT_g (TT_h r1 fh (by decide) (by decide) (by decide) (by decide) (by decide)) fg (by decide) (by decide) (by decide) (by decide) (by decide) (by decide), r2, r3, ⟨?_, ?_, fun i hi => ?_, fun i hi => ?_⟩, WW0 ?_ (fun i hi => ?_), ?_, ?_, Fr_trans (Fr_mono (by decide) fr) (Fr_trans r11.1 (Fr_mono (by decide) fg)), r11.2.trans hs.2.2⟩
  · show eI g3 0 22 - 1 = eI g 0 22
    rw [r4, i22, i32_ps]
  · show eI g3 0 21 - 1 = eI g 0 21
    rw [r5, i21, i32_ps]
  · show eA g3 0 23 i = eA g 0 23 i
    rw [r6 i (by omega), i23]
    unfold upd
    rw [if_neg (by omega)]
  · show eA g3 0 24 i = eA g 0 24 i
    rw [r6' i (by omega), fr.2.1 0 24 (by decide)]
  · show (eI g3 0 25).toInt = (eI g 0 25).toInt
    have : eI g1 0 25 = eI g 0 25 := fr.1 0 25 (by decide)
    rw [← this]
    omega
  · show eA g3 0 26 i = eA g 0 26 i ∧ eA g3 0 27 i = eA g 0 27 i
    have k0 : eI g1 0 25 = eI g 0 25 := fr.1 0 25 (by decide)
    have k1 := r8 i (by rw [k0]; exact hi)
    rw [k1.1, k1.2, fr.2.1 0 26 (by decide), fr.2.1 0 27 (by decide)]
    exact ⟨rfl, rfl⟩
  · refine CC_emit ccl ?_ rfl ?_ rfl rfl (Or.inr (Or.inr hc))
    · show (eI h2 10 5 + 1).toInt = _; omega
    · show (eI g3 0 36 + 1).toInt = _; omega
  · show (eI h2 10 5 + 1).toInt - (eI h 10 5).toInt ≤ at_ h2 - at_ h
    omega
theorem one_1 {B : Int → Int} {L : Int} {P : Nat → Int} {d : Nat} {n : Nat} (ih1 : OneS_1 B L P d n) (ih2 : LevS_1 B L P d n) : OneS_1 B L P d (n + 1) := by
  have z1 : (1 : Int32).toInt = 1 := rfl
  have z2 : (2 : Int32).toInt = 2 := rfl
  have z3 : (3 : Int32).toInt = 3 := rfl
  have z5 : (5 : Int32).toInt = 5 := rfl
  have z6 : (6 : Int32).toInt = 6 := rfl
  have z7 : (7 : Int32).toInt = 7 := rfl
  have z10 : (10 : Int32).toInt = 10 := rfl
  have z12 : (12 : Int32).toInt = 12 := rfl
  have z13 : (13 : Int32).toInt = 13 := rfl
  have z14 : (14 : Int32).toInt = 14 := rfl
  have z29 : (29 : Int32).toInt = 29 := rfl
  have z35 : (35 : Int32).toInt = 35 := rfl
  have z37 : (37 : Int32).toInt = 37 := rfl
  have z40 : (40 : Int32).toInt = 40 := rfl
  have z41 : (41 : Int32).toInt = 41 := rfl
  have z45 : (45 : Int32).toInt = 45 := rfl
  have z0 : (0 : Int32).toInt = 0 := rfl
  have z9999 : (9999 : Int32).toInt = 9999 := rfl
  have z10000 : (10000 : Int32).toInt = 10000 := rfl
  intro h h' g N r op e x st fr et
  obtain ⟨t, f0, g0, hop, hop2, wf, b0, sb, lk1, lk2⟩ := id x
  obtain ⟨N1, g1, eb, et⟩ := (mp_turn et g0).2.1 st
  replace e : f_X2_readOne_1_b (fun h p1 p2 => G_read_1 n 0 h p1 p2) (fun h p1 => G_read_1 n 1 h p1 0) (fun h p1 => G_read_1 n 2 h p1 0) h op = some h' := e
  unfold f_X2_readOne_1_b at e
  obtain ⟨r1, h1, e1, e⟩ := ob2_some e
  obtain ⟨q1, q2⟩ := TT_kind t e1
  obtain rfl : h = h1 := q1.symm
  replace q2 : r1.toInt = kd h := q2
  unfold f_X9_begins at eb
  by_cases k2 : kd h = 2
  · obtain ⟨so, nr⟩ := TK_num t k2
    rw [if_pos (gi_eq (by omega))] at e
    rw [if_pos (gi_eq (by omega))] at eb
    obtain ⟨h6, e6, e⟩ := ob1_some e
    unfold f_X2_readOne_1_121 at e
    cases e
    unfold f_X2_readValue_1 at e6
    obtain ⟨r3, h3, e3, e6⟩ := ob2_some e6
    obtain ⟨q3, q4⟩ := TT_value t e3
    obtain rfl : h = h3 := q3.symm
    replace q4 : r3.toInt = vl h := q4
    by_cases c : r3 ≤ 9999
    · rw [if_pos c] at e6
      have dc := gi_of_le c
      obtain ⟨r5, h5, e5, e6⟩ := ob2_some e6
      obtain ⟨q5, q6⟩ := TT_value t e5
      obtain rfl : h = h5 := q5.symm
      replace q6 : r5.toInt = vl h := q6
      obtain ⟨h7, e7, e6⟩ := ob1_some e6
      obtain ⟨h8, e8, e6⟩ := ob1_some e6
      cases e6
      have nr2 : vl h = (eI g 0 18).toInt ∧ 0 ≤ (eI g 0 18).toInt ∧ (eI g 0 18).toInt ≤ 9999 := by unfold NR at nr; omega
      rw [if_pos (gi_le (by omega))] at eb
      obtain ⟨g8, b8, eb⟩ := ob1_some eb
      obtain ⟨g9, b9, eb⟩ := ob1_some eb
      obtain ⟨g10, b10, eb⟩ := ob1_some eb
      unfold f_X9_begins_154 at eb
      cases eb
      unfold f_X9_oneIsOver at b10
      exact Or.inr ⟨N1, _, g9, _, b10, et, leaf_1 x (by omega) e7 e8 b8 b9 (Or.inl ⟨by omega, by omega, rfl, by omega⟩)⟩
    · rw [if_neg c] at e6
      have dc := gi_of_nle c
      obtain ⟨h7, e7, e6⟩ := ob1_some e6
      cases e6
      rw [if_neg (fun q => by have := gi_of_le q; unfold NR at nr; omega)] at eb
      obtain ⟨g8, b8, eb⟩ := ob1_some eb
      cases eb
      exact Or.inl (bad_here t f0 g0 e7 b8 (by decide) et)
  · have tn := TK_not t k2
    rw [if_neg (fun q => by have := gi_of_eq q; omega)] at e
    by_cases kn : 29 ≤ kd h
    · have ko : 16 ≤ kd h ∧ kd h ≤ 37 ∧ (eI g 0 17).toInt = 1 ∧ (eI g 0 18).toInt = kd h - 16 := by
        rcases tn with q | q | q | q
        · omega
        · exact q
        · omega
        · have := q.2; unfold SG at this; omega
      rw [if_neg (fun q => by have := gi_of_lt q; omega), if_neg (fun q => by have := gi_of_lt q; omega)] at e
      obtain ⟨h6, e6, e⟩ := ob1_some e
      unfold f_X2_readOne_1_121 at e
      cases e
      rw [if_neg (fun q => by have := gi_of_eq q; omega), if_pos (gi_eq (by omega)), if_neg (fun q => by have := gi_of_le q; omega)] at eb
      have v1 := fb_subI (x := eI g 0 18) (y := 12) (by omega) (by omega)
      have v2 := fb_subI (x := eI g 0 18 - 12) (y := 1) (by omega) (by omega)
      unfold f_X2_readName_1 at e6
      obtain ⟨r3, h3, e3, e6⟩ := ob2_some e6
      obtain ⟨q3, q4⟩ := TT_kind t e3
      obtain rfl : h = h3 := q3.symm
      replace q4 : r3.toInt = kd h := q4
      have good : f_X2_readName_1_31 h = some h' → f_X9_begins_92 g (eI g 0 18 - 12 - 1) = some g1 → BAD r h' g ∨ ∃ (N' m : Nat) (g1 g' : HS), f_X9_oneIsOver_0 m g1 = some g' ∧ f_X9_text_74 N' g' = some r ∧ RES B L P 10 d h g h' g1 [] := by
        intro e6 eb
        unfold f_X2_readName_1_31 at e6
        obtain ⟨r5, h5, e5, e6⟩ := ob2_some e6
        obtain ⟨q5, q6⟩ := TT_kind t e5
        obtain rfl : h = h5 := q5.symm
        replace q6 : r5.toInt = kd h := q6
        obtain ⟨h7, e7, e6⟩ := ob1_some e6
        obtain ⟨h8, e8, e6⟩ := ob1_some e6
        cases e6
        unfold f_X9_begins_92 at eb
        obtain ⟨g8, b8, eb⟩ := ob1_some eb
        obtain ⟨g9, b9, eb⟩ := ob1_some eb
        obtain ⟨g10, b10, eb⟩ := ob1_some eb
        unfold f_X9_begins_154 at eb
        cases eb
        unfold f_X9_oneIsOver at b10
        have u1 := fb_addI (x := 10000) (y := r5) (by omega) (by omega)
        have u2 := fb_subI (x := 10000 + r5) (y := 29) (by omega) (by omega)
        exact Or.inr ⟨N1, _, g9, _, b10, et, leaf_1 x (by omega) e7 e8 b8 b9 (Or.inr (Or.inl ⟨by omega, by omega, rfl, by omega⟩))⟩
      by_cases c35 : r3 < 35
      · rw [if_pos c35] at e6
        have d35 := gi_of_lt c35
        rw [if_pos (gi_le (by omega))] at eb
        exact good e6 eb
      · rw [if_neg c35] at e6
        have d35 := gi_of_nlt c35
        rw [if_neg (fun q => by have := gi_of_le q; omega)] at eb
        by_cases c0 : eI h 5 2 = 0
        · rw [if_pos c0] at e6
          rw [if_pos (gi_le (by rw [lk1, c0]; omega))] at eb
          exact good e6 eb
        · rw [if_neg c0] at e6
          by_cases c1 : eI h 5 2 = 1
          · rw [if_pos c1] at e6
            rw [if_pos (gi_le (by rw [lk1, c1]; exact Int.le_refl _))] at eb
            exact good e6 eb
          · rw [if_neg c1] at e6
            have d0 := gi_of_ne c0
            have d1 := gi_of_ne c1
            rw [if_neg (fun q => by have := gi_of_le q; rw [lk1] at this; omega)] at eb
            obtain ⟨h5, e5, e6⟩ := ob1_some e6
            cases e6
            obtain ⟨g5, b5, eb⟩ := ob1_some eb
            cases eb
            exact Or.inl (bad_here t f0 g0 e5 b5 (by decide) et)
    · rw [if_pos (gi_lt (by omega))] at e
      unfold f_X2_readOne_1_44 at e
      have eb : f_X9_begins_111 g = some g1 := by
        rcases tn with q | q | q | q
        · rw [if_neg (fun q => by have := gi_of_eq q; omega), if_neg (fun q => by have := gi_of_eq q; omega)] at eb
          exact eb
        · rw [if_neg (fun q => by have := gi_of_eq q; omega), if_pos (gi_eq (by omega)), if_pos (gi_le (by omega))] at eb
          exact eb
        · rw [if_neg (fun q => by have := gi_of_eq q; omega), if_neg (fun q => by have := gi_of_eq q; omega)] at eb
          exact eb
        · rw [if_neg (fun q => by have := gi_of_eq q; omega), if_neg (fun q => by have := gi_of_eq q; omega)] at eb
          exact eb
      unfold f_X9_begins_111 f_X9_begins_154 at eb
      obtain ⟨r12, g12, b12, eb⟩ := ob2_some eb
      obtain ⟨w1, w2⟩ := mp_isSign b12
      obtain rfl : g = g12 := w1.symm
      replace w2 : (r12 = 0 ∧ ¬ ((eI g 0 17).toInt = 3 ∧ (eI g 0 18).toInt = 40)) ∨ (r12 = 1 ∧ (eI g 0 17).toInt = 3 ∧ (eI g 0 18).toInt = 40) := w2
      have hop' : (eI g 0 21).toInt = op.toInt := hop
      by_cases k13 : kd h = 13
      · have so : (eI g 0 17).toInt = 3 ∧ (eI g 0 18).toInt = 40 := by
          rcases tn with q | q | q | q
          · omega
          · omega
          · omega
          · have := q.2; unfold SG at this; omega
        rw [if_pos (gi_eq (by omega))] at e
        rcases w2 with ⟨-, w2⟩ | ⟨rfl, -⟩
        · exact absurd so w2
        rw [if_neg (by decide)] at eb
        obtain ⟨r14, h14, e14, e⟩ := ob2_some e
        obtain ⟨r18, g18, b18, eb⟩ := ob2_some eb
        obtain rfl : g18 = g1 := Option.some.inj eb
        rcases opens_both (by decide) x (by omega) e14 b18 with ⟨y1, y2, y3⟩ | ⟨y1, y2, y3, y4, y5, y6, y7, y8, y9⟩
        · replace y1 : r14 = 0 := y1
          rw [if_pos y1] at e
          unfold f_X2_readOne_1_121 at e
          cases e
          exact Or.inl (bad_here t f0 g0 y2 y3 (by decide) et)
        · replace y1 : r14 = 1 := y1
          replace y3 : at_ h14 = at_ h + 1 := y3
          replace y4 : eI h14 10 5 = eI h 10 5 ∧ eA h14 10 2 = eA h 10 2 ∧ eI h14 5 1 = eI h 5 1 := y4
          replace y5 : eI g18 0 22 = eI g 0 22 + 1 := y5
          replace y6 : (eI g18 0 22).toInt = (eI g 0 22).toInt + 1 := y6
          replace y7 : eA g18 0 23 = upd (eA g 0 23) (eI g 0 22).toInt.toNat 6 := y7
          replace y8 : eI g18 0 21 = eI g 0 21 + 1 := y8
          replace y9 : Fr [(0, 0, 15), (0, 0, 16), (0, 0, 17), (0, 0, 18), (0, 0, 21), (0, 0, 22), (1, 0, 23)] g g18 := y9
          rw [if_neg (by rw [y1]; decide)] at e
          obtain ⟨h16, e16, e⟩ := ob1_some e
          obtain ⟨h17, e17, e⟩ := ob1_some e
          unfold f_X2_readOne_1_121 at e
          cases e
          have y2' : PRE B L P 10 d (op + 1).toInt h14 g18 := y2
          have top : (eA g18 0 23 ((eI g18 0 22).toInt.toNat - 1)).toInt = 6 := by
            rw [y7, y6, show ((eI g 0 22).toInt + 1).toNat - 1 = (eI g 0 22).toInt.toNat by omega]
            unfold upd
            rw [if_pos rfl]; rfl
          have stp : STOP (eA g18 0 26) (eA g18 0 27) (eI g18 0 22).toInt (rl (3 : Int32).toInt) (eI g18 0 25).toInt.toNat := STOP_new wf (y9.1 0 25 (by decide)) (fun i _ => by rw [y9.2.1 0 26 (by decide), y9.2.1 0 27 (by decide)]; exact ⟨rfl, rfl⟩) y6
          rcases ih2 3 h14 h16 g18 N1 r (op + 1) e16 (by omega) (by omega) y2' (Or.inr ⟨by omega, by rw [y9.1 0 28 (by decide)]; exact st⟩) (by omega) (by omega) (by omega) stp et with bad | ⟨N2, g2, ps, et2, R, s2, rks, nop⟩
          · refine Or.inl (BAD_left (BAD_fr (S := []) bad ?_ (by decide) (by decide)) (Fr_mono (by decide) y9))
            unfold f_X2_expect at e17
            rw [if_neg bad.1] at e17
            cases e17
            exact Fr_refl _ _
          · obtain ⟨r1', r2', r3', ⟨r4, r5, r6, r6'⟩, ⟨r7, r8, r8'⟩, r9, r10, r11⟩ := id R
            have s2' : (eI g2 0 28).toInt = 2 := by omega
            obtain ⟨N3, g3, b3, et3⟩ := (mp_turn et2 r3').2.2.1 s2'
            have tk2 := TT_tk r1'
            have nop3 := nop.1 (by omega)
            have sp := lv_spec (kd h16)
            have off : ¬ ((eI g2 0 17).toInt = 3 ∧ ((eI g2 0 18).toInt = 43 ∨ (eI g2 0 18).toInt = 45 ∨ (eI g2 0 18).toInt = 42 ∨ (eI g2 0 18).toInt = 47)) := by
              intro q
              rcases tk2 with u | u | u | u | u
              · omega
              · omega
              · omega
              · omega
              · have := u.2; unfold SG at this; omega
            have b3 := mp_goes_off b3 off
            have top2 : (eA g2 0 23 ((eI g2 0 22).toInt.toNat - 1)).toInt = 6 := by
              rw [r4, r6 _ (by omega)]; exact top
            unfold f_X9_goesOn_65 at b3
            rw [if_pos (gi_eq (by omega))] at b3
            obtain ⟨r8s, g8, b8, b3⟩ := ob2_some b3
            obtain ⟨v1, v2⟩ := mp_isSign b8
            obtain rfl : g2 = g8 := v1.symm
            unfold f_X2_expect f_X2_expect_29 at e17
            rw [if_pos r2'] at e17
            obtain ⟨rk1, hk, ek, e17⟩ := ob2_some e17
            obtain ⟨u1, u2⟩ := TT_kind r1' ek
            obtain rfl : h16 = hk := u1.symm
            replace u2 : rk1.toInt = kd h16 := u2
            have same : (eI g2 0 17).toInt = 3 ∧ (eI g2 0 18).toInt = 41 ↔ kd h16 = 14 := by
              rcases tk2 with u | u | u | u | u
              · omega
              · omega
              · omega
              · omega
              · have := u.2; unfold SG at this; omega
            rcases v2 with ⟨v2, v3⟩ | ⟨v2, v3⟩
            · replace v2 : r8s = 0 := v2
              rw [if_pos v2] at b3
              have b3 := mp_goes_else b3 (by omega) (by omega) (by omega)
              rw [if_neg (fun q => by have := gi_of_eq q; exact v3 (same.mpr (by omega)))] at e17
              obtain ⟨h4, e4, e17⟩ := ob1_some e17
              cases e17
              exact Or.inl (BAD_left (bad_here r1' r2' r3' e4 b3 (by decide) et3) (Fr_trans (Fr_mono (by decide) y9) r11.1))
            · replace v2 : r8s = 1 := v2
              rw [if_neg (by rw [v2]; decide)] at b3
              have k14 := same.mp v3
              rw [if_pos (gi_eq (by omega))] at e17
              obtain ⟨h5, e5, e17⟩ := ob1_some e17
              cases e17
              obtain ⟨g10, b10, b3⟩ := ob1_some b3
              obtain ⟨g11, b11, b3⟩ := ob1_some b3
              obtain ⟨g12, b12, b3⟩ := ob1_some b3
              unfold f_X9_goesOn_250 at b3
              cases b3
              unfold f_X9_works at b10
              unfold f_X9_oneIsOver at b12
              have w18 : 0 ≤ (eI g18 0 25).toInt := y2'.2.2.2.2.2.1.2.1
              obtain ⟨m1, ccf, m5⟩ := RES_flush (x1 := 3) R w18 rks stp b10
              have ccl := CC_left ccf y4.1 y4.2.1 (y9.1 0 36 (by decide)) (y9.2.1 0 37 (by decide)) (y9.2.1 0 38 (by decide))
              have fg : Fr [(0, 0, 22), (0, 0, 21), (0, 0, 25), (0, 0, 36), (1, 0, 37), (1, 0, 38)] g2 (sI (sI g10 0 22 (eI g10 0 22 - 1)) 0 21 (eI g10 0 21 - 1)) := Fr_sI (by decide) (Fr_sI (by decide) (Fr_mono (by decide) m5))
              obtain ⟨t2, eh, ea⟩ := TT_adv r1' (by omega) e5 fg (by decide) (by decide) (by decide) b11
              have fn := w_f_X9_next _ _ b11
              subst eh
              have i22 : eI g10 0 22 = eI g2 0 22 := m5.1 0 22 (by decide)
              have i21 : eI g10 0 21 = eI g2 0 21 := m5.1 0 21 (by decide)
              have i23 : eA g10 0 23 = eA g2 0 23 := m5.2.1 0 23 (by decide)
              refine Or.inr ⟨N3, _, g11, _, b12, et3, t2, r2', ?_, ⟨?_, ?_, fun i hi => ?_, fun i hi => ?_⟩, WW0 ?_ (fun i hi => ?_), ?_, ?_, Fr_trans (Fr_mono (by decide) y9) (Fr_trans r11.1 (Fr_trans (Fr_mono (by decide) fg) (Fr_mono (by decide) fn))), r11.2.trans y4.2.2⟩
              · rw [fn.1 0 19 (by decide)]
                show eI g10 0 19 = 0
                rw [m5.1 0 19 (by decide)]; exact r3'
              · rw [fn.1 0 22 (by decide)]
                show eI g10 0 22 - 1 = eI g 0 22
                rw [i22, r4, y5, i32_ps]
              · rw [fn.1 0 21 (by decide)]
                show eI g10 0 21 - 1 = eI g 0 21
                rw [i21, r5, y8, i32_ps]
              · rw [fn.2.1 0 23 (by decide)]
                show eA g10 0 23 i = eA g 0 23 i
                rw [i23, r6 i (by omega), y7]
                unfold upd
                rw [if_neg (by omega)]
              · rw [fn.2.1 0 24 (by decide)]
                show eA g10 0 24 i = eA g 0 24 i
                rw [m5.2.1 0 24 (by decide), r6' i (by omega), y9.2.1 0 24 (by decide)]
              · rw [fn.1 0 25 (by decide)]
                show (eI g10 0 25).toInt = (eI g 0 25).toInt
                rw [m1, y9.1 0 25 (by decide)]
              · rw [fn.2.1 0 26 (by decide), fn.2.1 0 27 (by decide)]
                show eA g10 0 26 i = eA g 0 26 i ∧ eA g10 0 27 i = eA g 0 27 i
                have a := r8 i (by rw [y9.1 0 25 (by decide)]; exact hi)
                rw [m5.2.1 0 26 (by decide), m5.2.1 0 27 (by decide), a.1, a.2, y9.2.1 0 26 (by decide), y9.2.1 0 27 (by decide)]
                exact ⟨rfl, rfl⟩
              · exact CC_same ccl rfl rfl (fn.1 0 36 (by decide)) (fn.2.1 0 37 (by decide)) (fn.2.1 0 38 (by decide))
              · rw [ea]
                show (eI h16 10 5).toInt - (eI h 10 5).toInt ≤ at_ h16 + 1 - at_ h
                rw [y4.1] at r10
                omega
      · rw [if_neg (fun q => by have := gi_of_eq q; omega)] at e
        have so : ¬ ((eI g 0 17).toInt = 3 ∧ (eI g 0 18).toInt = 40) := by
          intro w
          rcases tn with q | q | q | q
          · omega
          · omega
          · omega
          · have := q.2; unfold SG at this; omega
        rcases w2 with ⟨rfl, -⟩ | ⟨-, w2⟩
        · rw [if_pos rfl] at eb
          obtain ⟨r14, g14, b14, eb⟩ := ob2_some eb
          obtain ⟨w3, w4⟩ := mp_isSign b14
          obtain rfl : g = g14 := w3.symm
          replace w4 : (r14 = 0 ∧ ¬ ((eI g 0 17).toInt = 3 ∧ (eI g 0 18).toInt = 45)) ∨ (r14 = 1 ∧ (eI g 0 17).toInt = 3 ∧ (eI g 0 18).toInt = 45) := w4
          have same : ((eI g 0 17).toInt = 3 ∧ (eI g 0 18).toInt = 45) ↔ kd h = 10 := by
            rcases tn with q | q | q | q
            · omega
            · omega
            · omega
            · have := q.2; unfold SG at this; omega
          rcases w4 with ⟨rfl, w4⟩ | ⟨rfl, w4⟩
          · rw [if_pos rfl] at eb
            rw [if_neg (fun q => by have := gi_of_eq q; exact w4 (same.mpr (by omega)))] at e
            obtain ⟨h9, e9, e⟩ := ob1_some e
            unfold f_X2_readOne_1_121 at e
            cases e
            obtain ⟨g16, b16, eb⟩ := ob1_some eb
            cases eb
            exact Or.inl (bad_here t f0 g0 e9 b16 (by decide) et)
          · rw [if_neg (by decide)] at eb
            have k10 := same.mp w4
            rw [if_pos (gi_eq (by omega))] at e
            obtain ⟨r10, h10, e10, e⟩ := ob2_some e
            obtain ⟨r17, g17, b17, eb⟩ := ob2_some eb
            obtain rfl : g17 = g1 := Option.some.inj eb
            rcases opens_both (by decide) x (by omega) e10 b17 with ⟨y1, y2, y3⟩ | ⟨y1, y2, y3, y4, y5, y6, y7, y8, y9⟩
            · replace y1 : r10 = 0 := y1
              rw [if_pos y1] at e
              unfold f_X2_readOne_1_121 at e
              cases e
              exact Or.inl (bad_here t f0 g0 y2 y3 (by decide) et)
            · replace y1 : r10 = 1 := y1
              replace y6 : (eI g17 0 22).toInt = (eI g 0 22).toInt + 1 := y6
              replace y7 : eA g17 0 23 = upd (eA g 0 23) (eI g 0 22).toInt.toNat 7 := y7
              replace y9 : Fr [(0, 0, 15), (0, 0, 16), (0, 0, 17), (0, 0, 18), (0, 0, 21), (0, 0, 22), (1, 0, 23)] g g17 := y9
              rw [if_neg (by rw [y1]; decide)] at e
              obtain ⟨h12, e12, e⟩ := ob1_some e
              obtain ⟨h13, e13, e⟩ := ob1_some e
              unfold f_X2_readOne_1_121 at e
              cases e
              rcases ih1 h10 h12 g17 N1 r (op + 1) e12 y2 (by rw [y9.1 0 28 (by decide)]; exact st) (by omega) et with bad | ⟨N2, m, g2, g3, eo, et2, R⟩
              · exact Or.inl (BAD_left (BAD_fr bad (w_f_X6_addStep_1 h12 _ _ e13) (by decide) (by decide)) (Fr_mono (by decide) y9))
              · have top : (eA g2 0 23 ((eI g2 0 22).toInt.toNat - 1)).toInt = 7 := by
                  rw [R.2.2.2.1.1, R.2.2.2.1.2.2.1 _ (by rw [y6]; omega), y7, y6, show ((eI g 0 22).toInt + 1).toNat - 1 = (eI g 0 22).toInt.toNat by omega]
                  unfold upd
                  rw [if_pos rfl]; rfl
                rcases mp_one eo with ⟨q, -⟩ | ⟨-, m2, g4, e4, eo2⟩
                · exact absurd top q
                · exact Or.inr ⟨N2, m2, g4, g3, eo2, et2, over_1 (by rw [hop]; exact x) y3 y4 y5 y6 y7 y8 y9 R e13 e4 ⟨by decide, by unfold OPR; decide⟩⟩
        · exact absurd w2 so
theorem ask_1 {B : Int → Int} {L : Int} {P : Nat → Int} {d : Nat} {n : Nat} (ih1 : AskS_1 B L P d n) (ih2 : LevS_1 B L P d n) : AskS_1 B L P d (n + 1) := by
  have z0 : (0 : Int32).toInt = 0 := rfl
  have z1 : (1 : Int32).toInt = 1 := rfl
  have z3 : (3 : Int32).toInt = 3 := rfl
  have z4 : (4 : Int32).toInt = 4 := rfl
  have z5 : (5 : Int32).toInt = 5 := rfl
  have z6 : (6 : Int32).toInt = 6 := rfl
  have z8 : (8 : Int32).toInt = 8 := rfl
  have z12 : (12 : Int32).toInt = 12 := rfl
  have z28 : (28 : Int32).toInt = 28 := rfl
  have z20000 : (20000 : Int32).toInt = 20000 := rfl
  have r3 : rl (3 : Int32).toInt = (3 : Int32).toInt := rfl
  intro h h' g N r op e x st fr et
  obtain ⟨t, f0, g0, hop, hop2, wf, b0, sb, lk1, lk2⟩ := id x
  obtain ⟨N1, g1, eb, et⟩ := (mp_turn et g0).1 st
  replace e : f_X2_readAsk_1_b (fun h p1 p2 => G_read_1 n 0 h p1 p2) (fun h p1 => G_read_1 n 1 h p1 0) (fun h p1 => G_read_1 n 2 h p1 0) h op = some h' := e
  unfold f_X2_readAsk_1_b at e
  obtain ⟨r1, h1, e1, e⟩ := ob2_some e
  obtain ⟨q1, q2⟩ := TT_kind t e1
  obtain rfl : h = h1 := q1.symm
  replace q2 : r1.toInt = kd h := q2
  unfold f_X9_asks at eb
  obtain ⟨rw_, gw, bw, eb⟩ := ob2_some eb
  obtain ⟨w1, w2⟩ := mp_isWord bw
  obtain rfl : g = gw := w1.symm
  replace w2 : (rw_ = 0 ∧ ¬ ((eI g 0 17).toInt = 1 ∧ (eI g 0 18).toInt = 12)) ∨ (rw_ = 1 ∧ (eI g 0 17).toInt = 1 ∧ (eI g 0 18).toInt = 12) := w2
  have same : ((eI g 0 17).toInt = 1 ∧ (eI g 0 18).toInt = 12) ↔ kd h = 28 := tkl_same (TT_tk t)
  rcases w2 with ⟨rfl, w2⟩ | ⟨rfl, w2⟩
  · -- a question
    rw [if_pos rfl] at eb
    rw [if_neg (fun q => by have := gi_of_eq q; exact w2 (same.mpr (by omega)))] at e
    obtain ⟨g3, b3, eb⟩ := ob1_some eb
    unfold f_X9_asks_28 at eb
    cases eb
    obtain ⟨⟨o1, o2⟩, eg3⟩ := mp_opensFrame b3
    subst eg3
    obtain ⟨h3, e3, e⟩ := ob1_some e
    have a22 := fb_addI (x := eI g 0 22) (y := 1) (by omega) (by omega)
    have fA : Fr [(0, 0, 22), (1, 0, 23), (0, 0, 28)] g (sI (sI (sA g 0 23 (upd (eA g 0 23) (eI g 0 22).toInt.toNat 4)) 0 22 (eI g 0 22 + 1)) 0 28 1) := Fr_sI (by decide) (Fr_sI (by decide) (Fr_sA (by decide) (Fr_refl _ _)))
    generalize hgA : (sI (sI (sA g 0 23 (upd (eA g 0 23) (eI g 0 22).toInt.toNat 4)) 0 22 (eI g 0 22 + 1)) 0 28 1) = gA at et fA
    have A22 : eI gA 0 22 = eI g 0 22 + 1 := by rw [← hgA]; rfl
    have A23 : eA gA 0 23 = upd (eA g 0 23) (eI g 0 22).toInt.toNat 4 := by rw [← hgA]; rfl
    have A28 : eI gA 0 28 = 1 := by rw [← hgA]; rfl
    have J22 : (eI gA 0 22).toInt = (eI g 0 22).toInt + 1 := by rw [A22]; omega
    have pA : PRE B L P 10 d op.toInt h gA := by
      refine ⟨TT_g t fA (by decide) (by decide) (by decide) (by decide) (by decide) (by decide), f0, (fA.1 0 19 (by decide)).trans g0, by rw [fA.1 0 21 (by decide)]; exact hop, hop2, ⟨by omega, by rw [fA.1 0 25 (by decide)]; exact wf.2.1, fun i hi => ?_⟩, by rw [fA.1 0 36 (by decide)]; exact b0, sb, by rw [fA.1 0 30 (by decide)]; exact lk1, lk2⟩
      rw [fA.1 0 25 (by decide)] at hi
      rw [fA.2.1 0 27 (by decide)]
      have := wf.2.2 i hi
      omega
    have topA : (eA gA 0 23 ((eI gA 0 22).toInt.toNat - 1)).toInt = 4 := by
      rw [A23, J22, show ((eI g 0 22).toInt + 1).toNat - 1 = (eI g 0 22).toInt.toNat by omega]
      unfold upd
      rw [if_pos rfl]; rfl
    have stp : STOP (eA gA 0 26) (eA gA 0 27) (eI gA 0 22).toInt (rl (3 : Int32).toInt) (eI gA 0 25).toInt.toNat := STOP_new wf (fA.1 0 25 (by decide)) (fun i _ => by rw [fA.2.1 0 26 (by decide), fA.2.1 0 27 (by decide)]; exact ⟨rfl, rfl⟩) J22
    have fail3 : ¬ eI h3 5 0 = 0 → h' = h3 := by
      intro nf
      obtain ⟨r4, h4, e4, e⟩ := ob2_some e
      have k4 : h4 = h3 := cp_kind_same e4
      obtain rfl : h3 = h4 := k4.symm
      have go : ∀ y : HS, f_X2_readAsk_1_68 (fun h p1 p2 => G_read_1 n 0 h p1 p2) (fun h p1 => G_read_1 n 1 h p1 0) (fun h p1 => G_read_1 n 2 h p1 0) h3 op r4 = some y → y = h3 := by
        intro y ey
        unfold f_X2_readAsk_1_68 f_X2_readAsk_1_97 at ey
        rw [if_neg nf] at ey
        cases ey; rfl
      have go2 : ∀ y : HS, f_X2_readAsk_1_62 (fun h p1 p2 => G_read_1 n 0 h p1 p2) (fun h p1 => G_read_1 n 1 h p1 0) (fun h p1 => G_read_1 n 2 h p1 0) h3 op r4 = some y → y = h3 := by
        intro y ey
        unfold f_X2_readAsk_1_62 at ey
        obtain ⟨h5, e5, ey⟩ := ob1_some ey
        obtain rfl : h3 = h5 := (cp_fail_no e5 nf).symm
        exact go y ey
      by_cases c3 : r4 < 3
      · rw [if_pos c3] at e; exact go2 _ e
      · rw [if_neg c3] at e
        by_cases c8 : r4 ≤ 8
        · rw [if_pos c8] at e; exact go _ e
        · rw [if_neg c8] at e; exact go2 _ e
    rcases ih2 3 h h3 gA N1 r op e3 (by omega) (by omega) pA (Or.inr ⟨by omega, by rw [A28]; rfl⟩) (by omega) (by omega) (by omega) stp et with bad | ⟨N2, g2, ps, et2, R, s2, rks, nop⟩
    · rw [fail3 bad.1]
      exact Or.inl (BAD_left bad (Fr_mono (by decide) fA))
    · obtain ⟨x1, x2, x3, ⟨x4, x5, x6, x6'⟩, ⟨x7, x8, x8'⟩, x9, x10, x11⟩ := id R
      obtain ⟨r4, h4, e4, e⟩ := ob2_some e
      obtain ⟨u1, u2⟩ := TT_kind x1 e4
      obtain rfl : h3 = h4 := u1.symm
      replace u2 : r4.toInt = kd h3 := u2
      have s2' : (eI g2 0 28).toInt = 2 := by omega
      obtain ⟨N3, g3, b3, et3⟩ := (mp_turn et2 x3).2.2.1 s2'
      have tk2 := TT_tk x1
      have nop3 := nop.1 (by omega)
      have off : ¬ ((eI g2 0 17).toInt = 3 ∧ ((eI g2 0 18).toInt = 43 ∨ (eI g2 0 18).toInt = 45 ∨ (eI g2 0 18).toInt = 42 ∨ (eI g2 0 18).toInt = 47)) := tkl_off tk2 (by omega)
      have b3 := mp_goes_off b3 off
      have top2 : (eA g2 0 23 ((eI g2 0 22).toInt.toNat - 1)).toInt = 4 := by
        rw [x4, x6 _ (by omega)]; exact topA
      unfold f_X9_goesOn_65 at b3
      rw [if_neg (fun q => by have := gi_of_eq q; omega)] at b3
      unfold f_X9_goesOn_116 at b3
      rw [if_pos (gi_eq (by omega))] at b3
      have no : ¬ (3 ≤ kd h3 ∧ kd h3 ≤ 8) → f_X9_goesOn_181 g2 (eA g2 0 23 ((eI g2 0 22).toInt.toNat - 1)) = some g3 → BAD r h' g := by
        intro nk b3
        unfold f_X9_goesOn_181 at b3
        rw [if_neg (fun q => by have := gi_of_eq q; omega), if_neg (fun q => by have := gi_of_eq q; omega)] at b3
        unfold f_X9_goesOn_245 f_X9_goesOn_250 at b3
        obtain ⟨g5, b5, b3⟩ := ob1_some b3
        cases b3
        have e62 : f_X2_readAsk_1_62 (fun h p1 p2 => G_read_1 n 0 h p1 p2) (fun h p1 => G_read_1 n 1 h p1 0) (fun h p1 => G_read_1 n 2 h p1 0) h3 op r4 = some h' := by
          by_cases c3 : r4 < 3
          · rw [if_pos c3] at e; exact e
          · rw [if_neg c3] at e
            have d3 := gi_of_nlt c3
            rw [if_neg (fun q => by have := gi_of_le q; omega)] at e
            exact e
        unfold f_X2_readAsk_1_62 at e62
        obtain ⟨h5, e5, e62⟩ := ob1_some e62
        have bd := bad_here x1 x2 x3 e5 b5 (by decide) et3
        unfold f_X2_readAsk_1_68 f_X2_readAsk_1_97 at e62
        rw [if_neg bd.1] at e62
        cases e62
        exact BAD_left bd (Fr_trans (Fr_mono (by decide) fA) x11.1)
      by_cases s3 : eI g2 0 17 = 3
      · rw [if_pos s3] at b3
        have d3 := gi_of_eq s3
        obtain ⟨r16, b16, b3⟩ := ob1_some b3
        have k16 := mp_isAsking b16
        have same2 : ((eI g2 0 18).toInt = 60 ∨ (eI g2 0 18).toInt = 62 ∨ (eI g2 0 18).toInt = 61 ∨ (eI g2 0 18).toInt = 35 ∨ (eI g2 0 18).toInt = 300 ∨ (eI g2 0 18).toInt = 301) ↔ (3 ≤ kd h3 ∧ kd h3 ≤ 8) := tkl_ask tk2 (by omega)
        rcases k16 with ⟨rfl, k16⟩ | ⟨rfl, k16⟩
        · rw [if_pos rfl] at b3
          exact Or.inl (no (fun q => k16 (same2.mpr q)) b3)
        · rw [if_neg (by decide)] at b3
          have kk := same2.mp k16
          have ops : OPK (20000 + r4).toInt (eI g2 0 18).toInt := by
            have u1 := fb_addI (x := 20000) (y := r4) (by omega) (by omega)
            rw [u1, z20000, show r4.toInt = kd h3 from u2]
            exact OPK_of (SG_OPR (tkl_sg tk2 (by omega) kk) (by omega)) (by omega)
          have e68 : f_X2_readAsk_1_68 (fun h p1 p2 => G_read_1 n 0 h p1 p2) (fun h p1 => G_read_1 n 1 h p1 0) (fun h p1 => G_read_1 n 2 h p1 0) h3 op r4 = some h' := by
            rw [if_neg (fun q => by have := gi_of_lt q; omega), if_pos (gi_le (by omega))] at e
            exact e
          unfold f_X2_readAsk_1_68 f_X2_readAsk_1_97 at e68
          rw [if_pos x2] at e68
          obtain ⟨h13, e13, e68⟩ := ob1_some e68
          obtain ⟨h14, e14, e68⟩ := ob1_some e68
          obtain ⟨h15, e15, e68⟩ := ob1_some e68
          cases e68
          obtain ⟨g18, b18, b3⟩ := ob1_some b3
          obtain ⟨-, b3⟩ := ob_if b3
          obtain ⟨-, b3⟩ := ob_if b3
          obtain ⟨g21, b21, b3⟩ := ob1_some b3
          unfold f_X9_goesOn_250 at b3
          cases b3
          unfold f_X9_works at b18
          have wA : 0 ≤ (eI gA 0 25).toInt := pA.2.2.2.2.2.1.2.1
          obtain ⟨m1, ccf, m5⟩ := RES_flush (x1 := 3) R wA rks stp b18
          have i22 : eI g18 0 22 = eI gA 0 22 := (m5.1 0 22 (by decide)).trans x4
          have i18 : eI g18 0 18 = eI g2 0 18 := m5.1 0 18 (by decide)
          have s22 := fb_subI (x := eI g18 0 22) (y := 1) (by rw [i22]; omega) (by rw [i22]; omega)
          have ix1 : (eI g18 0 22).toNatClampNeg = (eI g 0 22).toInt.toNat + 1 := by rw [Int32.toNatClampNeg, i22]; omega
          have ix2 : (eI g18 0 22 - 1).toNatClampNeg = (eI g 0 22).toInt.toNat := by rw [Int32.toNatClampNeg]; rw [i22] at s22; rw [i22]; omega
          rw [ix1, ix2] at b21
          have fB : Fr [(0, 0, 25), (0, 0, 36), (1, 0, 37), (1, 0, 38), (1, 0, 24), (1, 0, 23)] g2 (sA (sA g18 0 24 (upd (eA g18 0 24) ((eI g 0 22).toInt.toNat + 1) (eI g18 0 18))) 0 23 (upd (eA g18 0 23) (eI g 0 22).toInt.toNat 5)) := Fr_sA (by decide) (Fr_sA (by decide) (Fr_mono (by decide) m5))
          obtain ⟨t13, eh, ea⟩ := TT_adv x1 (by omega) e13 fB (by decide) (by decide) (by decide) b21
          have fn := w_f_X9_next _ _ b21
          subst eh
          have fC : Fr [(0, 0, 28)] g21 (sI g21 0 28 1) := Fr_sI (by decide) (Fr_refl _ _)
          generalize hgC : sI g21 0 28 1 = gC at et3 fC
          have C28 : eI gC 0 28 = 1 := by rw [← hgC]; rfl
          have C22 : eI gC 0 22 = eI gA 0 22 := by
            rw [fC.1 0 22 (by decide), fn.1 0 22 (by decide)]; exact i22
          have C23 : eA gC 0 23 = upd (eA g18 0 23) (eI g 0 22).toInt.toNat 5 := by
            rw [fC.2.1 0 23 (by decide), fn.2.1 0 23 (by decide)]; rfl
          have C24 : eA gC 0 24 = upd (eA g18 0 24) ((eI g 0 22).toInt.toNat + 1) (eI g18 0 18) := by
            rw [fC.2.1 0 24 (by decide), fn.2.1 0 24 (by decide)]; rfl
          have C25 : (eI gC 0 25).toInt = (eI gA 0 25).toInt := by
            rw [fC.1 0 25 (by decide), fn.1 0 25 (by decide)]; exact m1
          have C26 : eA gC 0 26 = eA g2 0 26 := by
            rw [fC.2.1 0 26 (by decide), fn.2.1 0 26 (by decide)]; exact m5.2.1 0 26 (by decide)
          have C27 : eA gC 0 27 = eA g2 0 27 := by
            rw [fC.2.1 0 27 (by decide), fn.2.1 0 27 (by decide)]; exact m5.2.1 0 27 (by decide)
          have C36 : eI gC 0 36 = eI g18 0 36 := by
            rw [fC.1 0 36 (by decide), fn.1 0 36 (by decide)]; rfl
          have C37 : eA gC 0 37 = eA g18 0 37 := by
            rw [fC.2.1 0 37 (by decide), fn.2.1 0 37 (by decide)]; rfl
          have C38 : eA gC 0 38 = eA g18 0 38 := by
            rw [fC.2.1 0 38 (by decide), fn.2.1 0 38 (by decide)]; rfl
          have C21 : eI gC 0 21 = eI gA 0 21 := by
            rw [fC.1 0 21 (by decide), fn.1 0 21 (by decide)]; exact (m5.1 0 21 (by decide)).trans x5
          have C19 : eI gC 0 19 = 0 := by
            rw [fC.1 0 19 (by decide), fn.1 0 19 (by decide)]; exact (m5.1 0 19 (by decide)).trans x3
          have C30 : eI gC 0 30 = eI gA 0 30 := by
            rw [fC.1 0 30 (by decide), fn.1 0 30 (by decide)]; exact (m5.1 0 30 (by decide)).trans (x11.1.1 0 30 (by decide))
          have ccA : CC 10 d h gA (sI h3 4 4 (eI h3 4 4 + 1)) gC [] := CC_same ccf rfl rfl C36 C37 C38
          have l0 : (([] : List Int).length : Int) = 0 := rfl
          have c34 := ccA.2.2.2.1
          have c33 := ccA.2.2.1
          have frh : Fr S_read_1 h h3 := w_G_read_1 _ _ _ _ _ _ e3
          have h52 : eI h3 5 2 = eI h 5 2 := frh.1 5 2 (by decide)
          have pC : PRE B L P 10 d op.toInt (sI h3 4 4 (eI h3 4 4 + 1)) gC := by
            refine ⟨TT_g t13 fC (by decide) (by decide) (by decide) (by decide) (by decide) (by decide), x2, C19, by rw [C21]; exact pA.2.2.2.1, hop2, ⟨by rw [C22]; omega, by omega, fun i hi => ?_⟩, by omega, ⟨?_, ?_⟩, ?_, ?_⟩
            · rw [C27, C22, (x8 i (by omega)).2]
              exact pA.2.2.2.2.2.1.2.2 i (by omega)
            · omega
            · rw [ea]
              show (eI h3 10 5).toInt ≤ at_ h3 + 1
              omega
            · show eI gC 0 30 = eI h3 5 2
              rw [C30, h52]; exact pA.2.2.2.2.2.2.2.2.1
            · show 0 ≤ (eI h3 5 2).toInt
              rw [h52]; exact lk2
          have topC : (eA gC 0 23 ((eI gC 0 22).toInt.toNat - 1)).toInt = 5 := by
            rw [C23, C22, J22, show ((eI g 0 22).toInt + 1).toNat - 1 = (eI g 0 22).toInt.toNat by omega]
            unfold upd
            rw [if_pos rfl]; rfl
          have stpC : STOP (eA gC 0 26) (eA gC 0 27) (eI gC 0 22).toInt (rl (3 : Int32).toInt) (eI gC 0 25).toInt.toNat := by
            rw [C22, C25, C26, C27]
            rcases stp with q | ⟨k, q1, q2⟩
            · exact Or.inl q
            · have a := x8 k (by omega)
              refine Or.inr ⟨k, q1, ?_⟩
              rw [a.1, a.2]
              exact q2
          have frC : Fr SPR g gC := Fr_trans (Fr_mono (by decide) fA) (Fr_trans x11.1 (Fr_trans (Fr_mono (by decide) fB) (Fr_trans (Fr_mono (by decide) fn) (Fr_mono (by decide) fC))))
          rcases ih2 3 _ h14 gC N3 r op e14 (by omega) (by omega) pC (Or.inr ⟨by omega, by rw [C28]; rfl⟩) (by rw [C22]; omega) (by omega) (by omega) stpC et3 with bad | ⟨N4, g4, ps4, et4, R4, s4, rks4, nop4⟩
          · exact Or.inl (BAD_left (BAD_fr bad (w_f_X6_addStep_1 h14 _ _ e15) (by decide) (by decide)) frC)
          · obtain ⟨y1, y2, y3, ⟨y4, y5, y6, y6'⟩, ⟨y7, y8, y8'⟩, y9, y10, y11⟩ := id R4
            have s4' : (eI g4 0 28).toInt = 2 := by omega
            obtain ⟨N5, g5, b5, et5⟩ := (mp_turn et4 y3).2.2.1 s4'
            have tk4 := TT_tk y1
            have nop5 := nop4.1 (by omega)
            have off4 : ¬ ((eI g4 0 17).toInt = 3 ∧ ((eI g4 0 18).toInt = 43 ∨ (eI g4 0 18).toInt = 45 ∨ (eI g4 0 18).toInt = 42 ∨ (eI g4 0 18).toInt = 47)) := tkl_off tk4 (by omega)
            have b5 := mp_goes_off b5 off4
            have top4 : (eA g4 0 23 ((eI g4 0 22).toInt.toNat - 1)).toInt = 5 := by
              rw [y4, y6 _ (by rw [C22]; omega)]; exact topC
            unfold f_X9_goesOn_65 at b5
            rw [if_neg (fun q => by have := gi_of_eq q; omega)] at b5
            unfold f_X9_goesOn_116 at b5
            rw [if_neg (fun q => by have := gi_of_eq q; omega)] at b5
            unfold f_X9_goesOn_181 at b5
            rw [if_pos (gi_eq (by omega))] at b5
            obtain ⟨g27, b27, b5⟩ := ob1_some b5
            obtain ⟨-, b5⟩ := ob_if b5
            obtain ⟨g29, b29, b5⟩ := ob1_some b5
            obtain ⟨g30, b30, b5⟩ := ob1_some b5
            unfold f_X9_goesOn_250 at b5
            cases b5
            unfold f_X9_works at b27
            unfold f_X9_askIsOver at b30
            obtain ⟨n1, ccg, n5⟩ := RES_flush (x1 := 3) R4 (by omega) rks4 stpC b27
            have k22 : eI g27 0 22 = eI gA 0 22 := ((n5.1 0 22 (by decide)).trans y4).trans C22
            have how : eA g27 0 24 ((eI g27 0 22).toNatClampNeg) = eI g2 0 18 := by
              rw [n5.2.1 0 24 (by decide), Int32.toNatClampNeg, k22, show (eI gA 0 22).toInt.toNat = (eI g 0 22).toInt.toNat + 1 by omega, y6' _ (by rw [C22]; omega), C24]
              unfold upd
              rw [if_pos rfl, i18]
            rw [how] at b29
            obtain ⟨⟨q1, q2⟩, eg29⟩ := mp_emits b29
            replace q1 : 0 ≤ (eI g27 0 36).toInt := q1
            replace q2 : (eI g27 0 36).toInt < 400 := q2
            have ccB : CC 10 d h gA h14 g27 [] := CC_trans ccA ccg
            have tl := TT_at y1
            have at3 : at_ (sI h3 4 4 (eI h3 4 4 + 1)) = at_ h3 + 1 := ea
            have scC : (eI (sI h3 4 4 (eI h3 4 4 + 1)) 10 5).toInt = (eI h3 10 5).toInt := rfl
            have c43 := ccB.2.2.1
            have eh15 := cp_addStep_1 e15 (by omega) (by omega)
            subst eh15
            have a1 := fb_addI (x := eI h14 10 5) (y := 1) (by omega) (by omega)
            have a2 := fb_addI (x := eI g27 0 36) (y := 1) (by omega) (by omega)
            have fD : Fr [(0, 0, 22), (1, 0, 37), (1, 0, 38), (0, 0, 36)] g27 g29 := by
              rw [eg29]
              exact Fr_sI (by decide) (Fr_sA (by decide) (Fr_sA (by decide) (Fr_sI (by decide) (Fr_refl _ _))))
            have D22 : eI g29 0 22 = eI g27 0 22 - 1 := by rw [eg29]; rfl
            have fh : Fr [(1, 10, 2), (0, 10, 5)] h14 (sI (sA h14 10 2 (upd (eA h14 10 2) (eI h14 10 5).toInt.toNat (20000 + r4))) 10 5 (eI h14 10 5 + 1)) := Fr_sI (by decide) (Fr_sA (by decide) (Fr_refl _ _))
            refine Or.inr ⟨N5, _, g29, _, b30, et5, TT_g (TT_h (TT_g y1 n5 (by decide) (by decide) (by decide) (by decide) (by decide) (by decide)) fh (by decide) (by decide) (by decide) (by decide) (by decide)) fD (by decide) (by decide) (by decide) (by decide) (by decide) (by decide), y2, ?_, ⟨?_, ?_, fun i hi => ?_, fun i hi => ?_⟩, WW0 ?_ (fun i hi => ?_), ?_, ?_, Fr_trans frC (Fr_trans y11.1 (Fr_trans (Fr_mono (by decide) n5) (Fr_mono (by decide) fD))), y11.2.trans x11.2⟩
            · rw [fD.1 0 19 (by decide), n5.1 0 19 (by decide)]; exact y3
            · rw [D22, k22, A22, i32_ps]
            · rw [fD.1 0 21 (by decide), n5.1 0 21 (by decide), y5, C21, fA.1 0 21 (by decide)]
            · rw [fD.2.1 0 23 (by decide), n5.2.1 0 23 (by decide), y6 i (by rw [C22]; omega), C23]
              unfold upd
              rw [if_neg (by omega), m5.2.1 0 23 (by decide), x6 i (by omega), A23]
              unfold upd
              rw [if_neg (by omega)]
            · rw [fD.2.1 0 24 (by decide), n5.2.1 0 24 (by decide), y6' i (by rw [C22]; omega), C24]
              unfold upd
              rw [if_neg (by omega), m5.2.1 0 24 (by decide), x6' i (by omega), fA.2.1 0 24 (by decide)]
            · rw [fD.1 0 25 (by decide), n1, C25, fA.1 0 25 (by decide)]
            · have hi2 : (i : Int) < (eI gA 0 25).toInt := by rw [fA.1 0 25 (by decide)]; exact hi
              have k1 := y8 i (by omega)
              have k2 := x8 i hi2
              rw [fD.2.1 0 26 (by decide), fD.2.1 0 27 (by decide), n5.2.1 0 26 (by decide), n5.2.1 0 27 (by decide), k1.1, k1.2, C26, C27, k2.1, k2.2, fA.2.1 0 26 (by decide), fA.2.1 0 27 (by decide)]
              exact ⟨rfl, rfl⟩
            · have ccL := CC_left ccB rfl rfl (fA.1 0 36 (by decide)) (fA.2.1 0 37 (by decide)) (fA.2.1 0 38 (by decide))
              refine CC_emit ccL ?_ rfl ?_ (by rw [eg29]; rfl) (by rw [eg29]; rfl) (Or.inr (Or.inr ops))
              · show (eI h14 10 5 + 1).toInt = _; omega
              · rw [eg29]
                show (eI g27 0 36 + 1).toInt = _; omega
            · show (eI h14 10 5 + 1).toInt - (eI h 10 5).toInt ≤ at_ h14 - at_ h
              omega
      · rw [if_neg s3] at b3
        refine Or.inl (no (fun q => ?_) b3)
        have d3 := gi_of_ne s3
        rcases tk2 with u | u | u | u | u
        · omega
        · omega
        · omega
        · omega
        · have := u.2; omega
  · -- not
    rw [if_neg (by decide)] at eb
    have k28 := same.mp w2
    rw [if_pos (gi_eq (by omega))] at e
    obtain ⟨r7, h7, e7, e⟩ := ob2_some e
    obtain ⟨rb, gb, bb, eb⟩ := ob2_some eb
    unfold f_X9_asks_28 at eb
    obtain rfl : gb = g1 := Option.some.inj eb
    rcases opens_both (by decide) x (by omega) e7 bb with ⟨y1, y2, y3⟩ | ⟨y1, y2, y3, y4, y5, y6, y7, y8, y9⟩
    · replace y1 : r7 = 0 := y1
      rw [if_pos y1] at e
      unfold f_X2_readAsk_1_34 at e
      cases e
      exact Or.inl (bad_here t f0 g0 y2 y3 (by decide) et)
    · replace y1 : r7 = 1 := y1
      replace y6 : (eI gb 0 22).toInt = (eI g 0 22).toInt + 1 := y6
      replace y7 : eA gb 0 23 = upd (eA g 0 23) (eI g 0 22).toInt.toNat 3 := y7
      replace y9 : Fr [(0, 0, 15), (0, 0, 16), (0, 0, 17), (0, 0, 18), (0, 0, 21), (0, 0, 22), (1, 0, 23)] g gb := y9
      rw [if_neg (by rw [y1]; decide)] at e
      obtain ⟨h9, e9, e⟩ := ob1_some e
      obtain ⟨h10, e10, e⟩ := ob1_some e
      unfold f_X2_readAsk_1_34 at e
      cases e
      rcases ih1 h7 h9 gb N1 r (op + 1) e9 y2 (by rw [y9.1 0 28 (by decide)]; exact st) (by omega) et with bad | ⟨N2, m, g2, g3, eo, et2, R⟩
      · exact Or.inl (BAD_left (BAD_fr bad (w_f_X6_addStep_1 h9 _ _ e10) (by decide) (by decide)) (Fr_mono (by decide) y9))
      · have top : (eA g2 0 23 ((eI g2 0 22).toInt.toNat - 1)).toInt = 3 := by
          rw [R.2.2.2.1.1, R.2.2.2.1.2.2.1 _ (by rw [y6]; omega), y7, y6, show ((eI g 0 22).toInt + 1).toNat - 1 = (eI g 0 22).toInt.toNat by omega]
          unfold upd
          rw [if_pos rfl]; rfl
        rcases mp_ask eo with ⟨q, -⟩ | ⟨-, m2, g4, e4, eo2⟩
        · exact absurd top q
        · exact Or.inr ⟨N2, m2, g4, g3, eo2, et2, over_1 (by rw [hop]; exact x) y3 y4 y5 y6 y7 y8 y9 R e10 e4 ⟨by decide, by unfold OPR; decide⟩⟩
theorem rdloop_1 {B : Int → Int} {L : Int} {P : Nat → Int} {d : Nat} {n : Nat} (ih3 : LevS_1 B L P d n) {l op : Int32} (hl : 0 ≤ l.toInt ∧ l.toInt ≤ 4 ∧ ¬ l.toInt = 2) {h h' g : HS} {r : Int32 × HS} (x : PRE B L P 10 d op.toInt h g) (fr : 1 ≤ (eI g 0 22).toInt) (t7 : ¬ (eA g 0 23 ((eI g 0 22).toInt.toNat - 1)).toInt = 7) (t3 : ¬ (eA g 0 23 ((eI g 0 22).toInt.toNat - 1)).toInt = 3) (stp : STOP (eA g 0 26) (eA g 0 27) (eI g 0 22).toInt (rl l.toInt) (eI g 0 25).toInt.toNat) (h52 : eI h 5 2 = eI h 5 2) : ∀ (k : Nat) (h3 g3 : HS) (x5 : Int32) (N3 : Nat) (ps : List Int), f_X2_readLevel_1_42 (fun h p1 p2 => G_read_1 n 0 h p1 p2) (fun h p1 => G_read_1 n 1 h p1 0) (fun h p1 => G_read_1 n 2 h p1 0) k h3 l op x5 = some h' → RES B L P 10 d h g h3 g3 ps → Fr S_read_1 h h3 → ((l.toInt ≤ 2 ∧ (eI g3 0 28).toInt = 3) ∨ (3 ≤ l.toInt ∧ (eI g3 0 28).toInt = 2)) → (∀ p ∈ ps, rl l.toInt ≤ rnk p) → NOP (l.toInt + 1) (kd h3) → 0 ≤ x5.toInt → x5.toInt ≤ at_ h3 → f_X9_text_74 N3 g3 = some r → BAD r h' g ∨ ∃ (N' : Nat) (g' : HS) (ps : List Int), f_X9_text_74 N' g' = some r ∧ RES B L P 10 d h g h' g' ps ∧ ((l.toInt ≤ 2 ∧ (eI g' 0 28).toInt = 3) ∨ (3 ≤ l.toInt ∧ (eI g' 0 28).toInt = 2)) ∧ (∀ p ∈ ps, rl l.toInt ≤ rnk p) ∧ NOP l.toInt (kd h') := by
  have z1 : (1 : Int32).toInt = 1 := rfl
  have z300 : (300 : Int32).toInt = 300 := rfl
  have z20000 : (20000 : Int32).toInt = 20000 := rfl
  have rs := rl_spec l.toInt
  have rs1 := rl_spec (l.toInt + 1)
  have al := fb_addI (x := l) (y := 1) (by omega) (by omega)
  obtain ⟨t, f0, g0, hop, hop2, wf, b0, sb, lk1, lk2⟩ := id x
  intro k
  induction k with
  | zero => intro h3 g3 x5 N3 ps e; cases e
  | succ k ihk =>
    intro h3 g3 x5 N3 ps e R fh st rks nop x50 x5a et
    obtain ⟨x1, x2, x3, ⟨x4, x5', x6, x6'⟩, ⟨x7, x8, x8'⟩, x9, x10, x11⟩ := id R
    rw [f_X2_readLevel_1_42_s] at e
    unfold f_X2_readLevel_1_105 at e
    have sp := lv_spec (kd h3)
    have stop : some h3 = some h' → ¬ lv (kd h3) = l.toInt → BAD r h' g ∨ ∃ (N' : Nat) (g' : HS) (ps : List Int), f_X9_text_74 N' g' = some r ∧ RES B L P 10 d h g h' g' ps ∧ ((l.toInt ≤ 2 ∧ (eI g' 0 28).toInt = 3) ∨ (3 ≤ l.toInt ∧ (eI g' 0 28).toInt = 2)) ∧ (∀ p ∈ ps, rl l.toInt ≤ rnk p) ∧ NOP l.toInt (kd h') := by
      intro q nl
      cases q
      refine Or.inr ⟨N3, g3, ps, et, R, st, rks, ?_⟩
      unfold NOP at *
      omega
    by_cases c1 : (300 : Int32) ≤ x5
    · rw [if_pos c1] at e
      have d1 := gi_of_le c1
      have k0 : kd h3 = 0 := by
        apply Classical.byContradiction
        intro q
        have := TT_lt x1 q
        omega
      exact stop e (by omega)
    · rw [if_neg c1, if_pos x2] at e
      have d1 := gi_of_nle c1
      obtain ⟨r8, h8, e8, e⟩ := ob2_some e
      obtain ⟨u1, u2⟩ := TT_kind x1 e8
      obtain rfl : h3 = h8 := u1.symm
      replace u2 : r8.toInt = kd h3 := u2
      obtain ⟨r9, e9, e⟩ := ob1_some e
      have u9 := cp_levelOf e9
      rw [u2] at u9
      by_cases c9 : r9 = l
      · rw [if_pos c9] at e
        have d9 := gi_of_eq c9
        have hlv : lv (kd h3) = l.toInt := by omega
        obtain ⟨r11, h11, e11, e⟩ := ob2_some e
        obtain ⟨u3, u4⟩ := TT_kind x1 e11
        obtain rfl : h3 = h11 := u3.symm
        replace u4 : r11.toInt = kd h3 := u4
        obtain ⟨h12, e12, e⟩ := ob1_some e
        obtain ⟨h13, e13, e⟩ := ob1_some e
        obtain ⟨h14, e14, e⟩ := ob1_some e
        obtain ⟨N4, g5, p, st5, b5, et5, ops, rkp, hst⟩ := mp_op x1 x3 et hlv (by omega)
        unfold f_X9_waitsFor at b5
        obtain ⟨rr, br, b5⟩ := ob1_some b5
        have kr := mp_rank br
        obtain ⟨g4, b4, b5⟩ := ob1_some b5
        unfold f_X9_works at b4
        obtain ⟨m1, ccf, m5⟩ := RES_flush R wf.2.1 (x1 := rr) (fun q hq => by rw [kr, rkp]; exact rks q hq) (by rw [kr, rkp]; exact stp) b4
        obtain ⟨w25, b5⟩ := ob_if b5
        obtain ⟨-, b5⟩ := ob_if b5
        obtain ⟨g5', b6, b5⟩ := ob1_some b5
        obtain rfl : g5' = g5 := Option.some.inj b5
        have i4 : (eI g4 0 25).toNatClampNeg = (eI g 0 25).toInt.toNat := by rw [Int32.toNatClampNeg, m1]
        rw [i4] at b6
        have fB : Fr [(0, 0, 25), (0, 0, 36), (1, 0, 37), (1, 0, 38), (1, 0, 26), (1, 0, 27)] g3 (sI (sA (sA g4 0 26 (upd (eA g4 0 26) (eI g 0 25).toInt.toNat p)) 0 27 (upd (eA g4 0 27) (eI g 0 25).toInt.toNat (eI g4 0 22))) 0 25 (eI g4 0 25 + 1)) := Fr_sI (by decide) (Fr_sA (by decide) (Fr_sA (by decide) (Fr_mono (by decide) m5)))
        obtain ⟨t12, eh, ea⟩ := TT_adv x1 (by omega) e12 fB (by decide) (by decide) (by decide) b6
        have fn := w_f_X9_next _ _ b6
        have fC : Fr [(0, 0, 28)] g5' (sI g5' 0 28 st5) := Fr_sI (by decide) (Fr_refl _ _)
        generalize hgC : sI g5' 0 28 st5 = gC at et5 fC
        have C28 : eI gC 0 28 = st5 := by rw [← hgC]; rfl
        have a25 := fb_addI (x := eI g4 0 25) (y := 1) (by omega) (by omega)
        have C25 : (eI gC 0 25).toInt = (eI g 0 25).toInt + 1 := by
          rw [fC.1 0 25 (by decide), fn.1 0 25 (by decide)]
          show (eI g4 0 25 + 1).toInt = _
          omega
        have C22 : eI gC 0 22 = eI g 0 22 := by
          rw [fC.1 0 22 (by decide), fn.1 0 22 (by decide)]; exact (m5.1 0 22 (by decide)).trans x4
        have C21 : eI gC 0 21 = eI g 0 21 := by
          rw [fC.1 0 21 (by decide), fn.1 0 21 (by decide)]; exact (m5.1 0 21 (by decide)).trans x5'
        have C23 : eA gC 0 23 = eA g3 0 23 := by
          rw [fC.2.1 0 23 (by decide), fn.2.1 0 23 (by decide)]; exact m5.2.1 0 23 (by decide)
        have C24 : eA gC 0 24 = eA g3 0 24 := by
          rw [fC.2.1 0 24 (by decide), fn.2.1 0 24 (by decide)]; exact m5.2.1 0 24 (by decide)
        have C26 : eA gC 0 26 = upd (eA g3 0 26) (eI g 0 25).toInt.toNat p := by
          rw [fC.2.1 0 26 (by decide), fn.2.1 0 26 (by decide), ← m5.2.1 0 26 (by decide)]; rfl
        have C27 : eA gC 0 27 = upd (eA g3 0 27) (eI g 0 25).toInt.toNat (eI g 0 22) := by
          rw [fC.2.1 0 27 (by decide), fn.2.1 0 27 (by decide), ← m5.2.1 0 27 (by decide), ← x4, ← m5.1 0 22 (by decide)]; rfl
        have C36 : eI gC 0 36 = eI g4 0 36 := by
          rw [fC.1 0 36 (by decide), fn.1 0 36 (by decide)]; rfl
        have C37 : eA gC 0 37 = eA g4 0 37 := by
          rw [fC.2.1 0 37 (by decide), fn.2.1 0 37 (by decide)]; rfl
        have C38 : eA gC 0 38 = eA g4 0 38 := by
          rw [fC.2.1 0 38 (by decide), fn.2.1 0 38 (by decide)]; rfl
        have C19 : eI gC 0 19 = 0 := by
          rw [fC.1 0 19 (by decide), fn.1 0 19 (by decide)]; exact (m5.1 0 19 (by decide)).trans x3
        have C30 : eI gC 0 30 = eI g 0 30 := by
          rw [fC.1 0 30 (by decide), fn.1 0 30 (by decide)]; exact (m5.1 0 30 (by decide)).trans (x11.1.1 0 30 (by decide))
        have hs12 : eI h12 10 5 = eI h3 10 5 ∧ eA h12 10 2 = eA h3 10 2 ∧ eI h12 5 0 = eI h3 5 0 ∧ eI h12 5 2 = eI h3 5 2 := by
          subst eh; exact ⟨rfl, rfl, rfl, rfl⟩
        have ccA : CC 10 d h g h12 gC [] := CC_same ccf hs12.1 hs12.2.1 C36 C37 C38
        have l0 : (([] : List Int).length : Int) = 0 := rfl
        have c34 := ccA.2.2.2.1
        have c33 := ccA.2.2.1
        have sc12 : (eI h12 10 5).toInt = (eI h3 10 5).toInt := by rw [hs12.1]
        have h52' : eI h3 5 2 = eI h 5 2 := fh.1 5 2 (by decide)
        have pC : PRE B L P 10 d op.toInt h12 gC := by
          refine ⟨TT_g t12 fC (by decide) (by decide) (by decide) (by decide) (by decide) (by decide), hs12.2.2.1.trans x2, C19, by rw [C21]; exact hop, hop2, ⟨by rw [C22]; omega, by have := wf.2.1; omega, fun i hi => ?_⟩, by omega, ⟨by omega, by omega⟩, ?_, ?_⟩
          · rw [C27, C22]
            unfold upd
            by_cases ci : i = (eI g 0 25).toInt.toNat
            · rw [if_pos ci]; exact Int.le_refl _
            · rw [if_neg ci, (x8 i (by omega)).2]
              exact wf.2.2 i (by omega)
          · rw [C30, hs12.2.2.2, h52']; exact lk1
          · rw [hs12.2.2.2, h52']; exact lk2
        have topC : eA gC 0 23 ((eI gC 0 22).toInt.toNat - 1) = eA g 0 23 ((eI g 0 22).toInt.toNat - 1) := by
          rw [C23, C22]; exact x6 _ (by omega)
        have stpC : STOP (eA gC 0 26) (eA gC 0 27) (eI gC 0 22).toInt (rl (l + 1).toInt) (eI gC 0 25).toInt.toNat := by
          refine Or.inr ⟨(eI g 0 25).toInt.toNat, by have := wf.2.1; omega, Or.inr ?_⟩
          rw [C26]
          unfold upd
          rw [if_pos rfl, rkp, show (l + 1).toInt = l.toInt + 1 by omega]
          omega
        have frC : Fr SPR g gC := Fr_trans x11.1 (Fr_trans (Fr_mono (by decide) fB) (Fr_trans (Fr_mono (by decide) fn) (Fr_mono (by decide) fC)))
        rcases ih3 (l + 1) h12 h13 gC N4 r op e13 (by omega) (by omega) pC (by rw [C28]; omega) (by rw [C22]; exact fr) (by rw [topC]; exact t7) (by rw [topC]; exact t3) stpC et5 with bad | ⟨N6, g7, ps5, et7, R5, st7, rks7, nop7⟩
        · have bad2 := BAD_fr bad (w_f_X6_addStep_1 h13 _ _ e14) (by decide) (by decide)
          have eh' : h' = h14 := by
            cases k with
            | zero => cases e
            | succ k =>
              rw [f_X2_readLevel_1_42_s] at e
              unfold f_X2_readLevel_1_105 at e
              by_cases c : (300 : Int32) ≤ x5 + 1
              · rw [if_pos c] at e; cases e; rfl
              · rw [if_neg c, if_neg bad2.1] at e; cases e; rfl
          rw [eh']
          exact Or.inl (BAD_left bad2 frC)
        · obtain ⟨y1, y2, y3, ⟨y4, y5, y6, y6'⟩, ⟨y7, y8, y8'⟩, y9, y10, y11⟩ := id R5
          have ccB : CC 10 d h g h13 g7 ps5 := CC_trans ccA y9
          have c43 := y9.2.2.1
          have c44 := ccB.2.2.1
          have tl := TT_at y1
          have eh14 := cp_addStep_1 e14 (by omega) (by omega)
          have a1 := fb_addI (x := eI h13 10 5) (y := 1) (by omega) (by omega)
          have fh14 : Fr [(1, 10, 2), (0, 10, 5)] h13 h14 := by
            rw [eh14]; exact Fr_sI (by decide) (Fr_sA (by decide) (Fr_refl _ _))
          have sc14 : (eI h14 10 5).toInt = (eI h13 10 5).toInt + 1 := by
            rw [eh14]; show (eI h13 10 5 + 1).toInt = _; omega
          have st14 : eA h14 10 2 = upd (eA h13 10 2) (eI h13 10 5).toInt.toNat (20000 + r11) := by rw [eh14]; rfl
          have at14 : at_ h14 = at_ h13 := by rw [eh14]; rfl
          have kd14 : kd h14 = kd h13 := by rw [eh14]; rfl
          have u5 := fb_addI (x := 20000) (y := r11) (by omega) (by omega)
          have ax5 := fb_addI (x := x5) (y := 1) (by omega) (by omega)
          have ln : ((ps5 ++ [p.toInt]).length : Int) = (ps5.length : Int) + 1 := by rw [List.length_append]; rfl
          have w0 := wf.2.1
          refine ihk h14 g7 (x5 + 1) N6 (ps5 ++ [p.toInt]) e ⟨TT_h y1 fh14 (by decide) (by decide) (by decide) (by decide) (by decide), (fh14.1 5 0 (by decide)).trans y2, y3, ⟨y4.trans C22, y5.trans C21, fun i hi => ?_, fun i hi => ?_⟩, ⟨by omega, fun i hi => ?_, ?_⟩, CC_push ccB sc14 st14 (by rw [show (20000 + r11).toInt = 20000 + kd h3 by omega]; exact ops), by omega, Fr_trans frC y11.1, ?_⟩ ?_ (by omega) ?_ ?_ (by omega) (by omega) et7
          · rw [y6 i (by rw [C22]; exact hi), C23]; exact x6 i hi
          · rw [y6' i (by rw [C22]; exact hi), C24]; exact x6' i hi
          · have k1 := y8 i (by omega)
            have k2 := x8 i hi
            rw [k1.1, k1.2, C26, C27]
            unfold upd
            rw [if_neg (by omega), if_neg (by omega)]
            exact k2
          · have k1 := y8 (eI g 0 25).toInt.toNat (by omega)
            have e7 : (eI g7 0 25).toInt.toNat = (eI g 0 25).toInt.toNat + 1 + ps5.length := by omega
            rw [e7]
            rw [e7, C22] at y8'
            refine WD_snoc ps5 _ y8' ?_ ?_
            · rw [k1.1, C26]
              unfold upd
              rw [if_pos rfl]
            · rw [k1.2, C27]
              unfold upd
              rw [if_pos rfl]
          · rw [fh14.1 5 1 (by decide), y11.2, eh]
            exact x11.2
          · have f12 : Fr S_read_1 h3 h12 := by
              subst eh; exact Fr_sI (by decide) (Fr_refl _ _)
            exact Fr_trans fh (Fr_trans f12 (Fr_trans (w_G_read_1 _ _ _ _ _ _ e13) (Fr_mono (by decide) fh14)))
          · intro q hq
            rcases List.mem_append.mp hq with hq | hq
            · have := rks7 q hq
              rw [show (l + 1).toInt = l.toInt + 1 by omega] at this
              omega
            · have : q = p.toInt := by simpa using hq
              rw [this, rkp]; exact Int.le_refl _
          · rw [kd14, ← show (l + 1).toInt = l.toInt + 1 by omega]; exact nop7
      · rw [if_neg c9] at e
        exact stop e (fun q => c9 (gi_eq (by omega)))
theorem lev_1 {B : Int → Int} {L : Int} {P : Nat → Int} {d : Nat} {n : Nat} (ih1 : OneS_1 B L P d n) (ih2 : AskS_1 B L P d n) (ih3 : LevS_1 B L P d n) : LevS_1 B L P d (n + 1) := by
  have z0 : (0 : Int32).toInt = 0 := rfl
  have z1 : (1 : Int32).toInt = 1 := rfl
  have z2 : (2 : Int32).toInt = 2 := rfl
  have z3 : (3 : Int32).toInt = 3 := rfl
  have z5 : (5 : Int32).toInt = 5 := rfl
  intro l h h' g N r op e l0 l5 x st fr t7 t3 stp et
  replace e : f_X2_readLevel_1_b (fun h p1 p2 => G_read_1 n 0 h p1 p2) (fun h p1 => G_read_1 n 1 h p1 0) (fun h p1 => G_read_1 n 2 h p1 0) h l op = some h' := e
  unfold f_X2_readLevel_1_b at e
  by_cases c2 : l = 2
  · rw [if_pos c2] at e
    have d2 := gi_of_eq c2
    obtain ⟨h5, e5, e⟩ := ob1_some e
    obtain rfl : h5 = h' := Option.some.inj e
    rcases ih2 h h5 g N r op e5 x (by omega) fr et with bad | ⟨N2, m, g1, g2, eo, et2, R⟩
    · exact Or.inl bad
    · have top : eA g1 0 23 ((eI g1 0 22).toInt.toNat - 1) = eA g 0 23 ((eI g 0 22).toInt.toNat - 1) := by
        rw [R.2.2.2.1.1]; exact R.2.2.2.1.2.2.1 _ (by omega)
      rcases mp_ask eo with ⟨-, q⟩ | ⟨q, -⟩
      · subst q
        refine Or.inr ⟨N2, _, [], et2, RES_st R, Or.inl ⟨by omega, rfl⟩, fun p hp => absurd hp List.not_mem_nil, ?_⟩
        unfold NOP
        omega
      · rw [top] at q; exact absurd q t3
  · rw [if_neg c2] at e
    have d2 := gi_of_ne c2
    by_cases c5 : l = 5
    · rw [if_pos c5] at e
      have d5 := gi_of_eq c5
      obtain ⟨h5, e5, e⟩ := ob1_some e
      obtain rfl : h5 = h' := Option.some.inj e
      rcases ih1 h h5 g N r op e5 x (by omega) fr et with bad | ⟨N2, m, g1, g2, eo, et2, R⟩
      · exact Or.inl bad
      · have top : eA g1 0 23 ((eI g1 0 22).toInt.toNat - 1) = eA g 0 23 ((eI g 0 22).toInt.toNat - 1) := by
          rw [R.2.2.2.1.1]; exact R.2.2.2.1.2.2.1 _ (by omega)
        rcases mp_one eo with ⟨-, q⟩ | ⟨q, -⟩
        · subst q
          refine Or.inr ⟨N2, _, [], et2, RES_st R, Or.inr ⟨by omega, rfl⟩, fun p hp => absurd hp List.not_mem_nil, ?_⟩
          have sp := lv_spec (kd h5)
          unfold NOP
          omega
        · rw [top] at q; exact absurd q t7
    · rw [if_neg c5] at e
      have d5 := gi_of_ne c5
      obtain ⟨h3, e3, e⟩ := ob1_some e
      have al := fb_addI (x := l) (y := 1) (by omega) (by omega)
      have rs := rl_spec l.toInt
      have rs1 := rl_spec (l.toInt + 1)
      have stp1 : STOP (eA g 0 26) (eA g 0 27) (eI g 0 22).toInt (rl (l + 1).toInt) (eI g 0 25).toInt.toNat := by
        rcases stp with q | ⟨k, q1, q2 | q2⟩
        · exact Or.inl q
        · exact Or.inr ⟨k, q1, Or.inl q2⟩
        · refine Or.inr ⟨k, q1, Or.inr ?_⟩
          rw [show (l + 1).toInt = l.toInt + 1 by omega]
          omega
      rcases ih3 (l + 1) h h3 g N r op e3 (by omega) (by omega) x (by omega) fr t7 t3 stp1 et with bad | ⟨N2, g2, ps, et2, R, s2, rks, nop⟩
      · have eh' : h' = h3 := by
          rw [show (8589934592 : Nat) = 8589934591 + 1 from rfl, f_X2_readLevel_1_42_s] at e
          unfold f_X2_readLevel_1_105 at e
          rw [if_neg (by decide), if_neg bad.1] at e
          cases e; rfl
        rw [eh']
        exact Or.inl bad
      · refine rdloop_1 ih3 ⟨l0, by omega, by omega⟩ x fr t7 t3 stp rfl _ h3 g2 0 N2 ps e R (w_G_read_1 _ _ _ _ _ _ e3) (by omega) (fun p hp => ?_) (by rw [← show (l + 1).toInt = l.toInt + 1 by omega]; exact nop) (by decide) ?_ et2
        · have := rks p hp
          rw [show (l + 1).toInt = l.toInt + 1 by omega] at this
          omega
        · have := (TT_at R.1).1
          omega
theorem read_1 (B : Int → Int) (L : Int) (P : Nat → Int) (d : Nat) : ∀ n : Nat, OneS_1 B L P d n ∧ AskS_1 B L P d n ∧ LevS_1 B L P d n := by
  intro n
  induction n with
  | zero =>
    refine ⟨?_, ?_, ?_⟩
    · intro h h' g N r op e
      exact absurd e (by simp [G_read_1])
    · intro h h' g N r op e
      exact absurd e (by simp [G_read_1])
    · intro l h h' g N r op e
      exact absurd e (by simp [G_read_1])
  | succ n ih => exact ⟨one_1 ih.1 ih.2.2, ask_1 ih.2.1 ih.2.2, lev_1 ih.1 ih.2.1 ih.2.2⟩
