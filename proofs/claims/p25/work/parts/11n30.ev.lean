/-! text 0: a law of the class against the reference's -/
theorem cp_stepAt_0 {h : HS} {i : Int32} {z : Int32 × HS} (e : f_X6_stepAt_0 h i = some z) (i0 : 0 ≤ i.toInt) (i1 : i.toInt < (eI h 9 5).toInt) (i2 : i.toInt < 300) : z = (eA h 9 2 i.toInt.toNat, h) := by
  have y0 : (0 : Int32).toInt = 0 := rfl
  have y300 : (300 : Int32).toInt = 300 := rfl
  unfold f_X6_stepAt_0 f_X6_stepAt_0_31 at e
  rw [if_neg (gi_nlt (by omega)), if_neg (gi_nle (by omega)), if_neg (gi_nle (by omega))] at e
  obtain ⟨-, e⟩ := ob_if e
  exact (Option.some.inj e).symm
theorem cp_firstStep_0 {h : HS} {i : Int32} {z : Int32 × HS} (e : f_X6_firstStep_0 h i = some z) (i0 : 0 ≤ i.toInt) (i1 : i.toInt < 4) : z = (eA h 9 3 i.toInt.toNat, h) := by
  have y0 : (0 : Int32).toInt = 0 := rfl
  have y4 : (4 : Int32).toInt = 4 := rfl
  unfold f_X6_firstStep_0 f_X6_firstStep_0_19 at e
  rw [if_neg (gi_nlt (by omega)), if_neg (gi_nle (by omega))] at e
  obtain ⟨-, e⟩ := ob_if e
  exact (Option.some.inj e).symm
theorem cp_stepsEnd_0 {h : HS} {i : Int32} {z : Int32 × HS} (e : f_X6_stepsEnd_0 h i = some z) (i0 : 0 ≤ i.toInt) (i1 : i.toInt < 4) : z = (eA h 9 4 i.toInt.toNat, h) := by
  have y0 : (0 : Int32).toInt = 0 := rfl
  have y4 : (4 : Int32).toInt = 4 := rfl
  unfold f_X6_stepsEnd_0 f_X6_stepsEnd_0_19 at e
  rw [if_neg (gi_nlt (by omega)), if_neg (gi_nle (by omega))] at e
  obtain ⟨-, e⟩ := ob_if e
  exact (Option.some.inj e).symm
theorem ev_loop_0 {st nc od vd nr : Nat → Int32} {d : Nat} {a : Int} {lw x4 : Int32} {b : Bool} {r : Int32 × HS} {w : Int64 × HS} (cd : CDR st od vd d a x4.toInt) (oe : (od (x4.toInt.toNat + d)).toInt = 408) (x300 : x4.toInt ≤ 300) (dd : d ≤ 1600) (na : NMA st nc nr a x4.toInt) (lb : lw.toInt = 3 → b = true) (a0 : 0 ≤ a) : ∀ (n : Nat) (h g : HS) (x5 x2 x3 : Int32) (m : Nat) (S : List Bool), f_X1_rule_46 n h lw x4 x5 = some r → f_X9_saysOf_4 m g x2 x3 = some w → eA h 9 2 = st → eA h 6 1 = nc → eA g 0 12 = od → eA g 0 13 = vd → eA g 0 39 = nr → a ≤ x5.toInt → x5.toInt ≤ x4.toInt → x4.toInt ≤ (eI h 9 5).toInt → x3.toInt = x5.toInt + (d : Int) → x2.toInt = (S.length : Int) → (eI h 6 3).toInt = (S.length : Int) → STK S (eA h 6 2) (eJ g 0 40) → ty st 22 (x4.toInt - x5.toInt).toNat x5.toInt.toNat S = some [b] → SAYS lw r w := by
  have z1 : (1 : Int32).toInt = 1 := rfl
  intro n
  induction n with
  | zero => intro h g x5 x2 x3 m S e; cases e
  | succ n ih =>
    intro h g x5 x2 x3 m S e e2 q1 q2 q3 q4 q5 i1 i2 i3 i4 i5 i6 sk tt
    rw [f_X1_rule_46_s] at e
    have x3n : x3.toInt.toNat = x5.toInt.toNat + d := by omega
    by_cases c : x4 ≤ x5
    · rw [if_pos c] at e
      have dc := gi_of_le c
      rw [show (x4.toInt - x5.toInt).toNat = 0 by omega] at tt
      have hS : S = [b] := Option.some.inj tt
      subst hS
      refine ev_end e e2 ?_ i6 sk lb
      rw [q3, x3n, show x5.toInt = x4.toInt by omega]
      exact gi_eq (oe.trans rfl)
    · rw [if_neg c] at e
      have dc := gi_of_nle c
      obtain ⟨r28, h28, e28, e⟩ := ob2_some e
      have z28 := cp_stepAt_0 e28 (by omega) (by omega) (by omega)
      have hr : r28 = eA h 9 2 x5.toInt.toNat := congrArg Prod.fst z28
      have hh : h = h28 := (congrArg Prod.snd z28).symm
      subst hh
      subst hr
      obtain ⟨h29, e29, e⟩ := ob1_some e
      rw [show (x4.toInt - x5.toInt).toNat = (x4.toInt - x5.toInt - 1).toNat + 1 by omega] at tt
      obtain ⟨S', t1, t2, t3⟩ := ty_cons tt
      rw [q1] at e29
      have cr := cd x5.toInt.toNat (by omega) (by omega)
      have nm := na x5.toInt.toNat (by omega) (by omega)
      obtain ⟨m', g1, x2', v1, v2, v3, v4, v5, v6⟩ := ev_turn e29 e2 (by rw [q3, q4, x3n]; exact cr) (by rw [q2, q5]; exact nm) t1 t2 i6 i5 sk
      have a1 := fb_addI (x := x5) (y := 1) (by omega) (by omega)
      have a2 := fb_addI (x := x3) (y := 1) (by omega) (by omega)
      refine ih h29 g1 (x5 + 1) x2' (x3 + 1) m' S' e v1 ((v5.2.1 9 2 (by decide)).trans q1) ((v5.2.1 6 1 (by decide)).trans q2) ((v6.2.1 0 12 (by decide)).trans q3) ((v6.2.1 0 13 (by decide)).trans q4) ((v6.2.1 0 39 (by decide)).trans q5) (by omega) (by omega) (by rw [v5.1 9 5 (by decide)]; exact i3) (by omega) v2 v3 v4 ?_
      rw [show (x4.toInt - (x5 + 1).toInt).toNat = (x4.toInt - x5.toInt - 1).toNat by omega, show (x5 + 1).toInt.toNat = x5.toInt.toNat + 1 by omega]
      exact t3
/-- a law that text 0 tells -/
theorem ev_rule_0 {h g g' : HS} {lw : Int32} {c : Nat} {r : Int32 × HS} {w : Int64 × HS} {r5 r6 : Int32} {h5 h6 : HS} (l0 : 0 ≤ lw.toInt) (l3 : lw.toInt ≤ 3) (tx : TXF 9 0 h g) (ty0 : TYL 9 h) (hc : (c : Int) < (eI h 9 1).toInt) (hw : (eA g 0 7 (24 * 0 + c)).toInt = lw.toInt) (nn : ¬ eA h 9 3 lw.toInt.toNat = -1) (e5 : f_X6_stepsEnd_0 (sI h 6 3 0) lw = some (r5, h5)) (e6 : f_X6_firstStep_0 h5 lw = some (r6, h6)) (e : f_X1_rule_46 8589934592 h6 lw r5 r6 = some r) (e2 : f_X9_saysOf g' (eA g 0 8 (24 * 0 + c)) = some w) (fg : Fr [(1, 0, 39), (3, 0, 40)] g g') (na : ∀ k : Nat, k < 9 → (2 ≤ lw.toInt → k < 6) → eA h 6 1 k = eA g' 0 39 k ∧ MB (eA h 6 1 k).toInt) : SAYS lw r w := by
  have y0 : (0 : Int32).toInt = 0 := rfl
  have z5 := cp_stepsEnd_0 e5 l0 (by omega)
  have r5e : r5 = eA h 9 4 lw.toInt.toNat := congrArg Prod.fst z5
  have h5e : h5 = sI h 6 3 0 := congrArg Prod.snd z5
  subst h5e
  have z6 := cp_firstStep_0 e6 l0 (by omega)
  have r6e : r6 = eA h 9 3 lw.toInt.toNat := congrArg Prod.fst z6
  have h6e : h6 = sI h 6 3 0 := congrArg Prod.snd z6
  subst h6e
  obtain ⟨x1, x2, x3, x4, x5⟩ := tx
  obtain ⟨-, -, -, y4, -⟩ := x4 c hc
  have lf := y4 (by omega)
  rw [hw] at lf
  obtain ⟨f1, f2, f3, f4, f5, f6⟩ := lf
  obtain ⟨t1, t2, t3, t4, t5⟩ := ty0 lw.toInt.toNat (by omega) nn
  rw [← r6e] at t1
  rw [← r5e, ← r6e] at t2 t4 t5
  rw [← r5e] at t3 f2 f3 f5 f6
  rw [← r6e] at f1 f2 f4 f5
  unfold f_X9_saysOf at e2
  refine ev_loop_0 (st := eA h 9 2) (nc := eA h 6 1) (od := eA g 0 12) (vd := eA g 0 13) (nr := eA g' 0 39) (d := 400 * 0 + c) (a := r6.toInt) (b := decide (lw.toInt.toNat = 3)) f5 f6 (by omega) (by omega) ?_ (fun q => decide_eq_true (by omega)) t1 _ (sI h 6 3 0) g' r6 0 (eA g 0 8 (24 * 0 + c)) _ [] e e2 rfl rfl (fg.2.1 0 12 (by decide)) (fg.2.1 0 13 (by decide)) rfl (Int.le_refl _) t2 t3 ?_ rfl rfl trivial t4
  · intro i j1 j2 j3 j4
    have cr := f5 i j1 j2
    have rg : (eA h 9 2 i).toInt ≤ 10008 := by
      rcases cr with q | q | q
      · omega
      · omega
      · have := q.1; omega
    refine na _ (by omega) (fun l2 => ?_)
    rcases t5 (by omega) i j1 j2 with q | q
    · omega
    · omega
  · rw [f4]
    omega
/-! text 1: a law of the class against the reference's -/
theorem cp_stepAt_1 {h : HS} {i : Int32} {z : Int32 × HS} (e : f_X6_stepAt_1 h i = some z) (i0 : 0 ≤ i.toInt) (i1 : i.toInt < (eI h 10 5).toInt) (i2 : i.toInt < 300) : z = (eA h 10 2 i.toInt.toNat, h) := by
  have y0 : (0 : Int32).toInt = 0 := rfl
  have y300 : (300 : Int32).toInt = 300 := rfl
  unfold f_X6_stepAt_1 f_X6_stepAt_1_31 at e
  rw [if_neg (gi_nlt (by omega)), if_neg (gi_nle (by omega)), if_neg (gi_nle (by omega))] at e
  obtain ⟨-, e⟩ := ob_if e
  exact (Option.some.inj e).symm
theorem cp_firstStep_1 {h : HS} {i : Int32} {z : Int32 × HS} (e : f_X6_firstStep_1 h i = some z) (i0 : 0 ≤ i.toInt) (i1 : i.toInt < 4) : z = (eA h 10 3 i.toInt.toNat, h) := by
  have y0 : (0 : Int32).toInt = 0 := rfl
  have y4 : (4 : Int32).toInt = 4 := rfl
  unfold f_X6_firstStep_1 f_X6_firstStep_1_19 at e
  rw [if_neg (gi_nlt (by omega)), if_neg (gi_nle (by omega))] at e
  obtain ⟨-, e⟩ := ob_if e
  exact (Option.some.inj e).symm
theorem cp_stepsEnd_1 {h : HS} {i : Int32} {z : Int32 × HS} (e : f_X6_stepsEnd_1 h i = some z) (i0 : 0 ≤ i.toInt) (i1 : i.toInt < 4) : z = (eA h 10 4 i.toInt.toNat, h) := by
  have y0 : (0 : Int32).toInt = 0 := rfl
  have y4 : (4 : Int32).toInt = 4 := rfl
  unfold f_X6_stepsEnd_1 f_X6_stepsEnd_1_19 at e
  rw [if_neg (gi_nlt (by omega)), if_neg (gi_nle (by omega))] at e
  obtain ⟨-, e⟩ := ob_if e
  exact (Option.some.inj e).symm
theorem ev_loop_1 {st nc od vd nr : Nat → Int32} {d : Nat} {a : Int} {lw x4 : Int32} {b : Bool} {r : Int32 × HS} {w : Int64 × HS} (cd : CDR st od vd d a x4.toInt) (oe : (od (x4.toInt.toNat + d)).toInt = 408) (x300 : x4.toInt ≤ 300) (dd : d ≤ 1600) (na : NMA st nc nr a x4.toInt) (lb : lw.toInt = 3 → b = true) (a0 : 0 ≤ a) : ∀ (n : Nat) (h g : HS) (x5 x2 x3 : Int32) (m : Nat) (S : List Bool), f_X1_rule_46b n h lw x4 x5 = some r → f_X9_saysOf_4 m g x2 x3 = some w → eA h 10 2 = st → eA h 6 1 = nc → eA g 0 12 = od → eA g 0 13 = vd → eA g 0 39 = nr → a ≤ x5.toInt → x5.toInt ≤ x4.toInt → x4.toInt ≤ (eI h 10 5).toInt → x3.toInt = x5.toInt + (d : Int) → x2.toInt = (S.length : Int) → (eI h 6 3).toInt = (S.length : Int) → STK S (eA h 6 2) (eJ g 0 40) → ty st 22 (x4.toInt - x5.toInt).toNat x5.toInt.toNat S = some [b] → SAYS lw r w := by
  have z1 : (1 : Int32).toInt = 1 := rfl
  intro n
  induction n with
  | zero => intro h g x5 x2 x3 m S e; cases e
  | succ n ih =>
    intro h g x5 x2 x3 m S e e2 q1 q2 q3 q4 q5 i1 i2 i3 i4 i5 i6 sk tt
    rw [f_X1_rule_46b_s] at e
    have x3n : x3.toInt.toNat = x5.toInt.toNat + d := by omega
    by_cases c : x4 ≤ x5
    · rw [if_pos c] at e
      have dc := gi_of_le c
      rw [show (x4.toInt - x5.toInt).toNat = 0 by omega] at tt
      have hS : S = [b] := Option.some.inj tt
      subst hS
      refine ev_end e e2 ?_ i6 sk lb
      rw [q3, x3n, show x5.toInt = x4.toInt by omega]
      exact gi_eq (oe.trans rfl)
    · rw [if_neg c] at e
      have dc := gi_of_nle c
      obtain ⟨r28, h28, e28, e⟩ := ob2_some e
      have z28 := cp_stepAt_1 e28 (by omega) (by omega) (by omega)
      have hr : r28 = eA h 10 2 x5.toInt.toNat := congrArg Prod.fst z28
      have hh : h = h28 := (congrArg Prod.snd z28).symm
      subst hh
      subst hr
      obtain ⟨h29, e29, e⟩ := ob1_some e
      rw [show (x4.toInt - x5.toInt).toNat = (x4.toInt - x5.toInt - 1).toNat + 1 by omega] at tt
      obtain ⟨S', t1, t2, t3⟩ := ty_cons tt
      rw [q1] at e29
      have cr := cd x5.toInt.toNat (by omega) (by omega)
      have nm := na x5.toInt.toNat (by omega) (by omega)
      obtain ⟨m', g1, x2', v1, v2, v3, v4, v5, v6⟩ := ev_turn e29 e2 (by rw [q3, q4, x3n]; exact cr) (by rw [q2, q5]; exact nm) t1 t2 i6 i5 sk
      have a1 := fb_addI (x := x5) (y := 1) (by omega) (by omega)
      have a2 := fb_addI (x := x3) (y := 1) (by omega) (by omega)
      refine ih h29 g1 (x5 + 1) x2' (x3 + 1) m' S' e v1 ((v5.2.1 10 2 (by decide)).trans q1) ((v5.2.1 6 1 (by decide)).trans q2) ((v6.2.1 0 12 (by decide)).trans q3) ((v6.2.1 0 13 (by decide)).trans q4) ((v6.2.1 0 39 (by decide)).trans q5) (by omega) (by omega) (by rw [v5.1 10 5 (by decide)]; exact i3) (by omega) v2 v3 v4 ?_
      rw [show (x4.toInt - (x5 + 1).toInt).toNat = (x4.toInt - x5.toInt - 1).toNat by omega, show (x5 + 1).toInt.toNat = x5.toInt.toNat + 1 by omega]
      exact t3
/-- a law that text 1 tells -/
theorem ev_rule_1 {h g g' : HS} {lw : Int32} {c : Nat} {r : Int32 × HS} {w : Int64 × HS} {r5 r6 : Int32} {h5 h6 : HS} (l0 : 0 ≤ lw.toInt) (l3 : lw.toInt ≤ 3) (tx : TXF 10 1 h g) (ty0 : TYL 10 h) (hc : (c : Int) < (eI h 10 1).toInt) (hw : (eA g 0 7 (24 * 1 + c)).toInt = lw.toInt) (nn : ¬ eA h 10 3 lw.toInt.toNat = -1) (e5 : f_X6_stepsEnd_1 (sI h 6 3 0) lw = some (r5, h5)) (e6 : f_X6_firstStep_1 h5 lw = some (r6, h6)) (e : f_X1_rule_46b 8589934592 h6 lw r5 r6 = some r) (e2 : f_X9_saysOf g' (eA g 0 8 (24 * 1 + c)) = some w) (fg : Fr [(1, 0, 39), (3, 0, 40)] g g') (na : ∀ k : Nat, k < 9 → (2 ≤ lw.toInt → k < 6) → eA h 6 1 k = eA g' 0 39 k ∧ MB (eA h 6 1 k).toInt) : SAYS lw r w := by
  have y0 : (0 : Int32).toInt = 0 := rfl
  have z5 := cp_stepsEnd_1 e5 l0 (by omega)
  have r5e : r5 = eA h 10 4 lw.toInt.toNat := congrArg Prod.fst z5
  have h5e : h5 = sI h 6 3 0 := congrArg Prod.snd z5
  subst h5e
  have z6 := cp_firstStep_1 e6 l0 (by omega)
  have r6e : r6 = eA h 10 3 lw.toInt.toNat := congrArg Prod.fst z6
  have h6e : h6 = sI h 6 3 0 := congrArg Prod.snd z6
  subst h6e
  obtain ⟨x1, x2, x3, x4, x5⟩ := tx
  obtain ⟨-, -, -, y4, -⟩ := x4 c hc
  have lf := y4 (by omega)
  rw [hw] at lf
  obtain ⟨f1, f2, f3, f4, f5, f6⟩ := lf
  obtain ⟨t1, t2, t3, t4, t5⟩ := ty0 lw.toInt.toNat (by omega) nn
  rw [← r6e] at t1
  rw [← r5e, ← r6e] at t2 t4 t5
  rw [← r5e] at t3 f2 f3 f5 f6
  rw [← r6e] at f1 f2 f4 f5
  unfold f_X9_saysOf at e2
  refine ev_loop_1 (st := eA h 10 2) (nc := eA h 6 1) (od := eA g 0 12) (vd := eA g 0 13) (nr := eA g' 0 39) (d := 400 * 1 + c) (a := r6.toInt) (b := decide (lw.toInt.toNat = 3)) f5 f6 (by omega) (by omega) ?_ (fun q => decide_eq_true (by omega)) t1 _ (sI h 6 3 0) g' r6 0 (eA g 0 8 (24 * 1 + c)) _ [] e e2 rfl rfl (fg.2.1 0 12 (by decide)) (fg.2.1 0 13 (by decide)) rfl (Int.le_refl _) t2 t3 ?_ rfl rfl trivial t4
  · intro i j1 j2 j3 j4
    have cr := f5 i j1 j2
    have rg : (eA h 10 2 i).toInt ≤ 10008 := by
      rcases cr with q | q | q
      · omega
      · omega
      · have := q.1; omega
    refine na _ (by omega) (fun l2 => ?_)
    rcases t5 (by omega) i j1 j2 with q | q
    · omega
    · omega
  · rw [f4]
    omega
/-! text 2: a law of the class against the reference's -/
theorem cp_stepAt_2 {h : HS} {i : Int32} {z : Int32 × HS} (e : f_X6_stepAt_2 h i = some z) (i0 : 0 ≤ i.toInt) (i1 : i.toInt < (eI h 11 5).toInt) (i2 : i.toInt < 300) : z = (eA h 11 2 i.toInt.toNat, h) := by
  have y0 : (0 : Int32).toInt = 0 := rfl
  have y300 : (300 : Int32).toInt = 300 := rfl
  unfold f_X6_stepAt_2 f_X6_stepAt_2_31 at e
  rw [if_neg (gi_nlt (by omega)), if_neg (gi_nle (by omega)), if_neg (gi_nle (by omega))] at e
  obtain ⟨-, e⟩ := ob_if e
  exact (Option.some.inj e).symm
theorem cp_firstStep_2 {h : HS} {i : Int32} {z : Int32 × HS} (e : f_X6_firstStep_2 h i = some z) (i0 : 0 ≤ i.toInt) (i1 : i.toInt < 4) : z = (eA h 11 3 i.toInt.toNat, h) := by
  have y0 : (0 : Int32).toInt = 0 := rfl
  have y4 : (4 : Int32).toInt = 4 := rfl
  unfold f_X6_firstStep_2 f_X6_firstStep_2_19 at e
  rw [if_neg (gi_nlt (by omega)), if_neg (gi_nle (by omega))] at e
  obtain ⟨-, e⟩ := ob_if e
  exact (Option.some.inj e).symm
theorem cp_stepsEnd_2 {h : HS} {i : Int32} {z : Int32 × HS} (e : f_X6_stepsEnd_2 h i = some z) (i0 : 0 ≤ i.toInt) (i1 : i.toInt < 4) : z = (eA h 11 4 i.toInt.toNat, h) := by
  have y0 : (0 : Int32).toInt = 0 := rfl
  have y4 : (4 : Int32).toInt = 4 := rfl
  unfold f_X6_stepsEnd_2 f_X6_stepsEnd_2_19 at e
  rw [if_neg (gi_nlt (by omega)), if_neg (gi_nle (by omega))] at e
  obtain ⟨-, e⟩ := ob_if e
  exact (Option.some.inj e).symm
theorem ev_loop_2 {st nc od vd nr : Nat → Int32} {d : Nat} {a : Int} {lw x4 : Int32} {b : Bool} {r : Int32 × HS} {w : Int64 × HS} (cd : CDR st od vd d a x4.toInt) (oe : (od (x4.toInt.toNat + d)).toInt = 408) (x300 : x4.toInt ≤ 300) (dd : d ≤ 1600) (na : NMA st nc nr a x4.toInt) (lb : lw.toInt = 3 → b = true) (a0 : 0 ≤ a) : ∀ (n : Nat) (h g : HS) (x5 x2 x3 : Int32) (m : Nat) (S : List Bool), f_X1_rule_46c n h lw x4 x5 = some r → f_X9_saysOf_4 m g x2 x3 = some w → eA h 11 2 = st → eA h 6 1 = nc → eA g 0 12 = od → eA g 0 13 = vd → eA g 0 39 = nr → a ≤ x5.toInt → x5.toInt ≤ x4.toInt → x4.toInt ≤ (eI h 11 5).toInt → x3.toInt = x5.toInt + (d : Int) → x2.toInt = (S.length : Int) → (eI h 6 3).toInt = (S.length : Int) → STK S (eA h 6 2) (eJ g 0 40) → ty st 22 (x4.toInt - x5.toInt).toNat x5.toInt.toNat S = some [b] → SAYS lw r w := by
  have z1 : (1 : Int32).toInt = 1 := rfl
  intro n
  induction n with
  | zero => intro h g x5 x2 x3 m S e; cases e
  | succ n ih =>
    intro h g x5 x2 x3 m S e e2 q1 q2 q3 q4 q5 i1 i2 i3 i4 i5 i6 sk tt
    rw [f_X1_rule_46c_s] at e
    have x3n : x3.toInt.toNat = x5.toInt.toNat + d := by omega
    by_cases c : x4 ≤ x5
    · rw [if_pos c] at e
      have dc := gi_of_le c
      rw [show (x4.toInt - x5.toInt).toNat = 0 by omega] at tt
      have hS : S = [b] := Option.some.inj tt
      subst hS
      refine ev_end e e2 ?_ i6 sk lb
      rw [q3, x3n, show x5.toInt = x4.toInt by omega]
      exact gi_eq (oe.trans rfl)
    · rw [if_neg c] at e
      have dc := gi_of_nle c
      obtain ⟨r28, h28, e28, e⟩ := ob2_some e
      have z28 := cp_stepAt_2 e28 (by omega) (by omega) (by omega)
      have hr : r28 = eA h 11 2 x5.toInt.toNat := congrArg Prod.fst z28
      have hh : h = h28 := (congrArg Prod.snd z28).symm
      subst hh
      subst hr
      obtain ⟨h29, e29, e⟩ := ob1_some e
      rw [show (x4.toInt - x5.toInt).toNat = (x4.toInt - x5.toInt - 1).toNat + 1 by omega] at tt
      obtain ⟨S', t1, t2, t3⟩ := ty_cons tt
      rw [q1] at e29
      have cr := cd x5.toInt.toNat (by omega) (by omega)
      have nm := na x5.toInt.toNat (by omega) (by omega)
      obtain ⟨m', g1, x2', v1, v2, v3, v4, v5, v6⟩ := ev_turn e29 e2 (by rw [q3, q4, x3n]; exact cr) (by rw [q2, q5]; exact nm) t1 t2 i6 i5 sk
      have a1 := fb_addI (x := x5) (y := 1) (by omega) (by omega)
      have a2 := fb_addI (x := x3) (y := 1) (by omega) (by omega)
      refine ih h29 g1 (x5 + 1) x2' (x3 + 1) m' S' e v1 ((v5.2.1 11 2 (by decide)).trans q1) ((v5.2.1 6 1 (by decide)).trans q2) ((v6.2.1 0 12 (by decide)).trans q3) ((v6.2.1 0 13 (by decide)).trans q4) ((v6.2.1 0 39 (by decide)).trans q5) (by omega) (by omega) (by rw [v5.1 11 5 (by decide)]; exact i3) (by omega) v2 v3 v4 ?_
      rw [show (x4.toInt - (x5 + 1).toInt).toNat = (x4.toInt - x5.toInt - 1).toNat by omega, show (x5 + 1).toInt.toNat = x5.toInt.toNat + 1 by omega]
      exact t3
/-- a law that text 2 tells -/
theorem ev_rule_2 {h g g' : HS} {lw : Int32} {c : Nat} {r : Int32 × HS} {w : Int64 × HS} {r5 r6 : Int32} {h5 h6 : HS} (l0 : 0 ≤ lw.toInt) (l3 : lw.toInt ≤ 3) (tx : TXF 11 2 h g) (ty0 : TYL 11 h) (hc : (c : Int) < (eI h 11 1).toInt) (hw : (eA g 0 7 (24 * 2 + c)).toInt = lw.toInt) (nn : ¬ eA h 11 3 lw.toInt.toNat = -1) (e5 : f_X6_stepsEnd_2 (sI h 6 3 0) lw = some (r5, h5)) (e6 : f_X6_firstStep_2 h5 lw = some (r6, h6)) (e : f_X1_rule_46c 8589934592 h6 lw r5 r6 = some r) (e2 : f_X9_saysOf g' (eA g 0 8 (24 * 2 + c)) = some w) (fg : Fr [(1, 0, 39), (3, 0, 40)] g g') (na : ∀ k : Nat, k < 9 → (2 ≤ lw.toInt → k < 6) → eA h 6 1 k = eA g' 0 39 k ∧ MB (eA h 6 1 k).toInt) : SAYS lw r w := by
  have y0 : (0 : Int32).toInt = 0 := rfl
  have z5 := cp_stepsEnd_2 e5 l0 (by omega)
  have r5e : r5 = eA h 11 4 lw.toInt.toNat := congrArg Prod.fst z5
  have h5e : h5 = sI h 6 3 0 := congrArg Prod.snd z5
  subst h5e
  have z6 := cp_firstStep_2 e6 l0 (by omega)
  have r6e : r6 = eA h 11 3 lw.toInt.toNat := congrArg Prod.fst z6
  have h6e : h6 = sI h 6 3 0 := congrArg Prod.snd z6
  subst h6e
  obtain ⟨x1, x2, x3, x4, x5⟩ := tx
  obtain ⟨-, -, -, y4, -⟩ := x4 c hc
  have lf := y4 (by omega)
  rw [hw] at lf
  obtain ⟨f1, f2, f3, f4, f5, f6⟩ := lf
  obtain ⟨t1, t2, t3, t4, t5⟩ := ty0 lw.toInt.toNat (by omega) nn
  rw [← r6e] at t1
  rw [← r5e, ← r6e] at t2 t4 t5
  rw [← r5e] at t3 f2 f3 f5 f6
  rw [← r6e] at f1 f2 f4 f5
  unfold f_X9_saysOf at e2
  refine ev_loop_2 (st := eA h 11 2) (nc := eA h 6 1) (od := eA g 0 12) (vd := eA g 0 13) (nr := eA g' 0 39) (d := 400 * 2 + c) (a := r6.toInt) (b := decide (lw.toInt.toNat = 3)) f5 f6 (by omega) (by omega) ?_ (fun q => decide_eq_true (by omega)) t1 _ (sI h 6 3 0) g' r6 0 (eA g 0 8 (24 * 2 + c)) _ [] e e2 rfl rfl (fg.2.1 0 12 (by decide)) (fg.2.1 0 13 (by decide)) rfl (Int.le_refl _) t2 t3 ?_ rfl rfl trivial t4
  · intro i j1 j2 j3 j4
    have cr := f5 i j1 j2
    have rg : (eA h 11 2 i).toInt ≤ 10008 := by
      rcases cr with q | q | q
      · omega
      · omega
      · have := q.1; omega
    refine na _ (by omega) (fun l2 => ?_)
    rcases t5 (by omega) i j1 j2 with q | q
    · omega
    · omega
  · rw [f4]
    omega
/-! text 3: a law of the class against the reference's -/
theorem cp_stepAt_3 {h : HS} {i : Int32} {z : Int32 × HS} (e : f_X6_stepAt_3 h i = some z) (i0 : 0 ≤ i.toInt) (i1 : i.toInt < (eI h 12 5).toInt) (i2 : i.toInt < 300) : z = (eA h 12 2 i.toInt.toNat, h) := by
  have y0 : (0 : Int32).toInt = 0 := rfl
  have y300 : (300 : Int32).toInt = 300 := rfl
  unfold f_X6_stepAt_3 f_X6_stepAt_3_31 at e
  rw [if_neg (gi_nlt (by omega)), if_neg (gi_nle (by omega)), if_neg (gi_nle (by omega))] at e
  obtain ⟨-, e⟩ := ob_if e
  exact (Option.some.inj e).symm
theorem cp_firstStep_3 {h : HS} {i : Int32} {z : Int32 × HS} (e : f_X6_firstStep_3 h i = some z) (i0 : 0 ≤ i.toInt) (i1 : i.toInt < 4) : z = (eA h 12 3 i.toInt.toNat, h) := by
  have y0 : (0 : Int32).toInt = 0 := rfl
  have y4 : (4 : Int32).toInt = 4 := rfl
  unfold f_X6_firstStep_3 f_X6_firstStep_3_19 at e
  rw [if_neg (gi_nlt (by omega)), if_neg (gi_nle (by omega))] at e
  obtain ⟨-, e⟩ := ob_if e
  exact (Option.some.inj e).symm
theorem cp_stepsEnd_3 {h : HS} {i : Int32} {z : Int32 × HS} (e : f_X6_stepsEnd_3 h i = some z) (i0 : 0 ≤ i.toInt) (i1 : i.toInt < 4) : z = (eA h 12 4 i.toInt.toNat, h) := by
  have y0 : (0 : Int32).toInt = 0 := rfl
  have y4 : (4 : Int32).toInt = 4 := rfl
  unfold f_X6_stepsEnd_3 f_X6_stepsEnd_3_19 at e
  rw [if_neg (gi_nlt (by omega)), if_neg (gi_nle (by omega))] at e
  obtain ⟨-, e⟩ := ob_if e
  exact (Option.some.inj e).symm
theorem ev_loop_3 {st nc od vd nr : Nat → Int32} {d : Nat} {a : Int} {lw x4 : Int32} {b : Bool} {r : Int32 × HS} {w : Int64 × HS} (cd : CDR st od vd d a x4.toInt) (oe : (od (x4.toInt.toNat + d)).toInt = 408) (x300 : x4.toInt ≤ 300) (dd : d ≤ 1600) (na : NMA st nc nr a x4.toInt) (lb : lw.toInt = 3 → b = true) (a0 : 0 ≤ a) : ∀ (n : Nat) (h g : HS) (x5 x2 x3 : Int32) (m : Nat) (S : List Bool), f_X1_rule_46d n h lw x4 x5 = some r → f_X9_saysOf_4 m g x2 x3 = some w → eA h 12 2 = st → eA h 6 1 = nc → eA g 0 12 = od → eA g 0 13 = vd → eA g 0 39 = nr → a ≤ x5.toInt → x5.toInt ≤ x4.toInt → x4.toInt ≤ (eI h 12 5).toInt → x3.toInt = x5.toInt + (d : Int) → x2.toInt = (S.length : Int) → (eI h 6 3).toInt = (S.length : Int) → STK S (eA h 6 2) (eJ g 0 40) → ty st 22 (x4.toInt - x5.toInt).toNat x5.toInt.toNat S = some [b] → SAYS lw r w := by
  have z1 : (1 : Int32).toInt = 1 := rfl
  intro n
  induction n with
  | zero => intro h g x5 x2 x3 m S e; cases e
  | succ n ih =>
    intro h g x5 x2 x3 m S e e2 q1 q2 q3 q4 q5 i1 i2 i3 i4 i5 i6 sk tt
    rw [f_X1_rule_46d_s] at e
    have x3n : x3.toInt.toNat = x5.toInt.toNat + d := by omega
    by_cases c : x4 ≤ x5
    · rw [if_pos c] at e
      have dc := gi_of_le c
      rw [show (x4.toInt - x5.toInt).toNat = 0 by omega] at tt
      have hS : S = [b] := Option.some.inj tt
      subst hS
      refine ev_end e e2 ?_ i6 sk lb
      rw [q3, x3n, show x5.toInt = x4.toInt by omega]
      exact gi_eq (oe.trans rfl)
    · rw [if_neg c] at e
      have dc := gi_of_nle c
      obtain ⟨r28, h28, e28, e⟩ := ob2_some e
      have z28 := cp_stepAt_3 e28 (by omega) (by omega) (by omega)
      have hr : r28 = eA h 12 2 x5.toInt.toNat := congrArg Prod.fst z28
      have hh : h = h28 := (congrArg Prod.snd z28).symm
      subst hh
      subst hr
      obtain ⟨h29, e29, e⟩ := ob1_some e
      rw [show (x4.toInt - x5.toInt).toNat = (x4.toInt - x5.toInt - 1).toNat + 1 by omega] at tt
      obtain ⟨S', t1, t2, t3⟩ := ty_cons tt
      rw [q1] at e29
      have cr := cd x5.toInt.toNat (by omega) (by omega)
      have nm := na x5.toInt.toNat (by omega) (by omega)
      obtain ⟨m', g1, x2', v1, v2, v3, v4, v5, v6⟩ := ev_turn e29 e2 (by rw [q3, q4, x3n]; exact cr) (by rw [q2, q5]; exact nm) t1 t2 i6 i5 sk
      have a1 := fb_addI (x := x5) (y := 1) (by omega) (by omega)
      have a2 := fb_addI (x := x3) (y := 1) (by omega) (by omega)
      refine ih h29 g1 (x5 + 1) x2' (x3 + 1) m' S' e v1 ((v5.2.1 12 2 (by decide)).trans q1) ((v5.2.1 6 1 (by decide)).trans q2) ((v6.2.1 0 12 (by decide)).trans q3) ((v6.2.1 0 13 (by decide)).trans q4) ((v6.2.1 0 39 (by decide)).trans q5) (by omega) (by omega) (by rw [v5.1 12 5 (by decide)]; exact i3) (by omega) v2 v3 v4 ?_
      rw [show (x4.toInt - (x5 + 1).toInt).toNat = (x4.toInt - x5.toInt - 1).toNat by omega, show (x5 + 1).toInt.toNat = x5.toInt.toNat + 1 by omega]
      exact t3
/-- a law that text 3 tells -/
theorem ev_rule_3 {h g g' : HS} {lw : Int32} {c : Nat} {r : Int32 × HS} {w : Int64 × HS} {r5 r6 : Int32} {h5 h6 : HS} (l0 : 0 ≤ lw.toInt) (l3 : lw.toInt ≤ 3) (tx : TXF 12 3 h g) (ty0 : TYL 12 h) (hc : (c : Int) < (eI h 12 1).toInt) (hw : (eA g 0 7 (24 * 3 + c)).toInt = lw.toInt) (nn : ¬ eA h 12 3 lw.toInt.toNat = -1) (e5 : f_X6_stepsEnd_3 (sI h 6 3 0) lw = some (r5, h5)) (e6 : f_X6_firstStep_3 h5 lw = some (r6, h6)) (e : f_X1_rule_46d 8589934592 h6 lw r5 r6 = some r) (e2 : f_X9_saysOf g' (eA g 0 8 (24 * 3 + c)) = some w) (fg : Fr [(1, 0, 39), (3, 0, 40)] g g') (na : ∀ k : Nat, k < 9 → (2 ≤ lw.toInt → k < 6) → eA h 6 1 k = eA g' 0 39 k ∧ MB (eA h 6 1 k).toInt) : SAYS lw r w := by
  have y0 : (0 : Int32).toInt = 0 := rfl
  have z5 := cp_stepsEnd_3 e5 l0 (by omega)
  have r5e : r5 = eA h 12 4 lw.toInt.toNat := congrArg Prod.fst z5
  have h5e : h5 = sI h 6 3 0 := congrArg Prod.snd z5
  subst h5e
  have z6 := cp_firstStep_3 e6 l0 (by omega)
  have r6e : r6 = eA h 12 3 lw.toInt.toNat := congrArg Prod.fst z6
  have h6e : h6 = sI h 6 3 0 := congrArg Prod.snd z6
  subst h6e
  obtain ⟨x1, x2, x3, x4, x5⟩ := tx
  obtain ⟨-, -, -, y4, -⟩ := x4 c hc
  have lf := y4 (by omega)
  rw [hw] at lf
  obtain ⟨f1, f2, f3, f4, f5, f6⟩ := lf
  obtain ⟨t1, t2, t3, t4, t5⟩ := ty0 lw.toInt.toNat (by omega) nn
  rw [← r6e] at t1
  rw [← r5e, ← r6e] at t2 t4 t5
  rw [← r5e] at t3 f2 f3 f5 f6
  rw [← r6e] at f1 f2 f4 f5
  unfold f_X9_saysOf at e2
  refine ev_loop_3 (st := eA h 12 2) (nc := eA h 6 1) (od := eA g 0 12) (vd := eA g 0 13) (nr := eA g' 0 39) (d := 400 * 3 + c) (a := r6.toInt) (b := decide (lw.toInt.toNat = 3)) f5 f6 (by omega) (by omega) ?_ (fun q => decide_eq_true (by omega)) t1 _ (sI h 6 3 0) g' r6 0 (eA g 0 8 (24 * 3 + c)) _ [] e e2 rfl rfl (fg.2.1 0 12 (by decide)) (fg.2.1 0 13 (by decide)) rfl (Int.le_refl _) t2 t3 ?_ rfl rfl trivial t4
  · intro i j1 j2 j3 j4
    have cr := f5 i j1 j2
    have rg : (eA h 12 2 i).toInt ≤ 10008 := by
      rcases cr with q | q | q
      · omega
      · omega
      · have := q.1; omega
    refine na _ (by omega) (fun l2 => ?_)
    rcases t5 (by omega) i j1 j2 with q | q
    · omega
    · omega
  · rw [f4]
    omega
/-! which orders a law has -/
theorem mp_orders {g : HS} {x1 : Int32} {t : Nat} (ht : (eA g 0 0 4).toInt = (t : Int)) (t4 : t < 4) (cn : (eA g 0 6 t).toInt ≤ 24) : ∀ (n : Nat) (x2 x3 : Int32) (q : Int32 × HS), f_X9_ordersOf_4 n g x1 x2 x3 = some q → 0 ≤ x3.toInt → q.2 = g ∧ ((q.1 = x2 ∧ ∀ c : Nat, x3.toInt ≤ (c : Int) → (c : Int) < (eA g 0 6 t).toInt → ¬ eA g 0 7 (24 * t + c) = x1) ∨ ∃ c : Nat, (c : Int) < (eA g 0 6 t).toInt ∧ eA g 0 7 (24 * t + c) = x1 ∧ q.1 = eA g 0 8 (24 * t + c)) := by
  have z1 : (1 : Int32).toInt = 1 := rfl
  have z24 : (24 : Int32).toInt = 24 := rfl
  have zm : (-1 : Int32).toInt = -1 := rfl
  intro n
  induction n with
  | zero => intro x2 x3 q e; cases e
  | succ n ih =>
    intro x2 x3 q e h0
    rw [f_X9_ordersOf_4_s] at e
    unfold f_X9_ordersOf_71 f_X9_ordersOf_64 at e
    rw [if_neg (gi_ne (by omega))] at e
    obtain ⟨-, e⟩ := ob_if e
    have i4 : (eA g 0 0 4).toNatClampNeg = t := by
      show (eA g 0 0 4).toInt.toNat = t
      omega
    rw [i4] at e
    by_cases c : eA g 0 6 t ≤ x3
    · rw [if_pos c] at e
      have d := gi_of_le c
      cases e
      exact ⟨rfl, Or.inl ⟨rfl, fun c q1 q2 => by omega⟩⟩
    · rw [if_neg c] at e
      have d := gi_of_nle c
      have a1 := fb_mulJ (x := 24) (y := eA g 0 0 4) (k := 24) rfl (by omega) (by omega)
      have a2 := fb_addI (x := 24 * eA g 0 0 4) (y := x3) (by omega) (by omega)
      have a3 := fb_addI (x := x3) (y := 1) (by omega) (by omega)
      have ix : (24 * eA g 0 0 4 + x3).toNatClampNeg = 24 * t + x3.toInt.toNat := by
        show (24 * eA g 0 0 4 + x3).toInt.toNat = _
        omega
      obtain ⟨-, e⟩ := ob_if e
      rw [ix] at e
      by_cases cw : eA g 0 7 (24 * t + x3.toInt.toNat) = x1
      · rw [if_pos cw] at e
        obtain ⟨-, e⟩ := ob_if e
        obtain ⟨k1, k2⟩ := ih _ (x3 + 1) q e (by omega)
        refine ⟨k1, Or.inr ?_⟩
        rcases k2 with ⟨k2, -⟩ | k2
        · exact ⟨x3.toInt.toNat, by omega, cw, k2⟩
        · exact k2
      · rw [if_neg cw] at e
        obtain ⟨k1, k2⟩ := ih _ (x3 + 1) q e (by omega)
        refine ⟨k1, ?_⟩
        rcases k2 with ⟨k2, k3⟩ | k2
        · refine Or.inl ⟨k2, fun c q1 q2 => ?_⟩
          by_cases cc : (c : Int) = x3.toInt
          · rw [show c = x3.toInt.toNat by omega]; exact cw
          · exact k3 c (by omega) q2
        · exact Or.inr k2
theorem mp_orders_no {g : HS} {x1 : Int32} {q : Int32 × HS} (e : f_X9_ordersOf g x1 = some q) (h : eA g 0 0 4 = -1) : q = (-1, g) := by
  unfold f_X9_ordersOf at e
  rw [show (8589934592 : Nat) = 8589934591 + 1 from rfl, f_X9_ordersOf_4_s] at e
  unfold f_X9_ordersOf_71 at e
  rw [if_pos h] at e
  exact (Option.some.inj e).symm
/-- the texts that stand: what both keep of them -/
def TXS (h g : HS) (n : Int) : Prop := (0 < n → TXF 9 0 h g ∧ TYL 9 h) ∧ (1 < n → TXF 10 1 h g ∧ TYL 10 h) ∧ (2 < n → TXF 11 2 h g ∧ TYL 11 h) ∧ (3 < n → TXF 12 3 h g ∧ TYL 12 h)
theorem TXF_fr {o t : Nat} {S T : CL} {h h' g g' : HS} (x : TXF o t h g) (f : Fr S h h') (k : Fr T g g') (n : ∀ y ∈ [(0, o, 1), (0, o, 5), (1, o, 0), (1, o, 2), (1, o, 3), (1, o, 4)], y ∉ S) (m : ∀ y ∈ [(1, 0, 6), (1, 0, 7), (1, 0, 8), (1, 0, 9), (1, 0, 10), (1, 0, 11), (1, 0, 12), (1, 0, 13)], y ∉ T) : TXF o t h' g' := by
  unfold TXF CLF LWF at *
  rw [f.1 o 1 (n _ (by simp)), f.1 o 5 (n _ (by simp)), f.2.1 o 0 (n _ (by simp)), f.2.1 o 2 (n _ (by simp)), f.2.1 o 3 (n _ (by simp)), f.2.1 o 4 (n _ (by simp)), k.2.1 0 6 (m _ (by decide)), k.2.1 0 7 (m _ (by decide)), k.2.1 0 8 (m _ (by decide)), k.2.1 0 9 (m _ (by decide)), k.2.1 0 10 (m _ (by decide)), k.2.1 0 11 (m _ (by decide)), k.2.1 0 12 (m _ (by decide)), k.2.1 0 13 (m _ (by decide))]
  exact x
theorem TYL_fr {o : Nat} {S : CL} {h h' : HS} (x : TYL o h) (f : Fr S h h') (n : ∀ y ∈ [(0, o, 5), (1, o, 2), (1, o, 3), (1, o, 4)], y ∉ S) : TYL o h' := by
  unfold TYL at *
  rw [f.2.1 o 2 (n _ (by simp)), f.2.1 o 3 (n _ (by simp)), f.2.1 o 4 (n _ (by simp)), f.1 o 5 (n _ (by simp))]
  exact x
abbrev KTC : CL := [(0, 9, 1), (0, 9, 5), (1, 9, 0), (1, 9, 2), (1, 9, 3), (1, 9, 4), (0, 10, 1), (0, 10, 5), (1, 10, 0), (1, 10, 2), (1, 10, 3), (1, 10, 4), (0, 11, 1), (0, 11, 5), (1, 11, 0), (1, 11, 2), (1, 11, 3), (1, 11, 4), (0, 12, 1), (0, 12, 5), (1, 12, 0), (1, 12, 2), (1, 12, 3), (1, 12, 4)]
abbrev KTM : CL := [(1, 0, 6), (1, 0, 7), (1, 0, 8), (1, 0, 9), (1, 0, 10), (1, 0, 11), (1, 0, 12), (1, 0, 13)]
theorem TXS_fr {S T : CL} {h h' g g' : HS} {n : Int} (x : TXS h g n) (f : Fr S h h') (k : Fr T g g') (hS : ∀ y ∈ KTC, y ∉ S) (hT : ∀ y ∈ KTM, y ∉ T) : TXS h' g' n := by
  refine ⟨fun q => ⟨TXF_fr (x.1 q).1 f k (fun y hy => hS y ?_) hT, TYL_fr (x.1 q).2 f (fun y hy => hS y ?_)⟩, fun q => ⟨TXF_fr (x.2.1 q).1 f k (fun y hy => hS y ?_) hT, TYL_fr (x.2.1 q).2 f (fun y hy => hS y ?_)⟩, fun q => ⟨TXF_fr (x.2.2.1 q).1 f k (fun y hy => hS y ?_) hT, TYL_fr (x.2.2.1 q).2 f (fun y hy => hS y ?_)⟩, fun q => ⟨TXF_fr (x.2.2.2 q).1 f k (fun y hy => hS y ?_) hT, TYL_fr (x.2.2.2 q).2 f (fun y hy => hS y ?_)⟩⟩
  · exact (show ∀ y ∈ [(0, 9, 1), (0, 9, 5), (1, 9, 0), (1, 9, 2), (1, 9, 3), (1, 9, 4)], y ∈ KTC by decide) y hy
  · exact (show ∀ y ∈ [(0, 9, 5), (1, 9, 2), (1, 9, 3), (1, 9, 4)], y ∈ KTC by decide) y hy
  · exact (show ∀ y ∈ [(0, 10, 1), (0, 10, 5), (1, 10, 0), (1, 10, 2), (1, 10, 3), (1, 10, 4)], y ∈ KTC by decide) y hy
  · exact (show ∀ y ∈ [(0, 10, 5), (1, 10, 2), (1, 10, 3), (1, 10, 4)], y ∈ KTC by decide) y hy
  · exact (show ∀ y ∈ [(0, 11, 1), (0, 11, 5), (1, 11, 0), (1, 11, 2), (1, 11, 3), (1, 11, 4)], y ∈ KTC by decide) y hy
  · exact (show ∀ y ∈ [(0, 11, 5), (1, 11, 2), (1, 11, 3), (1, 11, 4)], y ∈ KTC by decide) y hy
  · exact (show ∀ y ∈ [(0, 12, 1), (0, 12, 5), (1, 12, 0), (1, 12, 2), (1, 12, 3), (1, 12, 4)], y ∈ KTC by decide) y hy
  · exact (show ∀ y ∈ [(0, 12, 5), (1, 12, 2), (1, 12, 3), (1, 12, 4)], y ∈ KTC by decide) y hy
/-- the class without a law -/
theorem rule_without {h : HS} {lw : Int32} {r : Int32 × HS} (e : f_X1_rule_21 h lw = some r) : (lw = 0 → r.1 = eA h 6 1 7) ∧ (lw = 1 → r.1 = eA h 6 1 8) ∧ (¬ lw = 0 → ¬ lw = 1 → r.1 = 1) := by
  unfold f_X1_rule_21 at e
  obtain ⟨r30, h30, e30, e⟩ := ob2_some e
  cases e
  unfold f_X1_without at e30
  by_cases c0 : lw = 0
  · rw [if_pos c0] at e30
    cases e30
    refine ⟨fun _ => rfl, fun q => ?_, fun q => absurd c0 q⟩
    rw [c0] at q
    exact absurd q (by decide)
  · rw [if_neg c0] at e30
    by_cases c1 : lw = 1
    · rw [if_pos c1] at e30
      cases e30
      exact ⟨fun q => absurd q c0, fun _ => rfl, fun _ q => absurd c1 q⟩
    · rw [if_neg c1] at e30
      cases e30
      exact ⟨fun q => absurd q c0, fun q => absurd q c1, fun _ _ => rfl⟩
/-- a law of the class and of the reference: without orders, or the same answer wherever the names agree -/
def RULE (h g : HS) (lw : Int32) (r q : Int32 × HS) : Prop := (q.1 = -1 ∧ (lw = 0 → r.1 = eA h 6 1 7) ∧ (lw = 1 → r.1 = eA h 6 1 8) ∧ (¬ lw = 0 → ¬ lw = 1 → r.1 = 1)) ∨ (¬ q.1 = -1 ∧ ∀ (g' : HS) (w : Int64 × HS), f_X9_saysOf g' q.1 = some w → Fr [(1, 0, 39), (3, 0, 40)] g g' → (∀ k : Nat, k < 9 → (2 ≤ lw.toInt → k < 6) → eA h 6 1 k = eA g' 0 39 k ∧ MB (eA h 6 1 k).toInt) → SAYS lw r w)
theorem rule_t0 {h g : HS} {lw : Int32} {r q : Int32 × HS} (l0 : 0 ≤ lw.toInt) (l3 : lw.toInt ≤ 3) (ru : eA g 0 0 4 = 0) (tx : TXF 9 0 h g) (ty0 : TYL 9 h) (e : (ob2 (f_X6_hasLaw_0 h lw) (fun r_3 h_3 => (if r_3 = 0 then (f_X1_rule_21 h_3 lw) else (ob2 (f_X6_stepsEnd_0 (sI h_3 6 3 0) lw) (fun r_5 h_5 => (ob2 (f_X6_firstStep_0 h_5 lw) (fun r_6 h_6 => (f_X1_rule_46 8589934592 h_6 lw r_5 r_6)))))))) = some r) (e2 : f_X9_ordersOf g lw = some q) : q.2 = g ∧ RULE h g lw r q := by
  have zm : (-1 : Int32).toInt = -1 := rfl
  obtain ⟨x1, x2, x3, x4, x5⟩ := id tx
  obtain ⟨o1, o2⟩ := mp_orders (t := 0) (by rw [ru]; rfl) (by decide) (by omega) _ _ _ _ e2 (by decide)
  refine ⟨o1, ?_⟩
  obtain ⟨r3, h3, e3, e⟩ := ob2_some e
  obtain ⟨k1, k2⟩ := cp_hasLaw_0 e3 l0
  have k1 : h = h3 := k1.symm
  subst k1
  have k2 : (r3 = 0 ∧ (4 ≤ lw.toInt ∨ eA h 9 3 lw.toInt.toNat = -1)) ∨ (r3 = 1 ∧ lw.toInt < 4 ∧ ¬ eA h 9 3 lw.toInt.toNat = -1) := k2
  have cl := x5 lw.toInt.toNat (by omega)
  rcases k2 with ⟨k2, k3⟩ | ⟨k2, -, k3⟩
  · rw [if_pos k2] at e
    have k3 : eA h 9 3 lw.toInt.toNat = -1 := by
      rcases k3 with k3 | k3
      · omega
      · exact k3
    rcases cl with ⟨-, cl⟩ | ⟨cl, -⟩
    · rcases o2 with ⟨o2, -⟩ | ⟨c, o2, o3, o4⟩
      · exact Or.inl ⟨o2, rule_without e⟩
      · exact absurd (by rw [o3]; omega) (cl c (by rw [x1]; exact o2))
    · exact absurd k3 cl
  · rw [if_neg (by rw [k2]; decide)] at e
    rcases cl with ⟨cl, -⟩ | ⟨-, c, cl1, cl2⟩
    · exact absurd cl k3
    · rcases o2 with ⟨-, o2⟩ | ⟨c, o2, o3, o4⟩
      · exact absurd (gi_eq (by rw [cl2]; omega)) (o2 c (by show (0 : Int32).toInt ≤ _; have : (0 : Int32).toInt = 0 := rfl; omega) (by rw [← x1]; exact cl1))
      · obtain ⟨r5, h5, e5, e⟩ := ob2_some e
        obtain ⟨r6, h6, e6, e⟩ := ob2_some e
        have cf := x4 c (by rw [x1]; exact o2)
        have lf := cf.2.2.2.1 (by rw [o3]; omega)
        rw [o3] at lf
        refine Or.inr ⟨gi_ne (by rw [o4]; have := lf.1; have := lf.2.2.2.1; omega), fun g' w ew fg na => ?_⟩
        rw [o4] at ew
        exact ev_rule_0 l0 l3 tx ty0 (by rw [x1]; exact o2) (by rw [o3]) k3 e5 e6 e ew fg na
theorem rule_t1 {h g : HS} {lw : Int32} {r q : Int32 × HS} (l0 : 0 ≤ lw.toInt) (l3 : lw.toInt ≤ 3) (ru : eA g 0 0 4 = 1) (tx : TXF 10 1 h g) (ty0 : TYL 10 h) (e : (ob2 (f_X6_hasLaw_1 h lw) (fun r_3 h_3 => (if r_3 = 0 then (f_X1_rule_21 h_3 lw) else (ob2 (f_X6_stepsEnd_1 (sI h_3 6 3 0) lw) (fun r_5 h_5 => (ob2 (f_X6_firstStep_1 h_5 lw) (fun r_6 h_6 => (f_X1_rule_46b 8589934592 h_6 lw r_5 r_6)))))))) = some r) (e2 : f_X9_ordersOf g lw = some q) : q.2 = g ∧ RULE h g lw r q := by
  have zm : (-1 : Int32).toInt = -1 := rfl
  obtain ⟨x1, x2, x3, x4, x5⟩ := id tx
  obtain ⟨o1, o2⟩ := mp_orders (t := 1) (by rw [ru]; rfl) (by decide) (by omega) _ _ _ _ e2 (by decide)
  refine ⟨o1, ?_⟩
  obtain ⟨r3, h3, e3, e⟩ := ob2_some e
  obtain ⟨k1, k2⟩ := cp_hasLaw_1 e3 l0
  have k1 : h = h3 := k1.symm
  subst k1
  have k2 : (r3 = 0 ∧ (4 ≤ lw.toInt ∨ eA h 10 3 lw.toInt.toNat = -1)) ∨ (r3 = 1 ∧ lw.toInt < 4 ∧ ¬ eA h 10 3 lw.toInt.toNat = -1) := k2
  have cl := x5 lw.toInt.toNat (by omega)
  rcases k2 with ⟨k2, k3⟩ | ⟨k2, -, k3⟩
  · rw [if_pos k2] at e
    have k3 : eA h 10 3 lw.toInt.toNat = -1 := by
      rcases k3 with k3 | k3
      · omega
      · exact k3
    rcases cl with ⟨-, cl⟩ | ⟨cl, -⟩
    · rcases o2 with ⟨o2, -⟩ | ⟨c, o2, o3, o4⟩
      · exact Or.inl ⟨o2, rule_without e⟩
      · exact absurd (by rw [o3]; omega) (cl c (by rw [x1]; exact o2))
    · exact absurd k3 cl
  · rw [if_neg (by rw [k2]; decide)] at e
    rcases cl with ⟨cl, -⟩ | ⟨-, c, cl1, cl2⟩
    · exact absurd cl k3
    · rcases o2 with ⟨-, o2⟩ | ⟨c, o2, o3, o4⟩
      · exact absurd (gi_eq (by rw [cl2]; omega)) (o2 c (by show (0 : Int32).toInt ≤ _; have : (0 : Int32).toInt = 0 := rfl; omega) (by rw [← x1]; exact cl1))
      · obtain ⟨r5, h5, e5, e⟩ := ob2_some e
        obtain ⟨r6, h6, e6, e⟩ := ob2_some e
        have cf := x4 c (by rw [x1]; exact o2)
        have lf := cf.2.2.2.1 (by rw [o3]; omega)
        rw [o3] at lf
        refine Or.inr ⟨gi_ne (by rw [o4]; have := lf.1; have := lf.2.2.2.1; omega), fun g' w ew fg na => ?_⟩
        rw [o4] at ew
        exact ev_rule_1 l0 l3 tx ty0 (by rw [x1]; exact o2) (by rw [o3]) k3 e5 e6 e ew fg na
theorem rule_t2 {h g : HS} {lw : Int32} {r q : Int32 × HS} (l0 : 0 ≤ lw.toInt) (l3 : lw.toInt ≤ 3) (ru : eA g 0 0 4 = 2) (tx : TXF 11 2 h g) (ty0 : TYL 11 h) (e : (ob2 (f_X6_hasLaw_2 h lw) (fun r_3 h_3 => (if r_3 = 0 then (f_X1_rule_21 h_3 lw) else (ob2 (f_X6_stepsEnd_2 (sI h_3 6 3 0) lw) (fun r_5 h_5 => (ob2 (f_X6_firstStep_2 h_5 lw) (fun r_6 h_6 => (f_X1_rule_46c 8589934592 h_6 lw r_5 r_6)))))))) = some r) (e2 : f_X9_ordersOf g lw = some q) : q.2 = g ∧ RULE h g lw r q := by
  have zm : (-1 : Int32).toInt = -1 := rfl
  obtain ⟨x1, x2, x3, x4, x5⟩ := id tx
  obtain ⟨o1, o2⟩ := mp_orders (t := 2) (by rw [ru]; rfl) (by decide) (by omega) _ _ _ _ e2 (by decide)
  refine ⟨o1, ?_⟩
  obtain ⟨r3, h3, e3, e⟩ := ob2_some e
  obtain ⟨k1, k2⟩ := cp_hasLaw_2 e3 l0
  have k1 : h = h3 := k1.symm
  subst k1
  have k2 : (r3 = 0 ∧ (4 ≤ lw.toInt ∨ eA h 11 3 lw.toInt.toNat = -1)) ∨ (r3 = 1 ∧ lw.toInt < 4 ∧ ¬ eA h 11 3 lw.toInt.toNat = -1) := k2
  have cl := x5 lw.toInt.toNat (by omega)
  rcases k2 with ⟨k2, k3⟩ | ⟨k2, -, k3⟩
  · rw [if_pos k2] at e
    have k3 : eA h 11 3 lw.toInt.toNat = -1 := by
      rcases k3 with k3 | k3
      · omega
      · exact k3
    rcases cl with ⟨-, cl⟩ | ⟨cl, -⟩
    · rcases o2 with ⟨o2, -⟩ | ⟨c, o2, o3, o4⟩
      · exact Or.inl ⟨o2, rule_without e⟩
      · exact absurd (by rw [o3]; omega) (cl c (by rw [x1]; exact o2))
    · exact absurd k3 cl
  · rw [if_neg (by rw [k2]; decide)] at e
    rcases cl with ⟨cl, -⟩ | ⟨-, c, cl1, cl2⟩
    · exact absurd cl k3
    · rcases o2 with ⟨-, o2⟩ | ⟨c, o2, o3, o4⟩
      · exact absurd (gi_eq (by rw [cl2]; omega)) (o2 c (by show (0 : Int32).toInt ≤ _; have : (0 : Int32).toInt = 0 := rfl; omega) (by rw [← x1]; exact cl1))
      · obtain ⟨r5, h5, e5, e⟩ := ob2_some e
        obtain ⟨r6, h6, e6, e⟩ := ob2_some e
        have cf := x4 c (by rw [x1]; exact o2)
        have lf := cf.2.2.2.1 (by rw [o3]; omega)
        rw [o3] at lf
        refine Or.inr ⟨gi_ne (by rw [o4]; have := lf.1; have := lf.2.2.2.1; omega), fun g' w ew fg na => ?_⟩
        rw [o4] at ew
        exact ev_rule_2 l0 l3 tx ty0 (by rw [x1]; exact o2) (by rw [o3]) k3 e5 e6 e ew fg na
theorem rule_t3 {h g : HS} {lw : Int32} {r q : Int32 × HS} (l0 : 0 ≤ lw.toInt) (l3 : lw.toInt ≤ 3) (ru : eA g 0 0 4 = 3) (tx : TXF 12 3 h g) (ty0 : TYL 12 h) (e : (ob2 (f_X6_hasLaw_3 h lw) (fun r_3 h_3 => (if r_3 = 0 then (f_X1_rule_21 h_3 lw) else (ob2 (f_X6_stepsEnd_3 (sI h_3 6 3 0) lw) (fun r_5 h_5 => (ob2 (f_X6_firstStep_3 h_5 lw) (fun r_6 h_6 => (f_X1_rule_46d 8589934592 h_6 lw r_5 r_6)))))))) = some r) (e2 : f_X9_ordersOf g lw = some q) : q.2 = g ∧ RULE h g lw r q := by
  have zm : (-1 : Int32).toInt = -1 := rfl
  obtain ⟨x1, x2, x3, x4, x5⟩ := id tx
  obtain ⟨o1, o2⟩ := mp_orders (t := 3) (by rw [ru]; rfl) (by decide) (by omega) _ _ _ _ e2 (by decide)
  refine ⟨o1, ?_⟩
  obtain ⟨r3, h3, e3, e⟩ := ob2_some e
  obtain ⟨k1, k2⟩ := cp_hasLaw_3 e3 l0
  have k1 : h = h3 := k1.symm
  subst k1
  have k2 : (r3 = 0 ∧ (4 ≤ lw.toInt ∨ eA h 12 3 lw.toInt.toNat = -1)) ∨ (r3 = 1 ∧ lw.toInt < 4 ∧ ¬ eA h 12 3 lw.toInt.toNat = -1) := k2
  have cl := x5 lw.toInt.toNat (by omega)
  rcases k2 with ⟨k2, k3⟩ | ⟨k2, -, k3⟩
  · rw [if_pos k2] at e
    have k3 : eA h 12 3 lw.toInt.toNat = -1 := by
      rcases k3 with k3 | k3
      · omega
      · exact k3
    rcases cl with ⟨-, cl⟩ | ⟨cl, -⟩
    · rcases o2 with ⟨o2, -⟩ | ⟨c, o2, o3, o4⟩
      · exact Or.inl ⟨o2, rule_without e⟩
      · exact absurd (by rw [o3]; omega) (cl c (by rw [x1]; exact o2))
    · exact absurd k3 cl
  · rw [if_neg (by rw [k2]; decide)] at e
    rcases cl with ⟨cl, -⟩ | ⟨-, c, cl1, cl2⟩
    · exact absurd cl k3
    · rcases o2 with ⟨-, o2⟩ | ⟨c, o2, o3, o4⟩
      · exact absurd (gi_eq (by rw [cl2]; omega)) (o2 c (by show (0 : Int32).toInt ≤ _; have : (0 : Int32).toInt = 0 := rfl; omega) (by rw [← x1]; exact cl1))
      · obtain ⟨r5, h5, e5, e⟩ := ob2_some e
        obtain ⟨r6, h6, e6, e⟩ := ob2_some e
        have cf := x4 c (by rw [x1]; exact o2)
        have lf := cf.2.2.2.1 (by rw [o3]; omega)
        rw [o3] at lf
        refine Or.inr ⟨gi_ne (by rw [o4]; have := lf.1; have := lf.2.2.2.1; omega), fun g' w ew fg na => ?_⟩
        rw [o4] at ew
        exact ev_rule_3 l0 l3 tx ty0 (by rw [x1]; exact o2) (by rw [o3]) k3 e5 e6 e ew fg na
theorem rule_both {h g : HS} {lw : Int32} {r q : Int32 × HS} (l0 : 0 ≤ lw.toInt) (l3 : lw.toInt ≤ 3) (ru : eI h 1 10 = eA g 0 0 4) (rr : -1 ≤ (eA g 0 0 4).toInt ∧ (eA g 0 0 4).toInt < (eA g 0 0 3).toInt ∧ (eA g 0 0 3).toInt ≤ 4) (tx : TXS h g (eA g 0 0 3).toInt) (e : f_X1_rule h lw = some r) (e2 : f_X9_ordersOf g lw = some q) : q.2 = g ∧ RULE h g lw r q := by
  have z0 : (0 : Int32).toInt = 0 := rfl
  have z1 : (1 : Int32).toInt = 1 := rfl
  have z2 : (2 : Int32).toInt = 2 := rfl
  have z3 : (3 : Int32).toInt = 3 := rfl
  have zm : (-1 : Int32).toInt = -1 := rfl
  unfold f_X1_rule at e
  rw [ru] at e
  by_cases c0 : eA g 0 0 4 = 0
  · rw [if_pos c0] at e
    have d := gi_of_eq c0
    have t := tx.1 (by omega)
    exact rule_t0 l0 l3 c0 t.1 t.2 e e2
  · rw [if_neg c0] at e
    have d0 := gi_of_ne c0
    by_cases c1 : eA g 0 0 4 = 1
    · rw [if_pos c1] at e
      have d := gi_of_eq c1
      have t := tx.2.1 (by omega)
      exact rule_t1 l0 l3 c1 t.1 t.2 e e2
    · rw [if_neg c1] at e
      have d1 := gi_of_ne c1
      by_cases c2 : eA g 0 0 4 = 2
      · rw [if_pos c2] at e
        have d := gi_of_eq c2
        have t := tx.2.2.1 (by omega)
        exact rule_t2 l0 l3 c2 t.1 t.2 e e2
      · rw [if_neg c2] at e
        have d2 := gi_of_ne c2
        by_cases c3 : eA g 0 0 4 = 3
        · rw [if_pos c3] at e
          have d := gi_of_eq c3
          have t := tx.2.2.2 (by omega)
          exact rule_t3 l0 l3 c3 t.1 t.2 e e2
        · rw [if_neg c3] at e
          have d3 := gi_of_ne c3
          have k := mp_orders_no e2 (gi_eq (by omega))
          rw [k]
          exact ⟨rfl, Or.inl ⟨rfl, rule_without e⟩⟩
/-! the state: the class's rows against the reference's one -/
theorem pr_inj {α β : Type} {a c : α} {b d : β} (h : (a, b) = (c, d)) : a = c ∧ d = b := ⟨congrArg Prod.fst h, (congrArg Prod.snd h).symm⟩
def gc (A : Nat → Int32) (b q k : Nat) : Int32 := A (b + (9 * q + k))
def nxr (j n : Nat) : Nat := if j + 1 < n then 130 + 93 * (j + 1) else 30
def STP (s A : Nat → Int32) (a j n : Nat) : Prop := (0 ≤ (s (a + 90)).toInt ∧ (s (a + 90)).toInt ≤ (A 1).toInt) ∧ (∀ i : Nat, (i : Int) < 9 * (s (a + 90)).toInt → s (a + i) = A (130 + 93 * j + i)) ∧ (∀ i : Nat, 9 * (s (a + 90)).toInt ≤ (i : Int) → (i : Int) < 9 * (A 1).toInt → A (130 + 93 * j + i) = A (nxr j n + i)) ∧ s (a + 91) = A (130 + 93 * j + 90) ∧ s (a + 92) = A (130 + 93 * j + 91) ∧ s (a + 93) = A (130 + 93 * j + 92)
def STEPS (s A : Nat → Int32) (f n : Nat) : Prop := ∀ j : Nat, j < n → STP s A ((f + j) % 20 * 94) j n
def FULL (s A : Nat → Int32) (f n : Nat) : Prop := 1 ≤ n ∧ s ((f + (n - 1)) % 20 * 94 + 90) = A 1
def SCA (h : HS) (o : Nat) (A : Nat → Int32) : Prop := eI h o 3 = A 1 ∧ eI h o 4 = A 0 ∧ eI h o 5 = A 120 ∧ eI h o 6 = A 2 ∧ eI h o 7 = A 121 ∧ eI h o 8 = A 122 ∧ eI h o 9 = A 3 ∧ eI h o 10 = A 4 ∧ eI h o 12 = A 5
def GEE (s A : Nat → Int32) : Prop := ∀ i : Nat, (i : Int) < 9 * (A 1).toInt → s i = A (30 + i)
def MKT (s A : Nat → Int32) : Prop := ∀ i : Nat, (i : Int) < 3 * (A 0).toInt → s i = A (10 + i)
def SRel (h : HS) (o : Nat) (A : Nat → Int32) : Prop := SCA h o A ∧ GEE (eA h o 0) A ∧ MKT (eA h o 1) A ∧ (0 ≤ (eI h o 11).toInt ∧ (eI h o 11).toInt < 20) ∧ STEPS (eA h o 2) A (eI h o 11).toInt.toNat (A 5).toInt.toNat
def SFul (h : HS) (A : Nat → Int32) : Prop := FULL (eA h 1 2) A (eI h 1 11).toInt.toNat (A 5).toInt.toNat
/-- what a goose's cells may hold -/
def GR (A : Nat → Int32) (b q : Nat) (m : Int) : Prop := (0 ≤ (gc A b q 0).toInt ∧ (gc A b q 0).toInt ≤ 20) ∧ (0 ≤ (gc A b q 1).toInt ∧ (gc A b q 1).toInt ≤ 99) ∧ (((gc A b q 2).toInt = -1 ∧ (gc A b q 3).toInt = -1) ∨ (0 ≤ (gc A b q 2).toInt ∧ (gc A b q 2).toInt ≤ 5 ∧ 0 ≤ (gc A b q 3).toInt ∧ (gc A b q 3).toInt ≤ 2)) ∧ (0 ≤ (gc A b q 4).toInt ∧ (gc A b q 4).toInt ≤ 5) ∧ (-1 ≤ (gc A b q 5).toInt ∧ (gc A b q 5).toInt ≤ 3) ∧ (1 ≤ (gc A b q 4).toInt → (gc A b q 4).toInt ≤ 4 → 0 ≤ (gc A b q 5).toInt ∧ (gc A b q 5).toInt < m) ∧ (-1 ≤ (gc A b q 6).toInt ∧ (gc A b q 6).toInt ≤ 1008) ∧ (-1 ≤ (gc A b q 7).toInt ∧ (gc A b q 7).toInt ≤ 999) ∧ (2 ≤ (gc A b q 4).toInt → 0 ≤ (gc A b q 7).toInt) ∧ (0 ≤ (gc A b q 8).toInt ∧ (gc A b q 8).toInt ≤ 1)
def RW (A : Nat → Int32) (b : Nat) : Prop := 0 ≤ (A (b + 90)).toInt ∧ (0 ≤ (A (b + 91)).toInt ∧ (A (b + 91)).toInt ≤ 999) ∧ ∀ q : Nat, (q : Int) < (A 1).toInt → GR A b q (A 0).toInt
def MR (A : Nat → Int32) : Prop := ∀ m : Nat, (m : Int) < (A 0).toInt → (1 ≤ (A (10 + 3 * m)).toInt ∧ (A (10 + 3 * m)).toInt ≤ 9) ∧ (0 ≤ (A (10 + (3 * m + 1))).toInt ∧ (A (10 + (3 * m + 1))).toInt ≤ 9) ∧ (0 ≤ (A (10 + (3 * m + 2))).toInt ∧ (A (10 + (3 * m + 2))).toInt ≤ 9)
def RN (A : Nat → Int32) : Prop := (0 ≤ (A 1).toInt ∧ (A 1).toInt ≤ 10) ∧ (0 ≤ (A 0).toInt ∧ (A 0).toInt ≤ 4) ∧ (0 ≤ (A 5).toInt ∧ (A 5).toInt ≤ 20) ∧ (0 ≤ (A 3).toInt ∧ (A 3).toInt ≤ 4) ∧ (-1 ≤ (A 4).toInt ∧ (A 4).toInt < (A 3).toInt) ∧ (0 ≤ (A 2).toInt ∧ (A 2).toInt ≤ 99)
def RG (A : Nat → Int32) : Prop := RN A ∧ MR A ∧ RW A 30 ∧ ∀ j : Nat, (j : Int) < (A 5).toInt → RW A (130 + 93 * j)
/-! how they pass from one row to the next -/
theorem GR_eq {A B : Nat → Int32} {b c q : Nat} {m n : Int} (x : GR A b q m) (e : ∀ k : Nat, k < 9 → gc B c q k = gc A b q k) (l : m ≤ n) : GR B c q n := by
  unfold GR at *
  rw [e 0 (by decide), e 1 (by decide), e 2 (by decide), e 3 (by decide), e 4 (by decide), e 5 (by decide), e 6 (by decide), e 7 (by decide), e 8 (by decide)]
  omega
theorem RW_eq {A B : Nat → Int32} {b c : Nat} (x : RW A b) (e : ∀ k : Nat, k < 93 → B (c + k) = A (b + k)) (e1 : B 1 = A 1) (n1 : (A 1).toInt ≤ 10) (l : (A 0).toInt ≤ (B 0).toInt) : RW B c := by
  obtain ⟨x1, x2, x3⟩ := x
  refine ⟨by rw [e 90 (by decide)]; exact x1, by rw [e 91 (by decide)]; exact x2, fun q hq => ?_⟩
  rw [e1] at hq
  exact GR_eq (x3 q hq) (fun k hk => e (9 * q + k) (by omega)) l
theorem STEPS_congr {s A B : Nat → Int32} {f n : Nat} (x : STEPS s A f n) (a1 : B 1 = A 1) (hi : ∀ k : Nat, 130 ≤ k → k < 130 + 93 * n → B k = A k) (n1 : (A 1).toInt ≤ 10) (lo : FULL s A f n ∨ ∀ k : Nat, k < 90 → B (30 + k) = A (30 + k)) : STEPS s B f n := by
  intro j hj
  obtain ⟨⟨x1, x2⟩, x3, x4, x5, x6, x7⟩ := x j hj
  have E : ∀ i : Nat, i < 93 → B (130 + 93 * j + i) = A (130 + 93 * j + i) := fun i hi2 => hi _ (by omega) (by omega)
  refine ⟨⟨x1, by rw [a1]; exact x2⟩, fun i hi2 => ?_, fun i q1 q2 => ?_, by rw [x5, E 90 (by decide)], by rw [x6, E 91 (by decide)], by rw [x7, E 92 (by decide)]⟩
  · rw [E i (by omega)]; exact x3 i hi2
  · rw [a1] at q2
    rw [E i (by omega), x4 i q1 q2]
    unfold nxr
    by_cases c : j + 1 < n
    · rw [if_pos c]; exact (hi _ (by omega) (by omega)).symm
    · rw [if_neg c]
      rcases lo with lo | lo
      · have e : s ((f + j) % 20 * 94 + 90) = A 1 := by
          have := lo.2
          rw [show n - 1 = j by omega] at this
          exact this
        rw [e] at q1
        omega
      · exact (lo i (by omega)).symm
theorem GEE_upd {s A : Nat → Int32} {a : Nat} {v : Int32} (x : GEE s A) (n : 30 + a ≠ 1) : GEE (upd s a v) (upd A (30 + a) v) := by
  intro i hi
  have e1 : upd A (30 + a) v 1 = A 1 := by unfold upd; rw [if_neg (by omega)]
  rw [e1] at hi
  unfold upd
  by_cases c : i = a
  · rw [if_pos c, if_pos (by omega)]
  · rw [if_neg c, if_neg (by omega)]; exact x i hi
theorem md20 {x : Int32} (h : 0 ≤ x.toInt) : (x - x / 20 * 20).toInt = ((x.toInt.toNat % 20 : Nat) : Int) := by
  have r := fb_rng x
  have q := (fb_divK (x := x) (y := 20) (k := 20) rfl (by decide)).1 h
  have m1 : (x / 20 * 20).toInt = (x / 20).toInt * 20 := fb_mulK rfl (by omega) (by omega)
  have m2 : (x - x / 20 * 20).toInt = x.toInt - (x / 20 * 20).toInt := fb_subI (by omega) (by omega)
  omega
/-! small steps of both sides over the state -/
theorem ixg {p f : Int32} {q k : Nat} (hp : p.toInt = (q : Int)) (hf : f.toInt = (k : Int)) (hq : q < 10) (hk : k < 9) : (p * 9 + f).toInt = 9 * (q : Int) + (k : Int) ∧ (p * 9 + f).toNatClampNeg = 9 * q + k := by
  have m : (p * 9).toInt = p.toInt * 9 := fb_mulK rfl (by omega) (by omega)
  have a := fb_addI (x := p * 9) (y := f) (by omega) (by omega)
  refine ⟨by omega, ?_⟩
  show (p * 9 + f).toInt.toNat = _
  omega
theorem ixm {p f : Int32} {q k : Nat} (hp : p.toInt = (q : Int)) (hf : f.toInt = (k : Int)) (hq : q < 4) (hk : k < 3) : (p * 3 + f).toInt = 3 * (q : Int) + (k : Int) ∧ (p * 3 + f).toNatClampNeg = 3 * q + k := by
  have m : (p * 3).toInt = p.toInt * 3 := fb_mulK rfl (by omega) (by omega)
  have a := fb_addI (x := p * 3) (y := f) (by omega) (by omega)
  refine ⟨by omega, ?_⟩
  show (p * 3 + f).toInt.toNat = _
  omega
theorem cp_ofGoose {h : HS} {p f : Int32} {z : Int32 × HS} {q k : Nat} (e : f_X4_ofGoose h p f = some z) (hp : p.toInt = (q : Int)) (hf : f.toInt = (k : Int)) (hq : (q : Int) < (eI h 1 3).toInt) (h10 : (eI h 1 3).toInt ≤ 10) (hk : k < 9) : z = (eA h 1 0 (9 * q + k), h) := by
  have y0 : (0 : Int32).toInt = 0 := rfl
  have y9 : (9 : Int32).toInt = 9 := rfl
  have y10 : (10 : Int32).toInt = 10 := rfl
  obtain ⟨i1, i2⟩ := ixg hp hf (by omega) hk
  unfold f_X4_ofGoose at e
  rw [if_neg (gi_nlt (by omega)), if_neg (gi_nle (by omega)), if_neg (gi_nle (by omega)), if_neg (gi_nlt (by omega)), if_pos (gi_lt (by omega))] at e
  obtain ⟨-, e⟩ := ob_if e
  rw [i2] at e
  exact (Option.some.inj e).symm
theorem cp_ofGoose_no {h : HS} {p f : Int32} {z : Int32 × HS} (e : f_X4_ofGoose h p f = some z) (no : ¬ (0 ≤ p.toInt ∧ p.toInt < (eI h 1 3).toInt)) : z = (-1, h) := by
  have y0 : (0 : Int32).toInt = 0 := rfl
  unfold f_X4_ofGoose f_X4_ofGoose_28 at e
  by_cases c : p < 0
  · rw [if_pos c] at e; exact (Option.some.inj e).symm
  · rw [if_neg c] at e
    have d := gi_of_nlt c
    rw [if_pos (gi_le (by omega))] at e
    exact (Option.some.inj e).symm
theorem cp_hasGoose {h : HS} {p : Int32} {z : Int32 × HS} (e : f_X4_hasGoose h p = some z) (h10 : (eI h 1 3).toInt ≤ 10) : z.2 = h ∧ ((z.1 = 0 ∧ ¬ (0 ≤ p.toInt ∧ p.toInt < (eI h 1 3).toInt)) ∨ (z.1 = 1 ∧ 0 ≤ p.toInt ∧ p.toInt < (eI h 1 3).toInt)) := by
  have y0 : (0 : Int32).toInt = 0 := rfl
  have y10 : (10 : Int32).toInt = 10 := rfl
  unfold f_X4_hasGoose f_X4_hasGoose_22 f_X4_hasGoose_23 at e
  rw [if_pos (Or.inl rfl), if_pos (Or.inr rfl)] at e
  by_cases c : p < 0
  · rw [if_pos c] at e
    have d := gi_of_lt c
    cases e
    exact ⟨rfl, Or.inl ⟨rfl, by omega⟩⟩
  · rw [if_neg c] at e
    have d := gi_of_nlt c
    by_cases c2 : eI h 1 3 ≤ p
    · rw [if_pos c2] at e
      have d2 := gi_of_le c2
      cases e
      exact ⟨rfl, Or.inl ⟨rfl, by omega⟩⟩
    · rw [if_neg c2] at e
      have d2 := gi_of_nle c2
      rw [if_neg (gi_nle (by omega))] at e
      cases e
      exact ⟨rfl, Or.inr ⟨rfl, by omega, by omega⟩⟩
theorem cp_hasMarket {h : HS} {p : Int32} {z : Int32 × HS} (e : f_X4_hasMarket h p = some z) (h4 : (eI h 1 4).toInt ≤ 4) : z.2 = h ∧ ((z.1 = 0 ∧ ¬ (0 ≤ p.toInt ∧ p.toInt < (eI h 1 4).toInt)) ∨ (z.1 = 1 ∧ 0 ≤ p.toInt ∧ p.toInt < (eI h 1 4).toInt)) := by
  have y0 : (0 : Int32).toInt = 0 := rfl
  have y4 : (4 : Int32).toInt = 4 := rfl
  unfold f_X4_hasMarket f_X4_hasMarket_21 f_X4_hasMarket_22 at e
  rw [if_pos (Or.inl rfl), if_pos (Or.inr rfl)] at e
  by_cases c : p < 0
  · rw [if_pos c] at e
    have d := gi_of_lt c
    cases e
    exact ⟨rfl, Or.inl ⟨rfl, by omega⟩⟩
  · rw [if_neg c] at e
    have d := gi_of_nlt c
    by_cases c2 : eI h 1 4 ≤ p
    · rw [if_pos c2] at e
      have d2 := gi_of_le c2
      cases e
      exact ⟨rfl, Or.inl ⟨rfl, by omega⟩⟩
    · rw [if_neg c2] at e
      have d2 := gi_of_nle c2
      rw [if_neg (gi_nle (by omega))] at e
      cases e
      exact ⟨rfl, Or.inr ⟨rfl, by omega, by omega⟩⟩
theorem cp_ofMarket {h : HS} {p f : Int32} {z : Int32 × HS} {q k : Nat} (e : f_X4_ofMarket h p f = some z) (hp : p.toInt = (q : Int)) (hf : f.toInt = (k : Int)) (hq : (q : Int) < (eI h 1 4).toInt) (h4 : (eI h 1 4).toInt ≤ 4) (hk : k < 3) : z = (eA h 1 1 (3 * q + k), h) := by
  have y0 : (0 : Int32).toInt = 0 := rfl
  have y3 : (3 : Int32).toInt = 3 := rfl
  have y4 : (4 : Int32).toInt = 4 := rfl
  obtain ⟨i1, i2⟩ := ixm hp hf (by omega) hk
  unfold f_X4_ofMarket at e
  rw [if_neg (gi_nlt (by omega)), if_neg (gi_nle (by omega)), if_neg (gi_nle (by omega)), if_neg (gi_nlt (by omega)), if_pos (gi_lt (by omega))] at e
  obtain ⟨-, e⟩ := ob_if e
  rw [i2] at e
  exact (Option.some.inj e).symm
theorem cp_setGoose {h h' : HS} {p f v : Int32} {q k : Nat} (e : f_X4_setGoose h p f v = some h') (hp : p.toInt = (q : Int)) (hf : f.toInt = (k : Int)) (hq : (q : Int) < (eI h 1 3).toInt) (h10 : (eI h 1 3).toInt ≤ 10) (hk : k < 9) : h' = sA h 1 0 (upd (eA h 1 0) (9 * q + k) v) := by
  have y0 : (0 : Int32).toInt = 0 := rfl
  have y9 : (9 : Int32).toInt = 9 := rfl
  obtain ⟨i1, i2⟩ := ixg hp hf (by omega) hk
  unfold f_X4_setGoose f_X4_setGoose_30 at e
  obtain ⟨r1, h1, e1, e⟩ := ob2_some e
  obtain ⟨k1, k2⟩ := cp_hasGoose e1 h10
  have k1 : h = h1 := k1.symm
  subst k1
  have k2 : (r1 = 0 ∧ ¬ (0 ≤ p.toInt ∧ p.toInt < (eI h 1 3).toInt)) ∨ (r1 = 1 ∧ 0 ≤ p.toInt ∧ p.toInt < (eI h 1 3).toInt) := k2
  rcases k2 with ⟨k2, k3⟩ | ⟨k2, k3, k4⟩
  · exact absurd ⟨by omega, by omega⟩ k3
  · rw [if_neg (by rw [k2]; decide), if_neg (gi_nlt (by omega)), if_neg (gi_nle (by omega))] at e
    obtain ⟨-, e⟩ := ob_if e
    rw [i2] at e
    exact (Option.some.inj e).symm
theorem cp_isHome {h : HS} {p : Int32} {z : Int32 × HS} (e : f_X4_isHome h p = some z) (h10 : (eI h 1 3).toInt ≤ 10) : z.2 = h ∧ ((z.1 = 1 ∧ ∃ q : Nat, p.toInt = (q : Int) ∧ (q : Int) < (eI h 1 3).toInt ∧ eA h 1 0 (9 * q + 4) = 0) ∨ (z.1 = 0 ∧ ∀ q : Nat, p.toInt = (q : Int) → (q : Int) < (eI h 1 3).toInt → ¬ eA h 1 0 (9 * q + 4) = 0)) := by
  unfold f_X4_isHome f_X4_isHome_14 at e
  obtain ⟨r1, h1, e1, e⟩ := ob2_some e
  by_cases c : 0 ≤ p.toInt ∧ p.toInt < (eI h 1 3).toInt
  · have k := cp_ofGoose (q := p.toInt.toNat) (k := 4) e1 (by omega) rfl (by omega) h10 (by decide)
    have k1 : r1 = eA h 1 0 (9 * p.toInt.toNat + 4) := congrArg Prod.fst k
    have k2 : h = h1 := (congrArg Prod.snd k).symm
    subst k2
    by_cases c0 : r1 = 0
    · rw [if_pos c0] at e
      rw [if_pos (Or.inr rfl)] at e
      cases e
      exact ⟨rfl, Or.inl ⟨rfl, p.toInt.toNat, by omega, by omega, k1.symm.trans c0⟩⟩
    · rw [if_neg c0] at e
      rw [if_pos (Or.inl rfl)] at e
      cases e
      refine ⟨rfl, Or.inr ⟨rfl, fun q hq _ => ?_⟩⟩
      rw [show q = p.toInt.toNat by omega, ← k1]
      exact c0
  · have k := cp_ofGoose_no e1 c
    have k1 : r1 = -1 := congrArg Prod.fst k
    have k2 : h = h1 := (congrArg Prod.snd k).symm
    subst k2
    rw [if_neg (by rw [k1]; decide)] at e
    rw [if_pos (Or.inl rfl)] at e
    cases e
    exact ⟨rfl, Or.inr ⟨rfl, fun q hq h2 => by omega⟩⟩
theorem cp_isFree {h : HS} {p : Int32} {z : Int32 × HS} (e : f_X4_isFree h p = some z) (h10 : (eI h 1 3).toInt ≤ 10) : z.2 = h ∧ ((z.1 = 1 ∧ ∃ q : Nat, p.toInt = (q : Int) ∧ (q : Int) < (eI h 1 3).toInt ∧ eA h 1 0 (9 * q + 4) = 0 ∧ eA h 1 0 (9 * q + 8) = 0) ∨ (z.1 = 0 ∧ ∀ q : Nat, p.toInt = (q : Int) → (q : Int) < (eI h 1 3).toInt → ¬ (eA h 1 0 (9 * q + 4) = 0 ∧ eA h 1 0 (9 * q + 8) = 0))) := by
  unfold f_X4_isFree f_X4_isFree_22 f_X4_isFree_23 at e
  obtain ⟨r1, h1, e1, e⟩ := ob2_some e
  obtain ⟨k1, k2⟩ := cp_isHome e1 h10
  have k1 : h = h1 := k1.symm
  subst k1
  have k2 : (r1 = 1 ∧ ∃ q : Nat, p.toInt = (q : Int) ∧ (q : Int) < (eI h 1 3).toInt ∧ eA h 1 0 (9 * q + 4) = 0) ∨ (r1 = 0 ∧ ∀ q : Nat, p.toInt = (q : Int) → (q : Int) < (eI h 1 3).toInt → ¬ eA h 1 0 (9 * q + 4) = 0) := k2
  rcases k2 with ⟨k2, q, k3, k4, k5⟩ | ⟨k2, k3⟩
  · rw [if_neg (by rw [k2]; decide)] at e
    obtain ⟨r3, h3, e3, e⟩ := ob2_some e
    have k := cp_ofGoose (q := q) (k := 8) e3 k3 rfl k4 h10 (by decide)
    have k6 : r3 = eA h 1 0 (9 * q + 8) := congrArg Prod.fst k
    have k7 : h = h3 := (congrArg Prod.snd k).symm
    subst k7
    by_cases c0 : r3 = 0
    · rw [if_pos c0] at e
      rw [if_pos (Or.inr rfl)] at e
      cases e
      exact ⟨rfl, Or.inl ⟨rfl, q, k3, k4, k5, k6.symm.trans c0⟩⟩
    · rw [if_neg c0] at e
      rw [if_pos (Or.inl rfl)] at e
      cases e
      refine ⟨rfl, Or.inr ⟨rfl, fun q' hq _ w => c0 ?_⟩⟩
      rw [k6, show q = q' by omega]
      exact w.2
  · rw [if_pos k2] at e
    rw [if_pos (Or.inl rfl)] at e
    cases e
    exact ⟨rfl, Or.inr ⟨rfl, fun q hq h2 w => k3 q hq h2 w.1⟩⟩
/-! the reference -/
theorem mp_isGoose {g : HS} {p : Int32} {z : Int32 × HS} (e : f_X9_isGoose g p = some z) (r : 0 ≤ (eA g 0 0 1).toInt ∧ (eA g 0 0 1).toInt ≤ 10) : z.2 = g ∧ ((z.1 = 0 ∧ ¬ (0 ≤ p.toInt ∧ p.toInt < (eA g 0 0 1).toInt)) ∨ (z.1 = 1 ∧ 0 ≤ p.toInt ∧ p.toInt < (eA g 0 0 1).toInt)) := by
  have y0 : (0 : Int32).toInt = 0 := rfl
  have y1 : (1 : Int32).toInt = 1 := rfl
  have s := fb_subI (x := eA g 0 0 1) (y := 1) (by omega) (by omega)
  unfold f_X9_isGoose at e
  obtain ⟨r1, e1, e⟩ := ob1_some e
  obtain ⟨-, e⟩ := ob_if e
  cases e
  rcases mx_in e1 with ⟨k, q⟩ | ⟨k, q⟩
  · exact ⟨rfl, Or.inl ⟨k, by omega⟩⟩
  · exact ⟨rfl, Or.inr ⟨k, by omega, by omega⟩⟩
theorem mp_isMarket {g : HS} {p : Int32} {z : Int32 × HS} (e : f_X9_isMarket g p = some z) (r : 0 ≤ (eA g 0 0 0).toInt ∧ (eA g 0 0 0).toInt ≤ 4) : z.2 = g ∧ ((z.1 = 0 ∧ ¬ (0 ≤ p.toInt ∧ p.toInt < (eA g 0 0 0).toInt)) ∨ (z.1 = 1 ∧ 0 ≤ p.toInt ∧ p.toInt < (eA g 0 0 0).toInt)) := by
  have y0 : (0 : Int32).toInt = 0 := rfl
  have y1 : (1 : Int32).toInt = 1 := rfl
  have s := fb_subI (x := eA g 0 0 0) (y := 1) (by omega) (by omega)
  unfold f_X9_isMarket at e
  obtain ⟨r1, e1, e⟩ := ob1_some e
  obtain ⟨-, e⟩ := ob_if e
  cases e
  rcases mx_in e1 with ⟨k, q⟩ | ⟨k, q⟩
  · exact ⟨rfl, Or.inl ⟨k, by omega⟩⟩
  · exact ⟨rfl, Or.inr ⟨k, by omega, by omega⟩⟩
theorem ixr {p f : Int32} {q k : Nat} (hp : p.toInt = (q : Int)) (hf : f.toInt = (k : Int)) (hq : q < 10) (hk : k < 9) : ((30 + 9 * p) + f).toNatClampNeg = 30 + (9 * q + k) := by
  have z : (30 : Int32).toInt = 30 := rfl
  have e1 : (9 * p).toInt = 9 * p.toInt := fb_mulJ rfl (by omega) (by omega)
  have e2 : (30 + 9 * p).toInt = (30 : Int32).toInt + (9 * p).toInt := fb_addI (by omega) (by omega)
  have e3 : ((30 + 9 * p) + f).toInt = (30 + 9 * p).toInt + f.toInt := fb_addI (by omega) (by omega)
  show ((30 + 9 * p) + f).toInt.toNat = _
  omega
theorem mp_ofGoose {g : HS} {p f : Int32} {z : Int32 × HS} {q k : Nat} (e : f_X9_ofGoose g p f = some z) (hp : p.toInt = (q : Int)) (hf : f.toInt = (k : Int)) (hq : q < 10) (hk : k < 9) : z = (gc (eA g 0 0) 30 q k, g) := by
  unfold f_X9_ofGoose at e
  obtain ⟨-, e⟩ := ob_if e
  rw [ixr hp hf hq hk] at e
  exact (Option.some.inj e).symm
theorem mp_puts {g g' : HS} {p f v : Int32} {q k : Nat} (e : f_X9_puts g p f v = some g') (hp : p.toInt = (q : Int)) (hf : f.toInt = (k : Int)) (hq : q < 10) (hk : k < 9) : g' = sA g 0 0 (upd (eA g 0 0) (30 + (9 * q + k)) v) := by
  unfold f_X9_puts at e
  obtain ⟨-, e⟩ := ob_if e
  rw [ixr hp hf hq hk] at e
  exact (Option.some.inj e).symm
theorem mp_isHome {g : HS} {p : Int32} {z : Int32 × HS} (e : f_X9_isHome g p = some z) (r : 0 ≤ (eA g 0 0 1).toInt ∧ (eA g 0 0 1).toInt ≤ 10) : z.2 = g ∧ ((z.1 = 1 ∧ ∃ q : Nat, p.toInt = (q : Int) ∧ (q : Int) < (eA g 0 0 1).toInt ∧ gc (eA g 0 0) 30 q 4 = 0) ∨ (z.1 = 0 ∧ ∀ q : Nat, p.toInt = (q : Int) → (q : Int) < (eA g 0 0 1).toInt → ¬ gc (eA g 0 0) 30 q 4 = 0)) := by
  unfold f_X9_isHome f_X9_isHome_21 f_X9_isHome_22 at e
  obtain ⟨r1, h1, e1, e⟩ := ob2_some e
  obtain ⟨k1, k2⟩ := mp_isGoose e1 r
  have k1 : g = h1 := k1.symm
  subst k1
  have k2 : (r1 = 0 ∧ ¬ (0 ≤ p.toInt ∧ p.toInt < (eA g 0 0 1).toInt)) ∨ (r1 = 1 ∧ 0 ≤ p.toInt ∧ p.toInt < (eA g 0 0 1).toInt) := k2
  rcases k2 with ⟨k2, k3⟩ | ⟨k2, k3, k4⟩
  · rw [if_pos k2] at e
    rw [if_pos (Or.inl rfl)] at e
    cases e
    exact ⟨rfl, Or.inr ⟨rfl, fun q hq h2 => by omega⟩⟩
  · rw [if_neg (by rw [k2]; decide)] at e
    obtain ⟨r3, h3, e3, e⟩ := ob2_some e
    have k := mp_ofGoose (q := p.toInt.toNat) (k := 4) e3 (by omega) rfl (by omega) (by decide)
    have k6 : r3 = gc (eA g 0 0) 30 p.toInt.toNat 4 := congrArg Prod.fst k
    have k7 : g = h3 := (congrArg Prod.snd k).symm
    subst k7
    by_cases c0 : r3 = 0
    · rw [if_pos c0] at e
      rw [if_pos (Or.inr rfl)] at e
      cases e
      exact ⟨rfl, Or.inl ⟨rfl, p.toInt.toNat, by omega, by omega, k6.symm.trans c0⟩⟩
    · rw [if_neg c0] at e
      rw [if_pos (Or.inl rfl)] at e
      cases e
      refine ⟨rfl, Or.inr ⟨rfl, fun q hq _ => ?_⟩⟩
      rw [show q = p.toInt.toNat by omega, ← k6]
      exact c0
/-! quills -/
theorem cp_isLetter {p r : Int32} (e : f_X8_isLetter p = some r) : (r = 0 ∧ ¬ (0 ≤ p.toInt ∧ p.toInt ≤ 5)) ∨ (r = 1 ∧ (0 ≤ p.toInt ∧ p.toInt ≤ 5)) := by
  have y0 : (0 : Int32).toInt = 0 := rfl
  have y6 : (6 : Int32).toInt = 6 := rfl
  unfold f_X8_isLetter f_X8_isLetter_14 f_X8_isLetter_15 at e
  rw [if_pos (Or.inl rfl), if_pos (Or.inr rfl)] at e
  by_cases c : p < 0
  · rw [if_pos c] at e
    have d := gi_of_lt c
    cases e
    exact Or.inl ⟨rfl, by omega⟩
  · rw [if_neg c] at e
    have d := gi_of_nlt c
    by_cases c2 : (6 : Int32) ≤ p
    · rw [if_pos c2] at e
      have d2 := gi_of_le c2
      cases e
      exact Or.inl ⟨rfl, by omega⟩
    · rw [if_neg c2] at e
      have d2 := gi_of_nle c2
      cases e
      exact Or.inr ⟨rfl, by omega, by omega⟩
def QUI (p r : Int32) : Prop := (0 ≤ p.toInt ∧ p.toInt ≤ 5) ∧ (0 ≤ r.toInt ∧ r.toInt ≤ 2)
theorem cp_isQuill {p1 p2 r : Int32} (e : f_X8_isQuill p1 p2 = some r) : (r = 0 ∧ ¬ QUI p1 p2) ∨ (r = 1 ∧ QUI p1 p2) := by
  have y0 : (0 : Int32).toInt = 0 := rfl
  have y3 : (3 : Int32).toInt = 3 := rfl
  unfold f_X8_isQuill f_X8_isQuill_20 f_X8_isQuill_21 at e
  rw [if_pos (Or.inl rfl), if_pos (Or.inr rfl)] at e
  obtain ⟨r1, e1, e⟩ := ob1_some e
  unfold QUI
  rcases cp_isLetter e1 with ⟨k, q⟩ | ⟨k, q⟩
  · rw [if_pos k] at e
    cases e
    exact Or.inl ⟨rfl, fun w => q w.1⟩
  · rw [if_neg (by rw [k]; decide)] at e
    by_cases c : p2 < 0
    · rw [if_pos c] at e
      have d := gi_of_lt c
      cases e
      exact Or.inl ⟨rfl, by omega⟩
    · rw [if_neg c] at e
      have d := gi_of_nlt c
      by_cases c2 : (3 : Int32) ≤ p2
      · rw [if_pos c2] at e
        have d2 := gi_of_le c2
        cases e
        exact Or.inl ⟨rfl, by omega⟩
      · rw [if_neg c2] at e
        have d2 := gi_of_nle c2
        cases e
        exact Or.inr ⟨rfl, q, by omega, by omega⟩
/-! a step is kept -/
def KS (s0 s : Nat → Int32) (a : Nat) (c gr d x : Int32) : Nat → Int32 := upd (upd (upd (upd (va_cpy s0 s 0 a 90) (a + 90) c) (a + 91) gr) (a + 92) d) (a + 93) x
theorem KS_in {s0 s : Nat → Int32} {a i : Nat} {c gr d x : Int32} (h : i < 90) : KS s0 s a c gr d x (a + i) = s0 i := by
  unfold KS upd va_cpy
  rw [if_neg (by omega), if_neg (by omega), if_neg (by omega), if_neg (by omega), if_pos (by omega)]
  congr 1
  omega
theorem KS_90 {s0 s : Nat → Int32} {a : Nat} {c gr d x : Int32} : KS s0 s a c gr d x (a + 90) = c := by
  unfold KS upd va_cpy
  rw [if_neg (by omega), if_neg (by omega), if_neg (by omega), if_pos rfl]
theorem KS_91 {s0 s : Nat → Int32} {a : Nat} {c gr d x : Int32} : KS s0 s a c gr d x (a + 91) = gr := by
  unfold KS upd va_cpy
  rw [if_neg (by omega), if_neg (by omega), if_pos rfl]
theorem KS_92 {s0 s : Nat → Int32} {a : Nat} {c gr d x : Int32} : KS s0 s a c gr d x (a + 92) = d := by
  unfold KS upd va_cpy
  rw [if_neg (by omega), if_pos rfl]
theorem KS_93 {s0 s : Nat → Int32} {a : Nat} {c gr d x : Int32} : KS s0 s a c gr d x (a + 93) = x := by
  unfold KS upd va_cpy
  rw [if_pos rfl]
theorem KS_out {s0 s : Nat → Int32} {a k : Nat} {c gr d x : Int32} (h : k < a ∨ a + 94 ≤ k) : KS s0 s a c gr d x k = s k := by
  unfold KS upd va_cpy
  rw [if_neg (by omega), if_neg (by omega), if_neg (by omega), if_neg (by omega), if_neg (by omega)]
theorem cp_keep35 {h h' : HS} (e : f_X4_keepStep_35 h = some h') (f0 : 0 ≤ (eI h 1 11).toInt ∧ (eI h 1 11).toInt < 20) (n0 : 1 ≤ (eI h 1 12).toInt ∧ (eI h 1 12).toInt ≤ 20) : eA h' 1 2 = KS (eA h 1 0) (eA h 1 2) (((eI h 1 11).toInt.toNat + ((eI h 1 12).toInt.toNat - 1)) % 20 * 94) (eI h 1 3) (eI h 1 5) (eI h 1 7) (eI h 1 8) := by
  have y0 : (0 : Int32).toInt = 0 := rfl
  have y1 : (1 : Int32).toInt = 1 := rfl
  have y2 : (2 : Int32).toInt = 2 := rfl
  have y3 : (3 : Int32).toInt = 3 := rfl
  have y90 : (90 : Int32).toInt = 90 := rfl
  have y94 : (94 : Int32).toInt = 94 := rfl
  have y1880 : (1880 : Int32).toInt = 1880 := rfl
  have a1 := fb_addI (x := eI h 1 11) (y := eI h 1 12) (by omega) (by omega)
  have a2 := fb_subI (x := eI h 1 11 + eI h 1 12) (y := 1) (by omega) (by omega)
  have a3 := md20 (x := eI h 1 11 + eI h 1 12 - 1) (by omega)
  have i3 : (eI h 1 11 + eI h 1 12 - 1).toInt.toNat = (eI h 1 11).toInt.toNat + ((eI h 1 12).toInt.toNat - 1) := by omega
  rw [i3] at a3
  unfold f_X4_keepStep_35 f_X4_keepStep_69 at e
  generalize hm : eI h 1 11 + eI h 1 12 - 1 - (eI h 1 11 + eI h 1 12 - 1) / 20 * 20 = M at e a3
  have a4 : (M * 94).toInt = M.toInt * 94 := fb_mulK rfl (by omega) (by omega)
  generalize hE : M * 94 = E at e a4
  generalize ha : ((eI h 1 11).toInt.toNat + ((eI h 1 12).toInt.toNat - 1)) % 20 = b at a3 ⊢
  have b20 : b < 20 := by rw [← ha]; exact Nat.mod_lt _ (by decide)
  have Ei : E.toInt = ((b * 94 : Nat) : Int) := by omega
  have p94 := fb_addI (x := E) (y := 94) (by omega) (by omega)
  have p90 := fb_addI (x := E) (y := 90) (by omega) (by omega)
  have p91 := fb_addI (x := E + 90) (y := 1) (by omega) (by omega)
  have p92 := fb_addI (x := E + 90) (y := 2) (by omega) (by omega)
  have p93 := fb_addI (x := E + 90) (y := 3) (by omega) (by omega)
  have j0 : E.toNatClampNeg = b * 94 := by show E.toInt.toNat = _; omega
  have j90 : (E + 90).toNatClampNeg = b * 94 + 90 := by show (E + 90).toInt.toNat = _; omega
  have j91 : (E + 90 + 1).toNatClampNeg = b * 94 + 91 := by show (E + 90 + 1).toInt.toNat = _; omega
  have j92 : (E + 90 + 2).toNatClampNeg = b * 94 + 92 := by show (E + 90 + 2).toInt.toNat = _; omega
  have j93 : (E + 90 + 3).toNatClampNeg = b * 94 + 93 := by show (E + 90 + 3).toInt.toNat = _; omega
  rw [if_neg (gi_nlt (by omega)), if_pos (gi_le (by omega))] at e
  obtain ⟨-, e⟩ := ob_if e
  obtain ⟨-, e⟩ := ob_if e
  obtain ⟨-, e⟩ := ob_if e
  obtain ⟨-, e⟩ := ob_if e
  obtain ⟨-, e⟩ := ob_if e
  obtain ⟨-, e⟩ := ob_if e
  rw [j0, j90, j91, j92, j93] at e
  have eh := (Option.some.inj e).symm
  rw [eh]
  rfl
theorem mp_keep53 {N : Nat} (N19 : N ≤ 19) : ∀ (n : Nat) (g g' : HS) (x1 : Int32), f_X9_keepsStep_53 n g x1 = some g' → 0 ≤ x1.toInt → (eA g 0 0 5).toInt = (N : Int) → (∀ k : Nat, ¬ k = 5 → ((k : Int) < 130 + 93 * (N : Int) + x1.toInt ∨ 130 + 93 * N + 93 ≤ k) → eA g' 0 0 k = eA g 0 0 k) ∧ (∀ i : Nat, x1.toInt ≤ (i : Int) → i < 93 → eA g' 0 0 (130 + 93 * N + i) = eA g 0 0 (30 + i)) ∧ eA g' 0 0 5 = eA g 0 0 5 + 1 ∧ Fr [(1, 0, 0)] g g' := by
  have y1 : (1 : Int32).toInt = 1 := rfl
  have y30 : (30 : Int32).toInt = 30 := rfl
  have y93 : (93 : Int32).toInt = 93 := rfl
  have y130 : (130 : Int32).toInt = 130 := rfl
  intro n
  induction n with
  | zero => intro g g' x1 e; cases e
  | succ n ih =>
    intro g g' x1 e h0 hN
    rw [f_X9_keepsStep_53_s] at e
    by_cases c : (93 : Int32) ≤ x1
    · rw [if_pos c] at e
      have d := gi_of_le c
      cases e
      refine ⟨fun k k5 _ => ?_, fun i q1 q2 => by omega, ?_, Fr_sA (by decide) (Fr_refl _ _)⟩
      · show upd (eA g 0 0) 5 (eA g 0 0 5 + 1) k = _
        unfold upd
        rw [if_neg k5]
      · show upd (eA g 0 0) 5 (eA g 0 0 5 + 1) 5 = _
        unfold upd
        rw [if_pos rfl]
    · rw [if_neg c] at e
      have d := gi_of_nle c
      have a1 := fb_addI (x := 30) (y := x1) (by omega) (by omega)
      have a2 := fb_mulJ (x := 93) (y := eA g 0 0 5) (k := 93) rfl (by omega) (by omega)
      have a3 := fb_addI (x := 130) (y := 93 * eA g 0 0 5) (by omega) (by omega)
      have a4 := fb_addI (x := 130 + 93 * eA g 0 0 5) (y := x1) (by omega) (by omega)
      have a5 := fb_addI (x := x1) (y := 1) (by omega) (by omega)
      have j1 : (30 + x1).toNatClampNeg = 30 + x1.toInt.toNat := by show (30 + x1).toInt.toNat = _; omega
      have j2 : (130 + 93 * eA g 0 0 5 + x1).toNatClampNeg = 130 + 93 * N + x1.toInt.toNat := by show (130 + 93 * eA g 0 0 5 + x1).toInt.toNat = _; omega
      obtain ⟨-, e⟩ := ob_if e
      obtain ⟨-, e⟩ := ob_if e
      rw [j1, j2] at e
      have u : ∀ k : Nat, ¬ k = 130 + 93 * N + x1.toInt.toNat → upd (eA g 0 0) (130 + 93 * N + x1.toInt.toNat) (eA g 0 0 (30 + x1.toInt.toNat)) k = eA g 0 0 k := fun k hk => by unfold upd; rw [if_neg hk]
      obtain ⟨k1, k2, k3, k4⟩ := ih _ g' (x1 + 1) e (by omega) (by show (upd (eA g 0 0) (130 + 93 * N + x1.toInt.toNat) (eA g 0 0 (30 + x1.toInt.toNat)) 5).toInt = _; rw [u 5 (by omega)]; exact hN)
      have k1 : ∀ k : Nat, ¬ k = 5 → ((k : Int) < 130 + 93 * (N : Int) + (x1 + 1).toInt ∨ 130 + 93 * N + 93 ≤ k) → eA g' 0 0 k = upd (eA g 0 0) (130 + 93 * N + x1.toInt.toNat) (eA g 0 0 (30 + x1.toInt.toNat)) k := k1
      have k2 : ∀ i : Nat, (x1 + 1).toInt ≤ (i : Int) → i < 93 → eA g' 0 0 (130 + 93 * N + i) = upd (eA g 0 0) (130 + 93 * N + x1.toInt.toNat) (eA g 0 0 (30 + x1.toInt.toNat)) (30 + i) := k2
      have k3 : eA g' 0 0 5 = upd (eA g 0 0) (130 + 93 * N + x1.toInt.toNat) (eA g 0 0 (30 + x1.toInt.toNat)) 5 + 1 := k3
      refine ⟨fun k k5 q => ?_, fun i q1 q2 => ?_, ?_, Fr_trans (Fr_sA (by decide) (Fr_refl _ _)) k4⟩
      · rw [k1 k k5 (by omega), u k (by omega)]
      · by_cases ci : (i : Int) = x1.toInt
        · rw [k1 (130 + 93 * N + i) (by omega) (by omega)]
          unfold upd
          rw [if_pos (by omega), show x1.toInt.toNat = i by omega]
        · rw [k2 i (by omega) q2, u _ (by omega)]
      · rw [k3, u 5 (by omega)]
theorem mp_keep15 : ∀ (n : Nat) (g g' : HS) (x1 : Int32), f_X9_keepsStep_15 n g x1 = some g' → 130 ≤ x1.toInt → x1.toInt ≤ 1897 → ∃ g1 : HS, f_X9_keepsStep_51 g1 = some g' ∧ eA g1 0 0 5 = 19 ∧ (∀ k : Nat, ¬ k = 5 → ((k : Int) < x1.toInt ∨ 1897 ≤ k) → eA g1 0 0 k = eA g 0 0 k) ∧ (∀ k : Nat, x1.toInt ≤ (k : Int) → k < 1897 → eA g1 0 0 k = eA g 0 0 (k + 93)) ∧ Fr [(1, 0, 0)] g g1 := by
  have y1 : (1 : Int32).toInt = 1 := rfl
  have y93 : (93 : Int32).toInt = 93 := rfl
  have y1897 : (1897 : Int32).toInt = 1897 := rfl
  intro n
  induction n with
  | zero => intro g g' x1 e; cases e
  | succ n ih =>
    intro g g' x1 e h0 h1
    rw [f_X9_keepsStep_15_s] at e
    by_cases c : (1897 : Int32) ≤ x1
    · rw [if_pos c] at e
      have d := gi_of_le c
      refine ⟨_, e, ?_, fun k k5 _ => ?_, fun i q1 q2 => by omega, Fr_sA (by decide) (Fr_refl _ _)⟩
      · show upd (eA g 0 0) 5 19 5 = _
        unfold upd
        rw [if_pos rfl]
      · show upd (eA g 0 0) 5 19 k = _
        unfold upd
        rw [if_neg k5]
    · rw [if_neg c] at e
      have d := gi_of_nle c
      have a1 := fb_addI (x := x1) (y := 93) (by omega) (by omega)
      have a5 := fb_addI (x := x1) (y := 1) (by omega) (by omega)
      have j1 : (x1 + 93).toNatClampNeg = x1.toInt.toNat + 93 := by show (x1 + 93).toInt.toNat = _; omega
      have j2 : x1.toNatClampNeg = x1.toInt.toNat := rfl
      obtain ⟨-, e⟩ := ob_if e
      obtain ⟨-, e⟩ := ob_if e
      rw [j1, j2] at e
      have u : ∀ k : Nat, ¬ k = x1.toInt.toNat → upd (eA g 0 0) x1.toInt.toNat (eA g 0 0 (x1.toInt.toNat + 93)) k = eA g 0 0 k := fun k hk => by unfold upd; rw [if_neg hk]
      obtain ⟨g1, k0, k1, k2, k3, k4⟩ := ih _ g' (x1 + 1) e (by omega) (by omega)
      have k2 : ∀ k : Nat, ¬ k = 5 → ((k : Int) < (x1 + 1).toInt ∨ 1897 ≤ k) → eA g1 0 0 k = upd (eA g 0 0) x1.toInt.toNat (eA g 0 0 (x1.toInt.toNat + 93)) k := k2
      have k3 : ∀ k : Nat, (x1 + 1).toInt ≤ (k : Int) → k < 1897 → eA g1 0 0 k = upd (eA g 0 0) x1.toInt.toNat (eA g 0 0 (x1.toInt.toNat + 93)) (k + 93) := k3
      refine ⟨g1, k0, k1, fun k k5 q => ?_, fun k q1 q2 => ?_, Fr_trans (Fr_sA (by decide) (Fr_refl _ _)) k4⟩
      · rw [k2 k k5 (by omega), u k (by omega)]
      · by_cases ci : (k : Int) = x1.toInt
        · rw [k2 k (by omega) (by omega)]
          unfold upd
          rw [if_pos (by omega), show x1.toInt.toNat = k by omega]
        · rw [k3 k (by omega) q2, u _ (by omega)]
/-! rows in a ring against rows in a line -/
theorem steps_app {s0 s A B : Nat → Int32} {f n : Nat} {c gr d x : Int32} (x0 : STEPS s A f n) (n19 : n ≤ 19) (r1 : 0 ≤ (A 1).toInt ∧ (A 1).toInt ≤ 10) (ge : GEE s0 A) (hc : c = A 1) (hg : gr = A 120) (hd : d = A 121) (hx : x = A 122) (b1 : ∀ k : Nat, ¬ k = 5 → (k < 130 + 93 * n ∨ 130 + 93 * n + 93 ≤ k) → B k = A k) (b2 : ∀ i : Nat, i < 93 → B (130 + 93 * n + i) = A (30 + i)) : STEPS (KS s0 s ((f + n) % 20 * 94) c gr d x) B f (n + 1) ∧ KS s0 s ((f + n) % 20 * 94) c gr d x ((f + n) % 20 * 94 + 90) = B 1 := by
  have e1 : B 1 = A 1 := b1 1 (by decide) (by omega)
  refine ⟨fun j hj => ?_, by rw [KS_90, e1, hc]⟩
  by_cases cj : j = n
  · subst cj
    refine ⟨?_, fun i hi => ?_, fun i q1 q2 => ?_, ?_, ?_, ?_⟩
    · rw [KS_90, hc, e1]; omega
    · rw [KS_90, hc] at hi
      rw [KS_in (by omega), b2 i (by omega)]
      exact ge i hi
    · rw [KS_90, hc] at q1
      rw [e1] at q2
      omega
    · rw [KS_91, b2 90 (by decide), hg]
    · rw [KS_92, b2 91 (by decide), hd]
    · rw [KS_93, b2 92 (by decide), hx]
  · have jn : j < n := by omega
    obtain ⟨x1, x2, x3, x4, x5, x6⟩ := x0 j jn
    have far : ∀ i : Nat, i < 94 → KS s0 s ((f + n) % 20 * 94) c gr d x ((f + j) % 20 * 94 + i) = s ((f + j) % 20 * 94 + i) := by
      intro i hi
      apply KS_out
      have : ¬ (f + j) % 20 = (f + n) % 20 := by omega
      omega
    have bj : ∀ i : Nat, i < 93 → B (130 + 93 * j + i) = A (130 + 93 * j + i) := fun i hi => b1 _ (by omega) (by omega)
    refine ⟨?_, fun i hi => ?_, fun i q1 q2 => ?_, ?_, ?_, ?_⟩
    · rw [far 90 (by decide), e1]; exact x1
    · rw [far 90 (by decide)] at hi
      rw [far i (by omega), bj i (by omega)]
      exact x2 i hi
    · rw [far 90 (by decide)] at q1
      rw [e1] at q2
      rw [bj i (by omega), x3 i q1 q2]
      unfold nxr
      rw [if_pos (show j + 1 < n + 1 by omega)]
      by_cases c1 : j + 1 < n
      · rw [if_pos c1]; exact (b1 _ (by omega) (by omega)).symm
      · rw [if_neg c1, show j + 1 = n by omega]
        exact (b2 i (by omega)).symm
    · rw [far 91 (by decide), bj 90 (by decide)]; exact x4
    · rw [far 92 (by decide), bj 91 (by decide)]; exact x5
    · rw [far 93 (by decide), bj 92 (by decide)]; exact x6
theorem steps_drop {s A B : Nat → Int32} {f : Nat} (x0 : STEPS s A f 20) (r1 : (A 1).toInt ≤ 10) (b1 : ∀ k : Nat, ¬ k = 5 → (k < 130 ∨ 1897 ≤ k) → B k = A k) (b2 : ∀ k : Nat, 130 ≤ k → k < 1897 → B k = A (k + 93)) : STEPS s B ((f + 1) % 20) 19 := by
  have e1 : B 1 = A 1 := b1 1 (by decide) (by omega)
  intro j hj
  obtain ⟨x1, x2, x3, x4, x5, x6⟩ := x0 (j + 1) (by omega)
  have sl : ((f + 1) % 20 + j) % 20 = (f + (j + 1)) % 20 := by omega
  rw [sl]
  have bj : ∀ i : Nat, i < 93 → B (130 + 93 * j + i) = A (130 + 93 * (j + 1) + i) := fun i hi => by
    rw [b2 _ (by omega) (by omega), show 130 + 93 * j + i + 93 = 130 + 93 * (j + 1) + i by omega]
  refine ⟨by rw [e1]; exact x1, fun i hi => ?_, fun i q1 q2 => ?_, by rw [bj 90 (by decide)]; exact x4, by rw [bj 91 (by decide)]; exact x5, by rw [bj 92 (by decide)]; exact x6⟩
  · rw [bj i (by omega)]; exact x2 i hi
  · rw [e1] at q2
    rw [bj i (by omega), x3 i q1 q2]
    unfold nxr
    by_cases c : j + 1 < 19
    · rw [if_pos (show j + 1 + 1 < 20 by omega), if_pos c, b2 (130 + 93 * (j + 1) + i) (by omega) (by omega), show 130 + 93 * (j + 1) + i + 93 = 130 + 93 * (j + 1 + 1) + i by omega]
    · rw [if_neg (show ¬ j + 1 + 1 < 20 by omega), if_neg c]
      exact (b1 _ (by omega) (by omega)).symm
/-! a step is kept by both -/
def KEPT (h h' g g' : HS) : Prop := SRel h' 1 (eA g' 0 0) ∧ RG (eA g' 0 0) ∧ SFul h' (eA g' 0 0) ∧ (∀ k : Nat, k < 130 → ¬ k = 5 → eA g' 0 0 k = eA g 0 0 k) ∧ Fr [(1, 1, 2), (0, 1, 11), (0, 1, 12)] h h' ∧ Fr [(1, 0, 0)] g g'
theorem rg_app {A B : Nat → Int32} {n : Nat} (rg : RG A) (n19 : n ≤ 19) (hn : (A 5).toInt = (n : Int)) (b1 : ∀ k : Nat, ¬ k = 5 → (k < 130 + 93 * n ∨ 130 + 93 * n + 93 ≤ k) → B k = A k) (b2 : ∀ i : Nat, i < 93 → B (130 + 93 * n + i) = A (30 + i)) (b5 : B 5 = A 5 + 1) : RG B := by
  have y1 : (1 : Int32).toInt = 1 := rfl
  obtain ⟨r1, r2, r3, r4⟩ := rg
  have a5 := fb_addI (x := A 5) (y := 1) (by omega) (by omega)
  have E : ∀ k : Nat, k < 130 → ¬ k = 5 → B k = A k := fun k hk k5 => b1 k k5 (by omega)
  have n1 := r1.1
  refine ⟨?_, ?_, ?_, ?_⟩
  · unfold RN at *
    rw [E 1 (by decide) (by decide), E 0 (by decide) (by decide), E 2 (by decide) (by decide), E 3 (by decide) (by decide), E 4 (by decide) (by decide), b5]
    omega
  · intro m hm
    have r02 := r1.2.1
    rw [E 0 (by decide) (by decide)] at hm
    rw [E _ (by omega) (by omega), E _ (by omega) (by omega), E _ (by omega) (by omega)]
    exact r2 m hm
  · exact RW_eq r3 (fun k hk => E _ (by omega) (by omega)) (E 1 (by decide) (by decide)) n1.2 (by rw [E 0 (by decide) (by decide)]; exact Int.le_refl _)
  · intro j hj
    rw [b5] at hj
    by_cases c : j = n
    · subst c
      exact RW_eq r3 b2 (E 1 (by decide) (by decide)) n1.2 (by rw [E 0 (by decide) (by decide)]; exact Int.le_refl _)
    · exact RW_eq (r4 j (by omega)) (fun k hk => b1 _ (by omega) (by omega)) (E 1 (by decide) (by decide)) n1.2 (by rw [E 0 (by decide) (by decide)]; exact Int.le_refl _)
theorem rg_drop {A B : Nat → Int32} (rg : RG A) (hn : (A 5).toInt = 20) (b5 : B 5 = 19) (b1 : ∀ k : Nat, ¬ k = 5 → (k < 130 ∨ 1897 ≤ k) → B k = A k) (b2 : ∀ k : Nat, 130 ≤ k → k < 1897 → B k = A (k + 93)) : RG B := by
  have y19 : (19 : Int32).toInt = 19 := rfl
  obtain ⟨r1, r2, r3, r4⟩ := rg
  have E : ∀ k : Nat, k < 130 → ¬ k = 5 → B k = A k := fun k hk k5 => b1 k k5 (by omega)
  have n1 := r1.1
  refine ⟨?_, ?_, ?_, ?_⟩
  · unfold RN at *
    rw [E 1 (by decide) (by decide), E 0 (by decide) (by decide), E 2 (by decide) (by decide), E 3 (by decide) (by decide), E 4 (by decide) (by decide), b5]
    omega
  · intro m hm
    have r02 := r1.2.1
    rw [E 0 (by decide) (by decide)] at hm
    rw [E _ (by omega) (by omega), E _ (by omega) (by omega), E _ (by omega) (by omega)]
    exact r2 m hm
  · exact RW_eq r3 (fun k hk => E _ (by omega) (by omega)) (E 1 (by decide) (by decide)) n1.2 (by rw [E 0 (by decide) (by decide)]; exact Int.le_refl _)
  · intro j hj
    rw [b5] at hj
    refine RW_eq (r4 (j + 1) (by omega)) (fun k hk => ?_) (E 1 (by decide) (by decide)) n1.2 (by rw [E 0 (by decide) (by decide)]; exact Int.le_refl _)
    rw [b2 _ (by omega) (by omega), show 130 + 93 * j + k + 93 = 130 + 93 * (j + 1) + k by omega]
theorem j_keep {h h' g g' : HS} (sr : SRel h 1 (eA g 0 0)) (rg : RG (eA g 0 0)) (e1 : f_X4_keepStep h = some h') (e2 : f_X9_keepsStep g = some g') : KEPT h h' g g' := by
  have y1 : (1 : Int32).toInt = 1 := rfl
  have y19 : (19 : Int32).toInt = 19 := rfl
  have y20 : (20 : Int32).toInt = 20 := rfl
  have z0 : (0 : Int32).toInt = 0 := rfl
  obtain ⟨⟨s1, s2, s3, s4, s5, s6, s7, s8, s9⟩, ge, mk, f0, st⟩ := sr
  obtain ⟨⟨n1, n0, n5, n3, n4, n2⟩, -⟩ := id rg
  have d9 := gi_of_eq s9
  -- the append, from a first row f and n rows
  have app : ∀ (hk : HS) (g1 : HS) (n : Nat), f_X4_keepStep_35 hk = some h' → f_X9_keepsStep_51 g1 = some g' → n ≤ 19 → (eA g1 0 0 5).toInt = (n : Int) → (eI hk 1 12).toInt = (n : Int) + 1 → (0 ≤ (eI hk 1 11).toInt ∧ (eI hk 1 11).toInt < 20) → Fr [(0, 1, 11), (0, 1, 12)] h hk → Fr [(1, 0, 0)] g g1 → RG (eA g1 0 0) → (∀ k : Nat, k < 130 → ¬ k = 5 → eA g1 0 0 k = eA g 0 0 k) → STEPS (eA hk 1 2) (eA g1 0 0) (eI hk 1 11).toInt.toNat n → KEPT h h' g g' := by
    intro hk g1 n e35 e51 n19 hn hc hf fk fg rg1 E1 st1
    have k0 := cp_keep35 e35 hf (by omega)
    have fr := w_f_X4_keepStep_35 _ _ e35
    unfold f_X9_keepsStep_51 at e51
    obtain ⟨b1, b2, b3, b4⟩ := mp_keep53 (N := n) n19 _ g1 g' 0 e51 (by decide) hn
    have b1 : ∀ k : Nat, ¬ k = 5 → (k < 130 + 93 * n ∨ 130 + 93 * n + 93 ≤ k) → eA g' 0 0 k = eA g1 0 0 k := fun k k5 q => b1 k k5 (by omega)
    have b2 : ∀ i : Nat, i < 93 → eA g' 0 0 (130 + 93 * n + i) = eA g1 0 0 (30 + i) := fun i hi => b2 i (by omega) hi
    have a5 := fb_addI (x := eA g1 0 0 5) (y := 1) (by omega) (by omega)
    have E : ∀ k : Nat, k < 130 → ¬ k = 5 → eA g' 0 0 k = eA g 0 0 k := fun k hk2 k5 => (b1 k k5 (by omega)).trans (E1 k hk2 k5)
    have q11 : eI h' 1 11 = eI hk 1 11 := fr.1 1 11 (by decide)
    have q12 : eI h' 1 12 = eI hk 1 12 := fr.1 1 12 (by decide)
    have I : ∀ k : Nat, ¬ k = 11 → ¬ k = 12 → eI h' 1 k = eI h 1 k := by
      intro k c11 c12
      rw [fr.1 1 k (by unfold S_X4_keepStep_35; simp), fk.1 1 k (by simp; omega)]
    have G0 : eA h' 1 0 = eA h 1 0 := by rw [fr.2.1 1 0 (by decide), fk.2.1 1 0 (by decide)]
    have G1 : eA h' 1 1 = eA h 1 1 := by rw [fr.2.1 1 1 (by decide), fk.2.1 1 1 (by decide)]
    have hk0 : eA hk 1 0 = eA h 1 0 := fk.2.1 1 0 (by decide)
    have N5 : (eA g' 0 0 5).toInt.toNat = n + 1 := by rw [b3]; omega
    have cn : (eI hk 1 12).toInt.toNat - 1 = n := by omega
    rw [cn] at k0
    have ge1 : GEE (eA hk 1 0) (eA g1 0 0) := by
      intro i hi
      rw [E1 1 (by decide) (by decide)] at hi
      rw [hk0, E1 _ (by omega) (by omega)]
      exact ge i hi
    obtain ⟨w1, w2⟩ := steps_app st1 n19 rg1.1.1 ge1 ((fk.1 1 3 (by decide)).trans (s1.trans (E1 1 (by decide) (by decide)).symm)) ((fk.1 1 5 (by decide)).trans (s3.trans (E1 120 (by decide) (by decide)).symm)) ((fk.1 1 7 (by decide)).trans (s5.trans (E1 121 (by decide) (by decide)).symm)) ((fk.1 1 8 (by decide)).trans (s6.trans (E1 122 (by decide) (by decide)).symm)) b1 b2
    rw [← k0] at w1 w2
    refine ⟨⟨⟨?_, ?_, ?_, ?_, ?_, ?_, ?_, ?_, ?_⟩, ?_, ?_, ?_, ?_⟩, rg_app rg1 n19 hn b1 b2 b3, ?_, E, ?_, ?_⟩
    · rw [I 3 (by decide) (by decide), E 1 (by decide) (by decide)]; exact s1
    · rw [I 4 (by decide) (by decide), E 0 (by decide) (by decide)]; exact s2
    · rw [I 5 (by decide) (by decide), E 120 (by decide) (by decide)]; exact s3
    · rw [I 6 (by decide) (by decide), E 2 (by decide) (by decide)]; exact s4
    · rw [I 7 (by decide) (by decide), E 121 (by decide) (by decide)]; exact s5
    · rw [I 8 (by decide) (by decide), E 122 (by decide) (by decide)]; exact s6
    · rw [I 9 (by decide) (by decide), E 3 (by decide) (by decide)]; exact s7
    · rw [I 10 (by decide) (by decide), E 4 (by decide) (by decide)]; exact s8
    · rw [q12, b3]; exact gi_eq (by omega)
    · rw [G0]
      intro i hi
      rw [E 1 (by decide) (by decide)] at hi
      rw [E _ (by omega) (by omega)]
      exact ge i hi
    · rw [G1]
      intro i hi
      rw [E 0 (by decide) (by decide)] at hi
      rw [E _ (by omega) (by omega)]
      exact mk i hi
    · rw [q11]; exact hf
    · rw [q11, N5]; exact w1
    · unfold SFul
      rw [q11, N5]
      exact ⟨by omega, w2⟩
    · exact Fr_trans (Fr_mono (by decide) fk) (Fr_mono (by decide) fr)
    · exact Fr_trans fg b4
  unfold f_X4_keepStep at e1
  unfold f_X9_keepsStep at e2
  by_cases c : eA g 0 0 5 = 20
  · have dc := gi_of_eq c
    rw [if_pos c] at e2
    rw [if_pos (gi_le (by omega))] at e1
    obtain ⟨g1, k0, k1, k2, k3, k4⟩ := mp_keep15 _ g g' 130 e2 (by decide) (by decide)
    have d1 := gi_of_eq k1
    have k2 : ∀ k : Nat, ¬ k = 5 → (k < 130 ∨ 1897 ≤ k) → eA g1 0 0 k = eA g 0 0 k := fun k k5 q => k2 k k5 (by have : (130 : Int32).toInt = 130 := rfl; omega)
    have k3 : ∀ k : Nat, 130 ≤ k → k < 1897 → eA g1 0 0 k = eA g 0 0 (k + 93) := fun k q1 q2 => k3 k (by have : (130 : Int32).toInt = 130 := rfl; omega) q2
    have a1 := fb_addI (x := eI h 1 11) (y := 1) (by omega) (by omega)
    have m := md20 (x := eI h 1 11 + 1) (by omega)
    have st20 : STEPS (eA h 1 2) (eA g 0 0) (eI h 1 11).toInt.toNat 20 := by
      have : (eA g 0 0 5).toInt.toNat = 20 := by omega
      rw [this] at st
      exact st
    have dr := steps_drop st20 n1.2 k2 k3
    have fx : (eI (sI h 1 11 (eI h 1 11 + 1 - (eI h 1 11 + 1) / 20 * 20)) 1 11).toInt.toNat = ((eI h 1 11).toInt.toNat + 1) % 20 := by
      show (eI h 1 11 + 1 - (eI h 1 11 + 1) / 20 * 20).toInt.toNat = _
      rw [m, show (eI h 1 11 + 1).toInt.toNat = (eI h 1 11).toInt.toNat + 1 by omega]
      omega
    refine app _ g1 19 e1 k0 (by decide) d1 ?_ ?_ (Fr_sI (by decide) (Fr_refl _ _)) k4 (rg_drop rg dc k1 k2 k3) (fun k hk k5 => k2 k k5 (Or.inl hk)) ?_
    · show (eI h 1 12).toInt = _; omega
    · show 0 ≤ (eI h 1 11 + 1 - (eI h 1 11 + 1) / 20 * 20).toInt ∧ (eI h 1 11 + 1 - (eI h 1 11 + 1) / 20 * 20).toInt < 20
      have := Nat.mod_lt (eI h 1 11 + 1).toInt.toNat (show 0 < 20 by decide)
      omega
    · rw [fx]; exact dr
  · have dc := gi_of_ne c
    rw [if_neg c] at e2
    rw [if_neg (gi_nle (by omega))] at e1
    have a1 := fb_addI (x := eI h 1 12) (y := 1) (by omega) (by omega)
    refine app _ g (eA g 0 0 5).toInt.toNat e1 e2 (by omega) (by omega) ?_ f0 (Fr_sI (by decide) (Fr_refl _ _)) (Fr_refl _ _) rg (fun _ _ _ => rfl) st
    show (eI h 1 12 + 1).toInt = _
    omega
/-! one goose is changed, after a step was kept -/
theorem gc_upd_ne {A : Nat → Int32} {a b q k : Nat} {v : Int32} (n : ¬ b + (9 * q + k) = a) : gc (upd A a v) b q k = gc A b q k := by
  unfold gc upd
  rw [if_neg n]
theorem gc_upd_eq {A : Nat → Int32} {b q k : Nat} {v : Int32} : gc (upd A (b + (9 * q + k)) v) b q k = v := by
  unfold gc upd
  rw [if_pos rfl]
/-- ranges after a change of the row of now alone, in one goose, the grain and the day -/
theorem RG_edit {A B : Nat → Int32} {q : Nat} (rg : RG A) (lo : ∀ k : Nat, k < 30 → B k = A k) (hi : ∀ k : Nat, 130 ≤ k → B k = A k) (oth : ∀ p k : Nat, k < 9 → ¬ p = q → (p : Int) < (A 1).toInt → gc B 30 p k = gc A 30 p k) (gr : (q : Int) < (A 1).toInt → GR B 30 q (A 0).toInt) (g0 : 0 ≤ (B 120).toInt) (d0 : 0 ≤ (B 121).toInt ∧ (B 121).toInt ≤ 999) : RG B := by
  obtain ⟨r1, r2, r3, r4⟩ := rg
  have n1 := r1.1
  have n0 := r1.2.1
  refine ⟨?_, ?_, ⟨g0, d0, fun p hp => ?_⟩, ?_⟩
  · unfold RN at *
    rw [lo 1 (by decide), lo 0 (by decide), lo 2 (by decide), lo 3 (by decide), lo 4 (by decide), lo 5 (by decide)]
    exact r1
  · intro m hm
    rw [lo 0 (by decide)] at hm
    rw [lo _ (by omega), lo _ (by omega), lo _ (by omega)]
    exact r2 m hm
  · rw [lo 1 (by decide)] at hp
    rw [lo 0 (by decide)]
    by_cases c : p = q
    · subst c; exact gr hp
    · exact GR_eq (r3.2.2 p hp) (fun k hk => oth p k hk c hp) (Int.le_refl _)
  · intro j hj
    rw [lo 5 (by decide)] at hj
    exact RW_eq (r4 j hj) (fun k hk => hi _ (by omega)) (lo 1 (by decide)) n1.2 (by rw [lo 0 (by decide)]; exact Int.le_refl _)
/-- the relation after a change of the row of now, where the last row kept is of all geese -/
theorem SR_edit {h h' : HS} {A B : Nat → Int32} (sr : SRel h 1 A) (fu : SFul h A) (n1 : (A 1).toInt ≤ 10) (lo : ∀ k : Nat, k < 30 → B k = A k) (hi : ∀ k : Nat, 130 ≤ k → B k = A k) (e2 : eA h' 1 2 = eA h 1 2) (e11 : eI h' 1 11 = eI h 1 11) (e1 : eA h' 1 1 = eA h 1 1) (i3 : eI h' 1 3 = eI h 1 3) (i4 : eI h' 1 4 = eI h 1 4) (i5 : eI h' 1 5 = B 120) (i6 : eI h' 1 6 = eI h 1 6) (i7 : eI h' 1 7 = B 121) (i8 : eI h' 1 8 = B 122) (i9 : eI h' 1 9 = eI h 1 9) (i10 : eI h' 1 10 = eI h 1 10) (i12 : eI h' 1 12 = eI h 1 12) (ge : GEE (eA h' 1 0) B) (n0 : (A 0).toInt ≤ 4) : SRel h' 1 B ∧ SFul h' B := by
  obtain ⟨⟨s1, s2, s3, s4, s5, s6, s7, s8, s9⟩, -, mk, f0, st⟩ := sr
  unfold SFul at *
  refine ⟨⟨⟨?_, ?_, i5, ?_, i7, i8, ?_, ?_, ?_⟩, ge, ?_, ?_, ?_⟩, ?_⟩
  · rw [i3, lo 1 (by decide)]; exact s1
  · rw [i4, lo 0 (by decide)]; exact s2
  · rw [i6, lo 2 (by decide)]; exact s4
  · rw [i9, lo 3 (by decide)]; exact s7
  · rw [i10, lo 4 (by decide)]; exact s8
  · rw [i12, lo 5 (by decide)]; exact s9
  · rw [e1]
    intro i hi2
    rw [lo 0 (by decide)] at hi2
    rw [lo _ (by omega)]
    exact mk i hi2
  · rw [e11]; exact f0
  · rw [e2, e11, lo 5 (by decide)]
    exact STEPS_congr st (lo 1 (by decide)) (fun k hk _ => hi k hk) n1 (Or.inl fu)
  · rw [e2, e11, lo 5 (by decide)]
    exact ⟨fu.1, fu.2.trans (lo 1 (by decide)).symm⟩
/-! the relation, and what it says of single cells -/
theorem sr_g {h g : HS} (sr : SRel h 1 (eA g 0 0)) {q k : Nat} (hq : (q : Int) < (eA g 0 0 1).toInt) (hk : k < 9) : eA h 1 0 (9 * q + k) = gc (eA g 0 0) 30 q k := sr.2.1 (9 * q + k) (by omega)
theorem sr_m {h g : HS} (sr : SRel h 1 (eA g 0 0)) {q k : Nat} (hq : (q : Int) < (eA g 0 0 0).toInt) (hk : k < 3) : eA h 1 1 (3 * q + k) = eA g 0 0 (10 + (3 * q + k)) := sr.2.2.1 (3 * q + k) (by omega)
/-- what a change of state must show -/
def DONE (h g : HS) (z w : Int32 × HS) : Prop := z.1 = w.1 ∧ SRel z.2 1 (eA w.2 0 0) ∧ RG (eA w.2 0 0)
theorem DONE_no {h g : HS} {r : Int32} (sr : SRel h 1 (eA g 0 0)) (rg : RG (eA g 0 0)) : DONE h g (r, h) (r, g) := ⟨rfl, sr, rg⟩
theorem j_name {h g : HS} {p : Int32} {z w : Int32 × HS} (sr : SRel h 1 (eA g 0 0)) (rg : RG (eA g 0 0)) (e1 : f_X8_name h p = some z) (e2 : f_X9_name g p = some w) : DONE h g z w := by
  have y0 : (0 : Int32).toInt = 0 := rfl
  have y1 : (1 : Int32).toInt = 1 := rfl
  obtain ⟨⟨n1, n0, -⟩, -, rw0, -⟩ := id rg
  have s3 : eI h 1 3 = eA g 0 0 1 := sr.1.1
  unfold f_X8_name at e1
  obtain ⟨r1, h1, a1, e1⟩ := ob2_some e1
  obtain ⟨k1, k2⟩ := cp_isFree a1 (by rw [s3]; exact n1.2)
  have k1 : h = h1 := k1.symm
  subst k1
  unfold f_X9_name f_X9_name_19 at e2
  obtain ⟨r2, g2, a2, e2⟩ := ob2_some e2
  obtain ⟨m1, m2⟩ := mp_isHome a2 n1
  have m1 : g = g2 := m1.symm
  subst m1
  rw [s3] at k2
  rcases m2 with ⟨m2, q, q1, q2, q3⟩ | ⟨m2, m3⟩
  · have m2 : r2 = 1 := m2
    rw [if_neg (by rw [m2]; decide)] at e2
    obtain ⟨r3, g3, a3, e2⟩ := ob2_some e2
    have t := mp_ofGoose (q := q) (k := 8) a3 q1 rfl (by omega) (by decide)
    have t1 : r3 = gc (eA g 0 0) 30 q 8 := congrArg Prod.fst t
    have t2 : g = g3 := (congrArg Prod.snd t).symm
    subst t2
    have gr := rw0.2.2 q q2
    have c4 := sr_g sr q2 (show 4 < 9 by decide)
    have c8 := sr_g sr q2 (show 8 < 9 by decide)
    by_cases c : r3 = 1
    · rw [if_pos c] at e2
      cases e2
      rcases k2 with ⟨-, q', q1', -, -, k4⟩ | ⟨k2, -⟩
      · rw [show q' = q by omega, c8, ← t1, c] at k4
        exact absurd k4 (by decide)
      · have k2 : r1 = 0 := k2
        rw [if_pos k2] at e1
        cases e1
        exact DONE_no sr rg
    · rw [if_neg c] at e2
      have z8 : gc (eA g 0 0) 30 q 8 = 0 := by
        rw [t1] at c
        have dc := gi_of_ne c
        unfold GR at gr
        exact gi_eq (by omega)
      rcases k2 with ⟨k2, -⟩ | ⟨-, k3⟩
      · have k2 : r1 = 1 := k2
        rw [if_neg (by rw [k2]; decide)] at e1
        obtain ⟨h3, b3, e1⟩ := ob1_some e1
        obtain ⟨h4, b4, e1⟩ := ob1_some e1
        cases e1
        obtain ⟨g5, a5, e2⟩ := ob1_some e2
        obtain ⟨g6, a6, e2⟩ := ob1_some e2
        cases e2
        obtain ⟨t1, t2, t3, t4, t5, t6⟩ := j_keep sr rg b3 a5
        have s1 : eA g5 0 0 1 = eA g 0 0 1 := t4 1 (by decide) (by decide)
        have h13 : eI h3 1 3 = eA g5 0 0 1 := t1.1.1
        have hE := cp_setGoose (q := q) (k := 8) b4 q1 rfl (by rw [h13, s1]; exact q2) (by rw [h13, s1]; exact n1.2) (by decide)
        have gE := mp_puts (q := q) (k := 8) a6 q1 rfl (by omega) (by decide)
        subst hE
        subst gE
        have n15 : (eA g5 0 0 1).toInt ≤ 10 := by rw [s1]; exact n1.2
        have u : ∀ k : Nat, ¬ k = 30 + (9 * q + 8) → upd (eA g5 0 0) (30 + (9 * q + 8)) 1 k = eA g5 0 0 k := fun k hk => by unfold upd; rw [if_neg hk]
        have sc := t1.1
        refine ⟨rfl, (SR_edit (h := h3) (h' := sA h3 1 0 (upd (eA h3 1 0) (9 * q + 8) 1)) t1 t3 n15 (fun k hk => u k (by omega)) (fun k hk => u k (by omega)) rfl rfl rfl rfl rfl (sc.2.2.1.trans (u 120 (by omega)).symm) rfl (sc.2.2.2.2.1.trans (u 121 (by omega)).symm) (sc.2.2.2.2.2.1.trans (u 122 (by omega)).symm) rfl rfl rfl (GEE_upd t1.2.1 (by omega)) t2.1.2.1.2).1, ?_⟩
        refine RG_edit (q := q) t2 (fun k hk => u k (by omega)) (fun k hk => u k (by omega)) (fun p k hk hp _ => gc_upd_ne (by omega)) (fun hq => ?_) ?_ ?_
        · have gr5 := t2.2.2.1.2.2 q hq
          unfold GR at gr5 ⊢
          show _
          rw [show eA (sA g5 0 0 (upd (eA g5 0 0) (30 + (9 * q + 8)) 1)) 0 0 = upd (eA g5 0 0) (30 + (9 * q + 8)) 1 from rfl]
          rw [gc_upd_ne (k := 0) (by omega), gc_upd_ne (k := 1) (by omega), gc_upd_ne (k := 2) (by omega), gc_upd_ne (k := 3) (by omega), gc_upd_ne (k := 4) (by omega), gc_upd_ne (k := 5) (by omega), gc_upd_ne (k := 6) (by omega), gc_upd_ne (k := 7) (by omega), gc_upd_eq]
          omega
        · show 0 ≤ (upd (eA g5 0 0) (30 + (9 * q + 8)) 1 120).toInt
          rw [u 120 (by omega)]; exact t2.2.2.1.1
        · show 0 ≤ (upd (eA g5 0 0) (30 + (9 * q + 8)) 1 121).toInt ∧ (upd (eA g5 0 0) (30 + (9 * q + 8)) 1 121).toInt ≤ 999
          rw [u 121 (by omega)]; exact t2.2.2.1.2.1
      · exact absurd ⟨c4.trans q3, c8.trans z8⟩ (k3 q q1 q2)
  · have m2 : r2 = 0 := m2
    rw [if_pos m2] at e2
    cases e2
    rcases k2 with ⟨-, q', q1', q2', k4, -⟩ | ⟨k2, -⟩
    · exact absurd ((sr_g sr q2' (show 4 < 9 by decide)).symm.trans k4) (m3 q' q1' q2')
    · have k2 : r1 = 0 := k2
      rw [if_pos k2] at e1
      cases e1
      exact DONE_no sr rg
/-! the deeds -/
theorem FIN {h3 h' g5 : HS} {B : Nat → Int32} {q : Nat} (t1 : SRel h3 1 (eA g5 0 0)) (t2 : RG (eA g5 0 0)) (t3 : SFul h3 (eA g5 0 0)) (hq : (q : Int) < (eA g5 0 0 1).toInt) (u : ∀ k : Nat, (∀ c : Nat, c < 9 → ¬ k = 30 + (9 * q + c)) → ¬ k = 120 → B k = eA g5 0 0 k) (fr : Fr [(1, 1, 0), (0, 1, 5)] h3 h') (ge : GEE (eA h' 1 0) B) (i5 : eI h' 1 5 = B 120) (b0 : 0 ≤ (B 120).toInt) (gr : GR (eA g5 0 0) 30 q (eA g5 0 0 0).toInt → GR B 30 q (eA g5 0 0 0).toInt) : SRel h' 1 B ∧ SFul h' B ∧ RG B := by
  have n1 := t2.1.1
  have sc := t1.1
  have lo : ∀ k : Nat, k < 30 → B k = eA g5 0 0 k := fun k hk => u k (fun c hc => by omega) (by omega)
  have hi : ∀ k : Nat, 130 ≤ k → B k = eA g5 0 0 k := fun k hk => u k (fun c hc => by omega) (by omega)
  have u1 : B 121 = eA g5 0 0 121 := u 121 (fun c hc => by omega) (by omega)
  have u2 : B 122 = eA g5 0 0 122 := u 122 (fun c hc => by omega) (by omega)
  have E := SR_edit t1 t3 n1.2 lo hi (fr.2.1 1 2 (by decide)) (fr.1 1 11 (by decide)) (fr.2.1 1 1 (by decide)) (fr.1 1 3 (by decide)) (fr.1 1 4 (by decide)) i5 (fr.1 1 6 (by decide)) ((fr.1 1 7 (by decide)).trans (sc.2.2.2.2.1.trans u1.symm)) ((fr.1 1 8 (by decide)).trans (sc.2.2.2.2.2.1.trans u2.symm)) (fr.1 1 9 (by decide)) (fr.1 1 10 (by decide)) (fr.1 1 12 (by decide)) ge t2.1.2.1.2
  refine ⟨E.1, E.2, RG_edit (q := q) t2 lo hi (fun p k hk hp hp2 => ?_) (fun hq2 => gr (t2.2.2.1.2.2 q hq2)) b0 ?_⟩
  · exact u _ (fun c hc => by omega) (by omega)
  · rw [u1]; exact t2.2.2.1.2.1
theorem GEE_out {s A : Nat → Int32} {a : Nat} {v : Int32} (x : GEE s A) (n : (A 1).toInt ≤ 10) (ha : ¬ a = 1) (hb : a < 30 ∨ 120 ≤ a) : GEE s (upd A a v) := by
  intro i hi
  have e1 : upd A a v 1 = A 1 := by unfold upd; rw [if_neg (by omega)]
  rw [e1] at hi
  have e2 : upd A a v (30 + i) = A (30 + i) := by unfold upd; rw [if_neg (by omega)]
  rw [e2]
  exact x i hi
theorem ud_ne {A : Nat → Int32} {a k : Nat} {v : Int32} (n : ¬ k = a) : upd A a v k = A k := by unfold upd; rw [if_neg n]
theorem ud_eq {A : Nat → Int32} {a : Nat} {v : Int32} : upd A a v a = v := by unfold upd; rw [if_pos rfl]
theorem mp_mk0 {p : Int32} {m : Nat} (hp : p.toInt = (m : Int)) (hm : m < 4) : (10 + 3 * p).toNatClampNeg = 10 + (3 * m + 0) := by
  have z : (10 : Int32).toInt = 10 := rfl
  have e1 : (3 * p).toInt = 3 * p.toInt := fb_mulJ rfl (by omega) (by omega)
  have e2 := fb_addI (x := 10) (y := 3 * p) (by omega) (by omega)
  show (10 + 3 * p).toInt.toNat = _
  omega
theorem j_pluck {h g : HS} {p : Int32} {z w : Int32 × HS} (sr : SRel h 1 (eA g 0 0)) (rg : RG (eA g 0 0)) (e1 : f_X8_pluck h p = some z) (e2 : f_X9_pluck g p = some w) : DONE h g z w := by
  have y0 : (0 : Int32).toInt = 0 := rfl
  have y1 : (1 : Int32).toInt = 1 := rfl
  obtain ⟨⟨n1, n0, -⟩, -, rw0, -⟩ := id rg
  have s3 : eI h 1 3 = eA g 0 0 1 := sr.1.1
  unfold f_X8_pluck f_X8_pluck_24 at e1
  obtain ⟨r1, h1, a1, e1⟩ := ob2_some e1
  obtain ⟨k1, k2⟩ := cp_isHome a1 (by rw [s3]; exact n1.2)
  have k1 : h = h1 := k1.symm
  subst k1
  rw [s3] at k2
  unfold f_X9_pluck f_X9_pluck_17 at e2
  obtain ⟨r2, g2, a2, e2⟩ := ob2_some e2
  obtain ⟨m1, m2⟩ := mp_isHome a2 n1
  have m1 : g = g2 := m1.symm
  subst m1
  rcases m2 with ⟨m2, q, q1, q2, q3⟩ | ⟨m2, m3⟩
  · have m2 : r2 = 1 := m2
    rw [if_neg (by rw [m2]; decide)] at e2
    obtain ⟨r3, g3, a3, e2⟩ := ob2_some e2
    obtain ⟨rfl, rfl⟩ := pr_inj (mp_ofGoose (q := q) (k := 1) a3 q1 rfl (by omega) (by decide))
    have gr := rw0.2.2 q q2
    have c4 := sr_g sr q2 (show 4 < 9 by decide)
    have c1 := sr_g sr q2 (show 1 < 9 by decide)
    rcases k2 with ⟨k2, -⟩ | ⟨-, k3⟩
    · have k2 : r1 = 1 := k2
      rw [if_neg (by rw [k2]; decide)] at e1
      obtain ⟨r4, h4, b4, e1⟩ := ob2_some e1
      obtain ⟨rfl, rfl⟩ := pr_inj (cp_ofGoose (q := q) (k := 1) b4 q1 rfl (by rw [s3]; exact q2) (by rw [s3]; exact n1.2) (by decide))
      rw [c1] at e1
      by_cases c : gc (eA g 0 0) 30 q 1 = 0
      · rw [if_pos c] at e2
        have dc := gi_of_eq c
        rw [if_neg (gi_nle (by omega))] at e1
        cases e1
        cases e2
        exact DONE_no sr rg
      · rw [if_neg c] at e2
        have dc := gi_of_ne c
        have gf : 1 ≤ (gc (eA g 0 0) 30 q 1).toInt := by unfold GR at gr; omega
        rw [if_pos (gi_le (by omega))] at e1
        obtain ⟨h3, b3, e1⟩ := ob1_some e1
        obtain ⟨g5, a5, e2⟩ := ob1_some e2
        obtain ⟨t1, t2, t3, t4, t5, t6⟩ := j_keep sr rg b3 a5
        have s1 : eA g5 0 0 1 = eA g 0 0 1 := t4 1 (by decide) (by decide)
        have h13 : eI h3 1 3 = eA g5 0 0 1 := t1.1.1
        have q5 : (q : Int) < (eA g5 0 0 1).toInt := by rw [s1]; exact q2
        obtain ⟨r6, h6, b6, e1⟩ := ob2_some e1
        obtain ⟨rfl, rfl⟩ := pr_inj (cp_ofGoose (q := q) (k := 1) b6 q1 rfl (by rw [h13]; exact q5) (by rw [h13, s1]; exact n1.2) (by decide))
        obtain ⟨h7, b7, e1⟩ := ob1_some e1
        have hE := cp_setGoose (q := q) (k := 1) b7 q1 rfl (by rw [h13]; exact q5) (by rw [h13, s1]; exact n1.2) (by decide)
        subst hE
        obtain ⟨r8, h8, b8, e1⟩ := ob2_some e1
        obtain ⟨rfl, rfl⟩ := pr_inj (cp_ofGoose (q := q) (k := 1) b8 q1 rfl (by show (q : Int) < (eI h3 1 3).toInt; rw [h13]; exact q5) (by show (eI h3 1 3).toInt ≤ 10; rw [h13, s1]; exact n1.2) (by decide))
        cases e1
        obtain ⟨r7, g7, a7, e2⟩ := ob2_some e2
        obtain ⟨rfl, rfl⟩ := pr_inj (mp_ofGoose (q := q) (k := 1) a7 q1 rfl (by omega) (by decide))
        obtain ⟨g8, a8, e2⟩ := ob1_some e2
        have gE := mp_puts (q := q) (k := 1) a8 q1 rfl (by omega) (by decide)
        subst gE
        obtain ⟨r9, g9, a9, e2⟩ := ob2_some e2
        obtain ⟨rfl, rfl⟩ := pr_inj (mp_ofGoose (q := q) (k := 1) a9 q1 rfl (by omega) (by decide))
        cases e2
        have c15 : eA h3 1 0 (9 * q + 1) = gc (eA g5 0 0) 30 q 1 := sr_g t1 q5 (show 1 < 9 by decide)
        have same : gc (eA g5 0 0) 30 q 1 = gc (eA g 0 0) 30 q 1 := t4 _ (by omega) (by omega)
        have vs := fb_subI (x := gc (eA g5 0 0) 30 q 1) (y := 1) (by rw [same]; omega) (by rw [same]; have := fb_rng (gc (eA g 0 0) 30 q 1); omega)
        have R := FIN (h' := sA h3 1 0 (upd (eA h3 1 0) (9 * q + 1) (eA h3 1 0 (9 * q + 1) - 1))) (B := upd (eA g5 0 0) (30 + (9 * q + 1)) (gc (eA g5 0 0) 30 q 1 - 1)) t1 t2 t3 q5 (fun k hc _ => by unfold upd; rw [if_neg (hc 1 (by decide))]) (Fr_sA (by decide) (Fr_refl _ _)) (by rw [c15]; exact GEE_upd t1.2.1 (by omega)) (by show eI h3 1 5 = upd _ _ _ 120; unfold upd; rw [if_neg (by omega)]; exact t1.1.2.2.1) (by unfold upd; rw [if_neg (by omega)]; exact t2.2.2.1.1) (fun gr5 => by
          unfold GR at gr5 ⊢
          simp (disch := omega) only [gc_upd_ne, gc_upd_eq]
          rw [same] at *
          omega)
        refine ⟨?_, R.1, R.2.2⟩
        show upd (eA h3 1 0) (9 * q + 1) (eA h3 1 0 (9 * q + 1) - 1) (9 * q + 1) = gc (upd (eA g5 0 0) (30 + (9 * q + 1)) (gc (eA g5 0 0) 30 q 1 - 1)) 30 q 1
        rw [gc_upd_eq, c15]
        unfold upd
        rw [if_pos rfl]
    · exact absurd (c4.trans q3) (k3 q q1 q2)
  · have m2 : r2 = 0 := m2
    rw [if_pos m2] at e2
    cases e2
    rcases k2 with ⟨-, q', q1', q2', k4⟩ | ⟨k2, -⟩
    · exact absurd ((sr_g sr q2' (show 4 < 9 by decide)).symm.trans k4) (m3 q' q1' q2')
    · have k2 : r1 = 0 := k2
      rw [if_pos k2] at e1
      cases e1
      exact DONE_no sr rg
theorem j_fatten {h g : HS} {p : Int32} {z w : Int32 × HS} (sr : SRel h 1 (eA g 0 0)) (rg : RG (eA g 0 0)) (e1 : f_X8_fatten h p = some z) (e2 : f_X9_fatten g p = some w) : DONE h g z w := by
  have y0 : (0 : Int32).toInt = 0 := rfl
  have y1 : (1 : Int32).toInt = 1 := rfl
  have y20 : (20 : Int32).toInt = 20 := rfl
  obtain ⟨⟨n1, n0, -⟩, -, rw0, -⟩ := id rg
  have s3 : eI h 1 3 = eA g 0 0 1 := sr.1.1
  have s5 : eI h 1 5 = eA g 0 0 120 := sr.1.2.2.1
  have g120 : 0 ≤ (eA g 0 0 120).toInt := rw0.1
  unfold f_X8_fatten f_X8_fatten_36 at e1
  obtain ⟨r1, h1, a1, e1⟩ := ob2_some e1
  obtain ⟨k1, k2⟩ := cp_isHome a1 (by rw [s3]; exact n1.2)
  have k1 : h = h1 := k1.symm
  subst k1
  rw [s3] at k2
  unfold f_X9_fatten f_X9_fatten_29 at e2
  obtain ⟨r2, g2, a2, e2⟩ := ob2_some e2
  obtain ⟨m1, m2⟩ := mp_isHome a2 n1
  have m1 : g = g2 := m1.symm
  subst m1
  rcases m2 with ⟨m2, q, q1, q2, q3⟩ | ⟨m2, m3⟩
  · have m2 : r2 = 1 := m2
    rw [if_neg (by rw [m2]; decide)] at e2
    obtain ⟨r3, g3, a3, e2⟩ := ob2_some e2
    obtain ⟨rfl, rfl⟩ := pr_inj (mp_ofGoose (q := q) (k := 0) a3 q1 rfl (by omega) (by decide))
    have gr := rw0.2.2 q q2
    have gw : 0 ≤ (gc (eA g 0 0) 30 q 0).toInt ∧ (gc (eA g 0 0) 30 q 0).toInt ≤ 20 := gr.1
    have c4 := sr_g sr q2 (show 4 < 9 by decide)
    have c0 := sr_g sr q2 (show 0 < 9 by decide)
    rcases k2 with ⟨k2, -⟩ | ⟨-, k3⟩
    · have k2 : r1 = 1 := k2
      rw [if_neg (by rw [k2]; decide)] at e1
      obtain ⟨r4, h4, b4, e1⟩ := ob2_some e1
      obtain ⟨rfl, rfl⟩ := pr_inj (cp_ofGoose (q := q) (k := 0) b4 q1 rfl (by rw [s3]; exact q2) (by rw [s3]; exact n1.2) (by decide))
      rw [c0, s5] at e1
      by_cases c : gc (eA g 0 0) 30 q 0 = 20
      · rw [if_pos c] at e2
        have dc := gi_of_eq c
        rw [if_pos (gi_le (by omega))] at e1
        cases e1
        cases e2
        exact DONE_no sr rg
      · rw [if_neg c] at e2
        have dc := gi_of_ne c
        rw [if_neg (gi_nle (by omega))] at e1
        by_cases cg : eA g 0 0 120 = 0
        · rw [if_pos cg] at e2
          have dg := gi_of_eq cg
          rw [if_neg (gi_nle (by omega))] at e1
          cases e1
          cases e2
          exact DONE_no sr rg
        · rw [if_neg cg] at e2
          have dg := gi_of_ne cg
          rw [if_pos (gi_le (by omega))] at e1
          obtain ⟨h3, b3, e1⟩ := ob1_some e1
          obtain ⟨g5, a5, e2⟩ := ob1_some e2
          obtain ⟨t1, t2, t3, t4, t5, t6⟩ := j_keep sr rg b3 a5
          have s1 : eA g5 0 0 1 = eA g 0 0 1 := t4 1 (by decide) (by decide)
          have s120 : eA g5 0 0 120 = eA g 0 0 120 := t4 120 (by decide) (by decide)
          have h13 : eI h3 1 3 = eA g5 0 0 1 := t1.1.1
          have h15 : eI h3 1 5 = eA g5 0 0 120 := t1.1.2.2.1
          have q5 : (q : Int) < (eA g5 0 0 1).toInt := by rw [s1]; exact q2
          obtain ⟨r6, h6, b6, e1⟩ := ob2_some e1
          obtain ⟨rfl, rfl⟩ := pr_inj (cp_ofGoose (q := q) (k := 0) b6 q1 rfl (by show (q : Int) < (eI h3 1 3).toInt; rw [h13]; exact q5) (by show (eI h3 1 3).toInt ≤ 10; rw [h13, s1]; exact n1.2) (by decide))
          obtain ⟨h7, b7, e1⟩ := ob1_some e1
          have hE := cp_setGoose (q := q) (k := 0) b7 q1 rfl (by show (q : Int) < (eI h3 1 3).toInt; rw [h13]; exact q5) (by show (eI h3 1 3).toInt ≤ 10; rw [h13, s1]; exact n1.2) (by decide)
          subst hE
          obtain ⟨r8, h8, b8, e1⟩ := ob2_some e1
          obtain ⟨rfl, rfl⟩ := pr_inj (cp_ofGoose (q := q) (k := 0) b8 q1 rfl (by show (q : Int) < (eI h3 1 3).toInt; rw [h13]; exact q5) (by show (eI h3 1 3).toInt ≤ 10; rw [h13, s1]; exact n1.2) (by decide))
          cases e1
          obtain ⟨r7, g7, a7, e2⟩ := ob2_some e2
          obtain ⟨rfl, rfl⟩ := pr_inj (mp_ofGoose (q := q) (k := 0) a7 q1 rfl (by omega) (by decide))
          obtain ⟨g8, a8, e2⟩ := ob1_some e2
          have gE := mp_puts (q := q) (k := 0) a8 q1 rfl (by omega) (by decide)
          subst gE
          obtain ⟨r9, g9, a9, e2⟩ := ob2_some e2
          obtain ⟨rfl, rfl⟩ := pr_inj (mp_ofGoose (q := q) (k := 0) a9 q1 rfl (by omega) (by decide))
          cases e2
          have c05 : eA h3 1 0 (9 * q + 0) = gc (eA g5 0 0) 30 q 0 := sr_g t1 q5 (show 0 < 9 by decide)
          have same : gc (eA g5 0 0) 30 q 0 = gc (eA g 0 0) 30 q 0 := t4 _ (by omega) (by omega)
          have vs := fb_addI (x := gc (eA g5 0 0) 30 q 0) (y := 1) (by rw [same]; omega) (by rw [same]; omega)
          have gs := fb_subI (x := eA g5 0 0 120) (y := 1) (by rw [s120]; omega) (by rw [s120]; have := fb_rng (eA g 0 0 120); omega)
          obtain ⟨X, hX⟩ : ∃ X : Nat → Int32, X = upd (eA g5 0 0) (30 + (9 * q + 0)) (gc (eA g5 0 0) 30 q 0 + 1) := ⟨_, rfl⟩
          have X120 : X 120 = eA g5 0 0 120 := by rw [hX]; exact ud_ne (by omega)
          have X1 : X 1 = eA g5 0 0 1 := by rw [hX]; exact ud_ne (by omega)
          have R := FIN (q := q) (h' := sA (sI h3 1 5 (eI h3 1 5 - 1)) 1 0 (upd (eA h3 1 0) (9 * q + 0) (eA h3 1 0 (9 * q + 0) + 1))) (B := upd X 120 (X 120 - 1)) t1 t2 t3 q5 (fun k hc h120 => by rw [ud_ne h120, hX, ud_ne (hc 0 (by decide))]) (Fr_sA (by decide) (Fr_sI (by decide) (Fr_refl _ _))) (by
            refine GEE_out ?_ (by rw [X1, s1]; exact n1.2) (by decide) (by decide)
            rw [c05, hX]
            exact GEE_upd t1.2.1 (by omega)) (by
            rw [ud_eq, X120, ← h15]
            rfl) (by
            rw [ud_eq, X120]
            rw [s120] at gs ⊢
            omega) (fun gr5 => by
            unfold GR at gr5 ⊢
            rw [hX]
            simp (disch := omega) only [gc_upd_ne, gc_upd_eq]
            rw [same] at *
            omega)
          rw [hX] at R
          refine ⟨?_, R.1, R.2.2⟩
          show upd (eA h3 1 0) (9 * q + 0) (eA h3 1 0 (9 * q + 0) + 1) (9 * q + 0) = gc (upd (upd (eA g5 0 0) (30 + (9 * q + 0)) (gc (eA g5 0 0) 30 q 0 + 1)) 120 _) 30 q 0
          rw [gc_upd_ne (by omega), gc_upd_eq, c05, ud_eq]
    · exact absurd (c4.trans q3) (k3 q q1 q2)
  · have m2 : r2 = 0 := m2
    rw [if_pos m2] at e2
    cases e2
    rcases k2 with ⟨-, q', q1', q2', k4⟩ | ⟨k2, -⟩
    · exact absurd ((sr_g sr q2' (show 4 < 9 by decide)).symm.trans k4) (m3 q' q1' q2')
    · have k2 : r1 = 0 := k2
      rw [if_pos k2] at e1
      cases e1
      exact DONE_no sr rg
theorem j_send {h g : HS} {p m0 : Int32} {z w : Int32 × HS} (sr : SRel h 1 (eA g 0 0)) (rg : RG (eA g 0 0)) (e1 : f_X8_send h p m0 = some z) (e2 : f_X9_send g p m0 = some w) : DONE h g z w := by
  have y0 : (0 : Int32).toInt = 0 := rfl
  have y1 : (1 : Int32).toInt = 1 := rfl
  obtain ⟨⟨n1, n0, -⟩, mr, rw0, -⟩ := id rg
  have s3 : eI h 1 3 = eA g 0 0 1 := sr.1.1
  have s4 : eI h 1 4 = eA g 0 0 0 := sr.1.2.1
  -- what must hold that she goes
  have yes : ∀ (q m : Nat), p.toInt = (q : Int) → (q : Int) < (eA g 0 0 1).toInt → gc (eA g 0 0) 30 q 4 = 0 → gc (eA g 0 0) 30 q 8 = 0 → m0.toInt = (m : Int) → (m : Int) < (eA g 0 0 0).toInt → DONE h g z w := by
    intro q m q1 q2 q3 q8 m1 m2
    have c4 := sr_g sr q2 (show 4 < 9 by decide)
    have c8 := sr_g sr q2 (show 8 < 9 by decide)
    unfold f_X8_send at e1
    obtain ⟨r1, h1, a1, e1⟩ := ob2_some e1
    obtain ⟨k1, k2⟩ := cp_hasMarket a1 (by rw [s4]; exact n0.2)
    have k1 : h = h1 := k1.symm
    subst k1
    rw [s4] at k2
    rcases k2 with ⟨-, k3⟩ | ⟨k2, -⟩
    · exact absurd ⟨by omega, by omega⟩ k3
    have k2 : r1 = 1 := k2
    rw [if_neg (by rw [k2]; decide)] at e1
    obtain ⟨r3, h3, a3, e1⟩ := ob2_some e1
    obtain ⟨k4, k5⟩ := cp_isFree a3 (by rw [s3]; exact n1.2)
    have k4 : h = h3 := k4.symm
    subst k4
    rw [s3] at k5
    rcases k5 with ⟨k5, -⟩ | ⟨-, k6⟩
    rotate_left
    · exact absurd ⟨c4.trans q3, c8.trans q8⟩ (k6 q q1 q2)
    have k5 : r3 = 1 := k5
    rw [if_neg (by rw [k5]; decide)] at e1
    obtain ⟨h5, a5, e1⟩ := ob1_some e1
    unfold f_X9_send at e2
    obtain ⟨r2, g2, b2, e2⟩ := ob2_some e2
    obtain ⟨l1, l2⟩ := mp_isHome b2 n1
    have l1 : g = g2 := l1.symm
    subst l1
    rcases l2 with ⟨l2, -⟩ | ⟨-, l3⟩
    rotate_left
    · exact absurd q3 (l3 q q1 q2)
    have l2 : r2 = 1 := l2
    rw [if_neg (by rw [l2]; decide)] at e2
    obtain ⟨r4, g4, b4, e2⟩ := ob2_some e2
    obtain ⟨rfl, rfl⟩ := pr_inj (mp_ofGoose (q := q) (k := 8) b4 q1 rfl (by omega) (by decide))
    rw [if_neg (by rw [q8]; decide)] at e2
    obtain ⟨r6, g6, b6, e2⟩ := ob2_some e2
    obtain ⟨l4, l5⟩ := mp_isMarket b6 n0
    have l4 : g = g6 := l4.symm
    subst l4
    rcases l5 with ⟨-, l6⟩ | ⟨l5, -⟩
    · exact absurd ⟨by omega, by omega⟩ l6
    have l5 : r6 = 1 := l5
    rw [if_neg (by rw [l5]; decide)] at e2
    obtain ⟨g7, b7, e2⟩ := ob1_some e2
    obtain ⟨t1, t2, t3, t4, t5, t6⟩ := j_keep sr rg a5 b7
    have v1 : eA g7 0 0 1 = eA g 0 0 1 := t4 1 (by decide) (by decide)
    have v0 : eA g7 0 0 0 = eA g 0 0 0 := t4 0 (by decide) (by decide)
    have h13 : eI h5 1 3 = eA g7 0 0 1 := t1.1.1
    have h14 : eI h5 1 4 = eA g7 0 0 0 := t1.1.2.1
    have h17 : eI h5 1 7 = eA g7 0 0 121 := t1.1.2.2.2.2.1
    have q5 : (q : Int) < (eA g7 0 0 1).toInt := by rw [v1]; exact q2
    have m5 : (m : Int) < (eA g7 0 0 0).toInt := by rw [v0]; exact m2
    obtain ⟨r8, h8, a8, e1⟩ := ob2_some e1
    obtain ⟨rfl, rfl⟩ := pr_inj (cp_ofMarket (q := m) (k := 0) a8 m1 rfl (by rw [h14]; exact m5) (by rw [h14, v0]; exact n0.2) (by decide))
    obtain ⟨h9, a9, e1⟩ := ob1_some e1
    have E9 := cp_setGoose (q := q) (k := 4) a9 q1 rfl (by rw [h13]; exact q5) (by rw [h13, v1]; exact n1.2) (by decide)
    subst E9
    obtain ⟨h10, a10, e1⟩ := ob1_some e1
    have E10 := cp_setGoose (q := q) (k := 5) a10 q1 rfl (by show (q : Int) < (eI h5 1 3).toInt; rw [h13]; exact q5) (by show (eI h5 1 3).toInt ≤ 10; rw [h13, v1]; exact n1.2) (by decide)
    subst E10
    obtain ⟨h11, a11, e1⟩ := ob1_some e1
    have E11 := cp_setGoose (q := q) (k := 6) a11 q1 rfl (by show (q : Int) < (eI h5 1 3).toInt; rw [h13]; exact q5) (by show (eI h5 1 3).toInt ≤ 10; rw [h13, v1]; exact n1.2) (by decide)
    subst E11
    cases e1
    obtain ⟨g8, b8, e2⟩ := ob1_some e2
    have F8 := mp_puts (q := q) (k := 4) b8 q1 rfl (by omega) (by decide)
    subst F8
    obtain ⟨g9, b9, e2⟩ := ob1_some e2
    have F9 := mp_puts (q := q) (k := 5) b9 q1 rfl (by omega) (by decide)
    subst F9
    obtain ⟨-, e2⟩ := ob_if e2
    rw [mp_mk0 m1 (by omega)] at e2
    obtain ⟨g11, b11, e2⟩ := ob1_some e2
    have F11 := mp_puts (q := q) (k := 6) b11 q1 rfl (by omega) (by decide)
    subst F11
    obtain ⟨r12, g12, b12, e2⟩ := ob2_some e2
    obtain ⟨rfl, rfl⟩ := pr_inj (mp_ofGoose (q := q) (k := 6) b12 q1 rfl (by omega) (by decide))
    cases e2
    obtain ⟨X, hX⟩ : ∃ X : Nat → Int32, X = upd (upd (eA g7 0 0) (30 + (9 * q + 4)) 1) (30 + (9 * q + 5)) m0 := ⟨_, rfl⟩
    have X121 : X 121 = eA g7 0 0 121 := by rw [hX, ud_ne (by omega), ud_ne (by omega)]
    have Xm : X (10 + (3 * m + 0)) = eA g7 0 0 (10 + (3 * m + 0)) := by rw [hX, ud_ne (by omega), ud_ne (by omega)]
    have wm : eA h5 1 1 (3 * m + 0) = eA g7 0 0 (10 + (3 * m + 0)) := sr_m t1 m5 (show 0 < 3 by decide)
    have th : eI h5 1 7 + eA h5 1 1 (3 * m + 0) = X 121 + X (10 + (3 * m + 0)) := by rw [X121, Xm, h17, wm]
    have mrm := t2.2.1 m m5
    have dd : 0 ≤ (eA g7 0 0 121).toInt ∧ (eA g7 0 0 121).toInt ≤ 999 := t2.2.2.1.2.1
    have md := mrm.1
    have ts := fb_addI (x := X 121) (y := X (10 + (3 * m + 0))) (by rw [X121, Xm]; show _ ≤ (eA g7 0 0 121).toInt + (eA g7 0 0 (10 + 3 * m)).toInt; omega) (by rw [X121, Xm]; show (eA g7 0 0 121).toInt + (eA g7 0 0 (10 + 3 * m)).toInt < _; omega)
    rw [X121, Xm] at ts
    have ts : (eA g7 0 0 121 + eA g7 0 0 (10 + (3 * m + 0))).toInt = (eA g7 0 0 121).toInt + (eA g7 0 0 (10 + 3 * m)).toInt := ts
    have R := FIN (q := q) (h' := sA (sA (sA h5 1 0 (upd (eA h5 1 0) (9 * q + 4) 1)) 1 0 (upd (upd (eA h5 1 0) (9 * q + 4) 1) (9 * q + 5) m0)) 1 0 (upd (upd (upd (eA h5 1 0) (9 * q + 4) 1) (9 * q + 5) m0) (9 * q + 6) (eI h5 1 7 + eA h5 1 1 (3 * m + 0)))) (B := upd X (30 + (9 * q + 6)) (X 121 + X (10 + (3 * m + 0)))) t1 t2 t3 q5 (fun k hc _ => by rw [ud_ne (hc 6 (by decide)), hX, ud_ne (hc 5 (by decide)), ud_ne (hc 4 (by decide))]) (Fr_sA (by decide) (Fr_sA (by decide) (Fr_sA (by decide) (Fr_refl _ _)))) (by
      rw [← th, hX]
      exact GEE_upd (GEE_upd (GEE_upd t1.2.1 (by omega)) (by omega)) (by omega)) (by
      rw [ud_ne (by omega), hX, ud_ne (by omega), ud_ne (by omega)]
      exact t1.1.2.2.1) (by
      rw [ud_ne (by omega), hX, ud_ne (by omega), ud_ne (by omega)]
      exact t2.2.2.1.1) (fun gr5 => by
      unfold GR at gr5 ⊢
      rw [X121, Xm, hX]
      simp (disch := omega) only [gc_upd_ne, gc_upd_eq]
      rw [ts]
      omega)
    rw [hX] at R th
    refine ⟨?_, R.1, R.2.2⟩
    show eI h5 1 7 + eA h5 1 1 (3 * m + 0) = gc (upd _ (30 + (9 * q + 6)) _) 30 q 6
    rw [gc_upd_eq]
    exact th
  have no1 : (∀ (q m : Nat), p.toInt = (q : Int) → (q : Int) < (eA g 0 0 1).toInt → gc (eA g 0 0) 30 q 4 = 0 → gc (eA g 0 0) 30 q 8 = 0 → m0.toInt = (m : Int) → (m : Int) < (eA g 0 0 0).toInt → False) → DONE h g z w := by
    intro no
    have hz : z = (-1, h) := by
      unfold f_X8_send f_X8_send_22 at e1
      obtain ⟨r1, h1, a1, e1⟩ := ob2_some e1
      obtain ⟨k1, k2⟩ := cp_hasMarket a1 (by rw [s4]; exact n0.2)
      have k1 : h = h1 := k1.symm
      subst k1
      rw [s4] at k2
      rcases k2 with ⟨k2, -⟩ | ⟨k2, k3, k4⟩
      · have k2 : r1 = 0 := k2
        rw [if_pos k2] at e1
        exact (Option.some.inj e1).symm
      · have k2 : r1 = 1 := k2
        rw [if_neg (by rw [k2]; decide)] at e1
        obtain ⟨r3, h3, a3, e1⟩ := ob2_some e1
        obtain ⟨k5, k6⟩ := cp_isFree a3 (by rw [s3]; exact n1.2)
        have k5 : h = h3 := k5.symm
        subst k5
        rw [s3] at k6
        rcases k6 with ⟨-, q, q1, q2, q3, q4⟩ | ⟨k6, -⟩
        · exact (no q m0.toInt.toNat q1 q2 ((sr_g sr q2 (show 4 < 9 by decide)).symm.trans q3) ((sr_g sr q2 (show 8 < 9 by decide)).symm.trans q4) (by omega) (by omega)).elim
        · have k6 : r3 = 0 := k6
          rw [if_pos k6] at e1
          exact (Option.some.inj e1).symm
    have hw : w = (-1, g) := by
      unfold f_X9_send f_X9_send_27 at e2
      obtain ⟨r2, g2, b2, e2⟩ := ob2_some e2
      obtain ⟨l1, l2⟩ := mp_isHome b2 n1
      have l1 : g = g2 := l1.symm
      subst l1
      rcases l2 with ⟨l2, q, q1, q2, q3⟩ | ⟨l2, -⟩
      · have l2 : r2 = 1 := l2
        rw [if_neg (by rw [l2]; decide)] at e2
        obtain ⟨r4, g4, b4, e2⟩ := ob2_some e2
        obtain ⟨rfl, rfl⟩ := pr_inj (mp_ofGoose (q := q) (k := 8) b4 q1 rfl (by omega) (by decide))
        have gr := rw0.2.2 q q2
        by_cases c8 : gc (eA g 0 0) 30 q 8 = 1
        · rw [if_pos c8] at e2
          exact (Option.some.inj e2).symm
        · rw [if_neg c8] at e2
          have d8 := gi_of_ne c8
          obtain ⟨r6, g6, b6, e2⟩ := ob2_some e2
          obtain ⟨l4, l5⟩ := mp_isMarket b6 n0
          have l4 : g = g6 := l4.symm
          subst l4
          rcases l5 with ⟨l5, -⟩ | ⟨-, l6, l7⟩
          · have l5 : r6 = 0 := l5
            rw [if_pos l5] at e2
            exact (Option.some.inj e2).symm
          · have z8 : gc (eA g 0 0) 30 q 8 = 0 := by unfold GR at gr; exact gi_eq (by omega)
            exact (no q m0.toInt.toNat q1 q2 q3 z8 (by omega) (by omega)).elim
      · have l2 : r2 = 0 := l2
        rw [if_pos l2] at e2
        exact (Option.some.inj e2).symm
    rw [hz, hw]
    exact DONE_no sr rg
  by_cases c : ∃ (q m : Nat), p.toInt = (q : Int) ∧ (q : Int) < (eA g 0 0 1).toInt ∧ gc (eA g 0 0) 30 q 4 = 0 ∧ gc (eA g 0 0) 30 q 8 = 0 ∧ m0.toInt = (m : Int) ∧ (m : Int) < (eA g 0 0 0).toInt
  · obtain ⟨q, m, c1, c2, c3, c4, c5, c6⟩ := c
    exact yes q m c1 c2 c3 c4 c5 c6
  · exact no1 (fun q m c1 c2 c3 c4 c5 c6 => c ⟨q, m, c1, c2, c3, c4, c5, c6⟩)
/-! what a law asks of a goose: the names of both -/
def LK (nm : Nat → Int32) (p w f l r d : Int32) : Nat → Int32 := upd (upd (upd (upd (upd (upd nm 0 p) 1 w) 2 f) 3 l) 4 r) 5 d
theorem LK_agree {a b : Nat → Int32} {p w f l r d : Int32} (hp : MB p.toInt) (hw : MB w.toInt) (hf : MB f.toInt) (hl : MB l.toInt) (hr : MB r.toInt) (hd : MB d.toInt) {k : Nat} (hk : k < 6) : LK a p w f l r d k = LK b p w f l r d k ∧ MB (LK a p w f l r d k).toInt := by
  have v0 : ∀ c : Nat → Int32, LK c p w f l r d 0 = p := fun c => rfl
  have v1 : ∀ c : Nat → Int32, LK c p w f l r d 1 = w := fun c => rfl
  have v2 : ∀ c : Nat → Int32, LK c p w f l r d 2 = f := fun c => rfl
  have v3 : ∀ c : Nat → Int32, LK c p w f l r d 3 = l := fun c => rfl
  have v4 : ∀ c : Nat → Int32, LK c p w f l r d 4 = r := fun c => rfl
  have v5 : ∀ c : Nat → Int32, LK c p w f l r d 5 = d := fun c => rfl
  match k, hk with
  | 0, _ => rw [v0, v0]; exact ⟨rfl, hp⟩
  | 1, _ => rw [v1, v1]; exact ⟨rfl, hw⟩
  | 2, _ => rw [v2, v2]; exact ⟨rfl, hf⟩
  | 3, _ => rw [v3, v3]; exact ⟨rfl, hl⟩
  | 4, _ => rw [v4, v4]; exact ⟨rfl, hr⟩
  | 5, _ => rw [v5, v5]; exact ⟨rfl, hd⟩
theorem cp_lookAt {h h1 : HS} {p : Int32} {q : Nat} (e : f_X1_lookAt h p = some h1) (hp : p.toInt = (q : Int)) (hq : (q : Int) < (eI h 1 3).toInt) (h10 : (eI h 1 3).toInt ≤ 10) : eA h1 6 1 = LK (eA h 6 1) p (eA h 1 0 (9 * q + 0)) (eA h 1 0 (9 * q + 1)) (eA h 1 0 (9 * q + 2)) (eA h 1 0 (9 * q + 3)) (eI h 1 7) := by
  unfold f_X1_lookAt at e
  obtain ⟨r1, h2, e1, e⟩ := ob2_some e
  have k1 := cp_ofGoose (q := q) (k := 0) e1 hp rfl hq h10 (by decide)
  obtain ⟨rfl, rfl⟩ := pr_inj k1
  obtain ⟨r2, h3, e2, e⟩ := ob2_some e
  have k2 := cp_ofGoose (q := q) (k := 1) e2 hp rfl hq h10 (by decide)
  obtain ⟨rfl, rfl⟩ := pr_inj k2
  obtain ⟨r3, h4, e3, e⟩ := ob2_some e
  have k3 := cp_ofGoose (q := q) (k := 2) e3 hp rfl hq h10 (by decide)
  obtain ⟨rfl, rfl⟩ := pr_inj k3
  obtain ⟨r4, h5, e4, e⟩ := ob2_some e
  have k4 := cp_ofGoose (q := q) (k := 3) e4 hp rfl hq h10 (by decide)
  obtain ⟨rfl, rfl⟩ := pr_inj k4
  cases e
  rfl
theorem mp_names {g g3 : HS} {p l r d : Int32} {q : Nat} (e : f_X9_names g p l r d = some g3) (hp : p.toInt = (q : Int)) (hq : q < 10) : eA g3 0 39 = LK (eA g 0 39) p (gc (eA g 0 0) 30 q 0) (gc (eA g 0 0) 30 q 1) l r d := by
  unfold f_X9_names at e
  obtain ⟨r1, h2, e1, e⟩ := ob2_some e
  have k1 := mp_ofGoose (q := q) (k := 0) e1 hp rfl hq (by decide)
  obtain ⟨rfl, rfl⟩ := pr_inj k1
  obtain ⟨r2, h3, e2, e⟩ := ob2_some e
  have k2 := mp_ofGoose (q := q) (k := 1) e2 hp rfl hq (by decide)
  obtain ⟨rfl, rfl⟩ := pr_inj k2
  cases e
  rfl
/-- what both sides keep while a law is asked -/
def STD (h g : HS) : Prop := SRel h 1 (eA g 0 0) ∧ RG (eA g 0 0) ∧ TXS h g (eA g 0 0 3).toInt
theorem SRel_fr {S : CL} {h h' : HS} {o : Nat} {A : Nat → Int32} (sr : SRel h o A) (f : Fr S h h') (n : ∀ y ∈ [(0, o, 3), (0, o, 4), (0, o, 5), (0, o, 6), (0, o, 7), (0, o, 8), (0, o, 9), (0, o, 10), (0, o, 11), (0, o, 12), (1, o, 0), (1, o, 1), (1, o, 2)], y ∉ S) : SRel h' o A := by
  unfold SRel SCA at *
  rw [f.1 o 3 (n _ (by simp)), f.1 o 4 (n _ (by simp)), f.1 o 5 (n _ (by simp)), f.1 o 6 (n _ (by simp)), f.1 o 7 (n _ (by simp)), f.1 o 8 (n _ (by simp)), f.1 o 9 (n _ (by simp)), f.1 o 10 (n _ (by simp)), f.1 o 11 (n _ (by simp)), f.1 o 12 (n _ (by simp)), f.2.1 o 0 (n _ (by simp)), f.2.1 o 1 (n _ (by simp)), f.2.1 o 2 (n _ (by simp))]
  exact sr
abbrev KS1 : CL := [(0, 1, 3), (0, 1, 4), (0, 1, 5), (0, 1, 6), (0, 1, 7), (0, 1, 8), (0, 1, 9), (0, 1, 10), (0, 1, 11), (0, 1, 12), (1, 1, 0), (1, 1, 1), (1, 1, 2)]
theorem STD_fr {S T : CL} {h h' g g' : HS} (s : STD h g) (f : Fr S h h') (k : Fr T g g') (n1 : ∀ y ∈ KS1, y ∉ S) (n2 : ∀ y ∈ KTC, y ∉ S) (n3 : (1, 0, 0) ∉ T) (n4 : ∀ y ∈ KTM, y ∉ T) : STD h' g' := by
  unfold STD at *
  rw [k.2.1 0 0 n3]
  exact ⟨SRel_fr s.1 f n1, s.2.1, TXS_fr s.2.2 f k n2 n4⟩
theorem std_n {h g : HS} (s : STD h g) : (0 ≤ (eA g 0 0 1).toInt ∧ (eA g 0 0 1).toInt ≤ 10) ∧ (0 ≤ (eA g 0 0 0).toInt ∧ (eA g 0 0 0).toInt ≤ 4) ∧ (-1 ≤ (eA g 0 0 4).toInt ∧ (eA g 0 0 4).toInt < (eA g 0 0 3).toInt ∧ (eA g 0 0 3).toInt ≤ 4) := ⟨s.2.1.1.1, s.2.1.1.2.1, s.2.1.1.2.2.2.2.1.1, s.2.1.1.2.2.2.2.1.2, s.2.1.1.2.2.2.1.2⟩
theorem std_mb {h g : HS} (s : STD h g) {q : Nat} (hq : (q : Int) < (eA g 0 0 1).toInt) : MB (gc (eA g 0 0) 30 q 0).toInt ∧ MB (gc (eA g 0 0) 30 q 1).toInt ∧ MB (gc (eA g 0 0) 30 q 2).toInt ∧ MB (gc (eA g 0 0) 30 q 3).toInt ∧ MB (gc (eA g 0 0) 30 q 5).toInt ∧ MB (gc (eA g 0 0) 30 q 6).toInt ∧ MB (eA g 0 0 121).toInt := by
  have gr := s.2.1.2.2.1.2.2 q hq
  have d := s.2.1.2.2.1.2.1
  have d : 0 ≤ (eA g 0 0 121).toInt ∧ (eA g 0 0 121).toInt ≤ 999 := d
  unfold GR at gr
  unfold MB
  omega
/-- the law of ink -/
theorem j_ink {h g : HS} {p l r : Int32} {z w : Int32 × HS} {q : Nat} (s : STD h g) (hp : p.toInt = (q : Int)) (hq : (q : Int) < (eA g 0 0 1).toInt) (qu : QUI l r) (e1 : f_X1_inkCost h p l r = some z) (e2 : f_X9_inkOf g p l r = some w) : z.1 = w.1 ∧ 0 ≤ w.1.toInt ∧ w.1.toInt ≤ 99 := by
  have y99 : (99 : Int32).toInt = 99 := rfl
  have y1 : (1 : Int32).toInt = 1 := rfl
  have y2 : (2 : Int32).toInt = 2 := rfl
  obtain ⟨n1, n0, n4⟩ := std_n s
  have s3 : eI h 1 3 = eA g 0 0 1 := s.1.1.1
  unfold f_X1_inkCost at e1
  obtain ⟨h1, a1, e1⟩ := ob1_some e1
  obtain ⟨r2, h2, a2, e1⟩ := ob2_some e1
  cases e1
  have f1 := w_f_X1_lookAtFilled _ _ _ _ _ a1
  unfold f_X1_lookAtFilled at a1
  obtain ⟨h0, a0, a1⟩ := ob1_some a1
  have lk := cp_lookAt (q := q) a0 hp (by rw [s3]; exact hq) (by rw [s3]; exact n1.2)
  unfold f_X9_inkOf at e2
  obtain ⟨r1, g1, b1, e2⟩ := ob2_some e2
  have tx1 : TXS h1 g (eA g 0 0 3).toInt := TXS_fr s.2.2 f1 (Fr_refl [] g) (by decide) (by decide)
  obtain ⟨u1, u2⟩ := rule_both (h := h1) (lw := 2) (by decide) (by decide) (by rw [f1.1 1 10 (by decide)]; exact s.1.1.2.2.2.2.2.2.2.1) n4 tx1 a2 b1
  have u1 : g = g1 := u1.symm
  subst u1
  rcases u2 with ⟨u2, -, -, u3⟩ | ⟨u2, u3⟩
  · have u2 : r1 = -1 := u2
    rw [if_pos u2] at e2
    cases e2
    have u3 : r2 = 1 := u3 (by decide) (by decide)
    refine ⟨u3, ?_⟩
    show 0 ≤ (1 : Int32).toInt ∧ (1 : Int32).toInt ≤ 99
    omega
  · have u2 : ¬ r1 = -1 := u2
    rw [if_neg u2] at e2
    obtain ⟨g3, b3, e2⟩ := ob1_some e2
    obtain ⟨r4, g4, b4, e2⟩ := ob2_some e2
    obtain ⟨r5, b5, e2⟩ := ob1_some e2
    cases e2
    have nm := mp_names (q := q) b3 hp (by omega)
    have f3 := w_f_X9_names _ _ _ _ _ _ b3
    have m := std_mb s hq
    have sy := u3 g3 (r4, g4) b4 (Fr_mono (by decide) f3) (fun k _ hk => ?_)
    · obtain ⟨v1, v2, v3, v4⟩ := sy
      have v3 : r2.toInt = hldI r4.toInt 99 := v3 rfl
      have v5 : r5.toInt = hldI r4.toInt 99 := by
        rcases held_ok b5 with v | v
        · exact v
        · omega
      refine ⟨gi_eq (v3.trans v5.symm), ?_⟩
      show 0 ≤ r5.toInt ∧ r5.toInt ≤ 99
      rw [v5]
      unfold hldI
      by_cases c1 : r4.toInt < 0
      · rw [if_pos c1]; omega
      · rw [if_neg c1]
        by_cases c2 : 99 < r4.toInt
        · rw [if_pos c2]; omega
        · rw [if_neg c2]; omega
    · have k6 : k < 6 := hk (by decide)
      have e1' : eA h1 6 1 = LK (eA h 6 1) p (gc (eA g 0 0) 30 q 0) (gc (eA g 0 0) 30 q 1) l r (eA g 0 0 121) := by
        cases a1
        show upd (upd (eA h0 6 1) 3 l) 4 r = _
        rw [lk]
        have g0 := sr_g s.1 hq (show 0 < 9 by decide)
        have g1 := sr_g s.1 hq (show 1 < 9 by decide)
        have d7 : eI h 1 7 = eA g 0 0 121 := s.1.1.2.2.2.2.1
        rw [g0, g1, d7]
        funext i
        unfold LK upd
        by_cases c4 : i = 4
        · rw [if_pos c4, if_neg (by omega), if_pos c4]
        · rw [if_neg c4]
          by_cases c3 : i = 3
          · rw [if_pos c3, if_neg (by omega), if_neg c4, if_pos c3]
          · rw [if_neg c3, if_neg c4, if_neg c3, if_neg c4, if_neg c3]
      rw [e1', nm]
      unfold QUI at qu
      exact LK_agree (by unfold MB; omega) m.1 m.2.1 (by unfold MB; omega) (by unfold MB; omega) m.2.2.2.2.2.2 k6
