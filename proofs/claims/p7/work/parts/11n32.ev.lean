/-! text 2: a law of the class against the reference's -/
theorem cp_stepAt_2 {h : HS} {i : Int32} {z : Int32 × HS} (e : f_X6_stepAt_2 h i = some z) (i0 : 0 ≤ i.toInt) (i1 : i.toInt < (eI h 11 5).toInt) (i2 : i.toInt < 300) : z = (eA h 11 2 i.toInt.toNat, h) := by
  have y0 : (0 : Int32).toInt = 0 := rfl
  have y300 : (300 : Int32).toInt = 300 := rfl
  unfold f_X6_stepAt_2 f_X6_stepAt_2_31 at e
  rw [if_neg (gi_nlt (by omega)), if_neg (gi_nle (by omega)), if_neg (gi_nle (by omega))] at e
  obtain ⟨-, e⟩ := ob_if e
  exact (Option.some.inj e).symm
theorem cp_firstStep_2 {h : HS} {i : Int32} {z : Int32 × HS} (e : f_X6_firstStep_2 h i = some z) (i0 : 0 ≤ i.toInt) (i1 : i.toInt < 4) : z = (eA h 11 3 i.toInt.toNat, h) := by
  have y0 : (0 : Int32).toInt = 0 := rfl
  have y4 : (4 : Int32).toInt = 4 := rfl
  unfold f_X6_firstStep_2 f_X6_firstStep_2_19 at e
  rw [if_neg (gi_nlt (by omega)), if_neg (gi_nle (by omega))] at e
  obtain ⟨-, e⟩ := ob_if e
  exact (Option.some.inj e).symm
theorem cp_stepsEnd_2 {h : HS} {i : Int32} {z : Int32 × HS} (e : f_X6_stepsEnd_2 h i = some z) (i0 : 0 ≤ i.toInt) (i1 : i.toInt < 4) : z = (eA h 11 4 i.toInt.toNat, h) := by
  have y0 : (0 : Int32).toInt = 0 := rfl
  have y4 : (4 : Int32).toInt = 4 := rfl
  unfold f_X6_stepsEnd_2 f_X6_stepsEnd_2_19 at e
  rw [if_neg (gi_nlt (by omega)), if_neg (gi_nle (by omega))] at e
  obtain ⟨-, e⟩ := ob_if e
  exact (Option.some.inj e).symm
theorem ev_loop_2 {st nc od vd nr : Nat → Int32} {d : Nat} {a : Int} {lw x4 : Int32} {b : Bool} {r : Int32 × HS} {w : Int64 × HS} (cd : CDR st od vd d a x4.toInt) (oe : (od (x4.toInt.toNat + d)).toInt = 408) (x300 : x4.toInt ≤ 300) (dd : d ≤ 1600) (na : NMA st nc nr a x4.toInt) (lb : lw.toInt = 3 → b = true) (a0 : 0 ≤ a) : ∀ (n : Nat) (h g : HS) (x5 x2 x3 : Int32) (m : Nat) (S : List Bool), f_X1_rule_46c n h lw x4 x5 = some r → f_X9_saysOf_4 m g x2 x3 = some w → eA h 11 2 = st → eA h 6 1 = nc → eA g 0 12 = od → eA g 0 13 = vd → eA g 0 39 = nr → a ≤ x5.toInt → x5.toInt ≤ x4.toInt → x4.toInt ≤ (eI h 11 5).toInt → x3.toInt = x5.toInt + (d : Int) → x2.toInt = (S.length : Int) → (eI h 6 3).toInt = (S.length : Int) → STK S (eA h 6 2) (eJ g 0 40) → ty st 22 (x4.toInt - x5.toInt).toNat x5.toInt.toNat S = some [b] → SAYS lw r w := by
  have z1 : (1 : Int32).toInt = 1 := rfl
  intro n
  induction n with
  | zero => intro h g x5 x2 x3 m S e; cases e
  | succ n ih =>
    intro h g x5 x2 x3 m S e e2 q1 q2 q3 q4 q5 i1 i2 i3 i4 i5 i6 sk tt
    rw [f_X1_rule_46c_s] at e
    have x3n : x3.toInt.toNat = x5.toInt.toNat + d := by omega
    by_cases c : x4 ≤ x5
    · rw [if_pos c] at e
      have dc := gi_of_le c
      rw [show (x4.toInt - x5.toInt).toNat = 0 by omega] at tt
      have hS : S = [b] := Option.some.inj tt
      subst hS
      refine ev_end e e2 ?_ i6 sk lb
      rw [q3, x3n, show x5.toInt = x4.toInt by omega]
      exact gi_eq (oe.trans rfl)
    · rw [if_neg c] at e
      have dc := gi_of_nle c
      obtain ⟨r28, h28, e28, e⟩ := ob2_some e
      have z28 := cp_stepAt_2 e28 (by omega) (by omega) (by omega)
      have hr : r28 = eA h 11 2 x5.toInt.toNat := congrArg Prod.fst z28
      have hh : h = h28 := (congrArg Prod.snd z28).symm
      subst hh
      subst hr
      obtain ⟨h29, e29, e⟩ := ob1_some e
      rw [show (x4.toInt - x5.toInt).toNat = (x4.toInt - x5.toInt - 1).toNat + 1 by omega] at tt
      obtain ⟨S', t1, t2, t3⟩ := ty_cons tt
      rw [q1] at e29
      have cr := cd x5.toInt.toNat (by omega) (by omega)
      have nm := na x5.toInt.toNat (by omega) (by omega)
      obtain ⟨m', g1, x2', v1, v2, v3, v4, v5, v6⟩ := ev_turn e29 e2 (by rw [q3, q4, x3n]; exact cr) (by rw [q2, q5]; exact nm) t1 t2 i6 i5 sk
      have a1 := fb_addI (x := x5) (y := 1) (by omega) (by omega)
      have a2 := fb_addI (x := x3) (y := 1) (by omega) (by omega)
      refine ih h29 g1 (x5 + 1) x2' (x3 + 1) m' S' e v1 ((v5.2.1 11 2 (by decide)).trans q1) ((v5.2.1 6 1 (by decide)).trans q2) ((v6.2.1 0 12 (by decide)).trans q3) ((v6.2.1 0 13 (by decide)).trans q4) ((v6.2.1 0 39 (by decide)).trans q5) (by omega) (by omega) (by rw [v5.1 11 5 (by decide)]; exact i3) (by omega) v2 v3 v4 ?_
      rw [show (x4.toInt - (x5 + 1).toInt).toNat = (x4.toInt - x5.toInt - 1).toNat by omega, show (x5 + 1).toInt.toNat = x5.toInt.toNat + 1 by omega]
      exact t3
/-- a law that text 2 tells -/
theorem ev_rule_2 {h g g' : HS} {lw : Int32} {c : Nat} {r : Int32 × HS} {w : Int64 × HS} {r5 r6 : Int32} {h5 h6 : HS} (l0 : 0 ≤ lw.toInt) (l3 : lw.toInt ≤ 3) (tx : TXF 11 2 h g) (ty0 : TYL 11 h) (hc : (c : Int) < (eI h 11 1).toInt) (hw : (eA g 0 7 (24 * 2 + c)).toInt = lw.toInt) (nn : ¬ eA h 11 3 lw.toInt.toNat = -1) (e5 : f_X6_stepsEnd_2 (sI h 6 3 0) lw = some (r5, h5)) (e6 : f_X6_firstStep_2 h5 lw = some (r6, h6)) (e : f_X1_rule_46c 8589934592 h6 lw r5 r6 = some r) (e2 : f_X9_saysOf g' (eA g 0 8 (24 * 2 + c)) = some w) (fg : Fr [(1, 0, 39), (3, 0, 40)] g g') (na : ∀ k : Nat, k < 9 → (2 ≤ lw.toInt → k < 6) → eA h 6 1 k = eA g' 0 39 k ∧ MB (eA h 6 1 k).toInt) : SAYS lw r w := by
  have y0 : (0 : Int32).toInt = 0 := rfl
  have z5 := cp_stepsEnd_2 e5 l0 (by omega)
  have r5e : r5 = eA h 11 4 lw.toInt.toNat := congrArg Prod.fst z5
  have h5e : h5 = sI h 6 3 0 := congrArg Prod.snd z5
  subst h5e
  have z6 := cp_firstStep_2 e6 l0 (by omega)
  have r6e : r6 = eA h 11 3 lw.toInt.toNat := congrArg Prod.fst z6
  have h6e : h6 = sI h 6 3 0 := congrArg Prod.snd z6
  subst h6e
  obtain ⟨x1, x2, x3, x4, x5⟩ := tx
  obtain ⟨-, -, -, y4, -⟩ := x4 c hc
  have lf := y4 (by omega)
  rw [hw] at lf
  obtain ⟨f1, f2, f3, f4, f5, f6⟩ := lf
  obtain ⟨t1, t2, t3, t4, t5⟩ := ty0 lw.toInt.toNat (by omega) nn
  rw [← r6e] at t1
  rw [← r5e, ← r6e] at t2 t4 t5
  rw [← r5e] at t3 f2 f3 f5 f6
  rw [← r6e] at f1 f2 f4 f5
  unfold f_X9_saysOf at e2
  refine ev_loop_2 (st := eA h 11 2) (nc := eA h 6 1) (od := eA g 0 12) (vd := eA g 0 13) (nr := eA g' 0 39) (d := 400 * 2 + c) (a := r6.toInt) (b := decide (lw.toInt.toNat = 3)) f5 f6 (by omega) (by omega) ?_ (fun q => decide_eq_true (by omega)) t1 _ (sI h 6 3 0) g' r6 0 (eA g 0 8 (24 * 2 + c)) _ [] e e2 rfl rfl (fg.2.1 0 12 (by decide)) (fg.2.1 0 13 (by decide)) rfl (Int.le_refl _) t2 t3 ?_ rfl rfl trivial t4
  · intro i j1 j2 j3 j4
    have cr := f5 i j1 j2
    have rg : (eA h 11 2 i).toInt ≤ 10008 := by
      rcases cr with q | q | q
      · omega
      · omega
      · have := q.1; omega
    refine na _ (by omega) (fun l2 => ?_)
    rcases t5 (by omega) i j1 j2 with q | q
    · omega
    · omega
  · rw [f4]
    omega
