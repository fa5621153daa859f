/-! one turn of both -/
theorem i32_m1 (x : Int32) : x + (-1) = x - 1 := (Int32.sub_eq_add_neg x 1).symm
theorem cp_push {h h' : HS} {p : Int64} (e : f_X1_push h p = some h') (t0 : 0 ≤ (eI h 6 3).toInt) (t1 : (eI h 6 3).toInt < 40) : ∃ y : Int32, y.toInt = clampI p.toInt ∧ h' = sI (sA h 6 2 (upd (eA h 6 2) (eI h 6 3).toInt.toNat y)) 6 3 (eI h 6 3 + 1) := by
  have y0 : (0 : Int32).toInt = 0 := rfl
  have y40 : (40 : Int32).toInt = 40 := rfl
  have z1 : (1000000 : Int64).toInt = 1000000 := rfl
  have z2 : (-1000000 : Int64).toInt = -1000000 := rfl
  unfold f_X1_push f_X1_push_55 f_X1_push_66 at e
  rw [if_neg (gi_nlt (by omega)), if_neg (gi_nle (by omega))] at e
  unfold clampI
  by_cases c1 : lg_cmp p 1000000 ≤ 0
  · rw [if_pos c1] at e
    have d1 := q_le c1
    by_cases c2 : 0 ≤ lg_cmp p (-1000000)
    · rw [if_pos c2] at e
      have d2 := q_ge c2
      obtain ⟨-, e⟩ := ob_if e
      refine ⟨p.toInt32, ?_, (Option.some.inj e).symm⟩
      rw [if_neg (by omega), if_neg (by omega), Int64.toInt_toInt32, fb_bmod (by omega) (by omega)]
    · rw [if_neg c2] at e
      have d2 := q_nge c2
      obtain ⟨-, e⟩ := ob_if e
      refine ⟨-1000000, ?_, (Option.some.inj e).symm⟩
      rw [if_neg (by omega), if_pos (by omega)]
      rfl
  · rw [if_neg c1] at e
    have d1 := q_nle c1
    obtain ⟨-, e⟩ := ob_if e
    refine ⟨1000000, ?_, (Option.some.inj e).symm⟩
    rw [if_pos (by omega)]
    rfl
theorem cp_pop {h : HS} {z : Int32 × HS} (e : f_X1_pop h = some z) (t0 : 1 ≤ (eI h 6 3).toInt) (t1 : (eI h 6 3).toInt ≤ 40) : z = (eA h 6 2 ((eI h 6 3).toInt - 1).toNat, sI h 6 3 (eI h 6 3 - 1)) ∧ (eI h 6 3 - 1).toInt = (eI h 6 3).toInt - 1 := by
  have y1 : (1 : Int32).toInt = 1 := rfl
  have y40 : (40 : Int32).toInt = 40 := rfl
  have s := fb_subI (x := eI h 6 3) (y := 1) (by omega) (by omega)
  unfold f_X1_pop at e
  rw [if_neg (gi_nlt (by omega)), if_pos (gi_le (by omega))] at e
  obtain ⟨-, e⟩ := ob_if e
  have ix : (eI h 6 3 - 1).toNatClampNeg = ((eI h 6 3).toInt - 1).toNat := by
    show (eI h 6 3 - 1).toInt.toNat = _
    rw [s, y1]
  rw [ix] at e
  exact ⟨(Option.some.inj e).symm, by omega⟩
theorem ST6 (h : HS) (v : Nat → Int32) (x : Int32) : Fr [(1, 6, 2), (0, 6, 3)] h (sI (sA h 6 2 v) 6 3 x) := Fr_sI (by decide) (Fr_sA (by decide) (Fr_refl _ _))
theorem JT40 (g : HS) (v : Nat → Int64) : Fr [(3, 0, 40)] g (sJ g 0 40 v) := Fr_sJ (by decide) (Fr_refl _ _)
def EVR (h h1 g : HS) (x3 : Int32) (w : Int64 × HS) (S' : List Bool) : Prop := ∃ (m' : Nat) (g1 : HS) (x2' : Int32), f_X9_saysOf_4 m' g1 x2' (x3 + 1) = some w ∧ x2'.toInt = (S'.length : Int) ∧ (eI h1 6 3).toInt = (S'.length : Int) ∧ STK S' (eA h1 6 2) (eJ g1 0 40) ∧ Fr [(1, 6, 2), (0, 6, 3)] h h1 ∧ Fr [(3, 0, 40)] g g1
/-- a number or a name is laid upon both -/
theorem ev_leaf {h h1 g : HS} {p : Int64} {v : Int64} {x2 x3 : Int32} {m : Nat} {w : Int64 × HS} {S : List Bool} (e1 : f_X1_push h p = some h1) (e2 : f_X9_saysOf_75 (f_X9_saysOf_4 m) g x2 x3 v x2 = some w) (pv : p = v) (mb : MB p.toInt) (sl : S.length + 1 ≤ 22) (tp : (eI h 6 3).toInt = (S.length : Int)) (px : x2.toInt = (S.length : Int)) (sk : STK S (eA h 6 2) (eJ g 0 40)) : EVR h h1 g x3 w (false :: S) := by
  have z1 : (1 : Int32).toInt = 1 := rfl
  subst pv
  obtain ⟨y, y1, y2⟩ := cp_push e1 (by omega) (by omega)
  rw [clamp_id mb] at y1
  unfold f_X9_saysOf_75 f_X9_saysOf_169 at e2
  obtain ⟨-, e2⟩ := ob_if e2
  have ix : x2.toNatClampNeg = S.length := by
    show x2.toInt.toNat = _
    omega
  have iy : (eI h 6 3).toInt.toNat = S.length := by omega
  rw [ix] at e2
  rw [iy] at y2
  have a1 := fb_addI (x := x2) (y := 1) (by omega) (by omega)
  have a2 := fb_addI (x := eI h 6 3) (y := 1) (by omega) (by omega)
  subst y2
  refine ⟨m, _, x2 + 1, e2, ?_, ?_, ?_, ST6 _ _ _, JT40 _ _⟩
  · show (x2 + 1).toInt = ((S.length + 1 : Nat) : Int); omega
  · show (eI h 6 3 + 1).toInt = ((S.length + 1 : Nat) : Int); omega
  · exact STK_push sk y1.symm (by rw [y1]; exact mb) (fun q => by cases q)
/-- one value is turned -/
theorem ev_un {h h3 h1 g : HS} {r3 : Int32} {p v : Int64} {x2 x3 : Int32} {m : Nat} {w : Int64 × HS} {b : Bool} {R : List Bool} (e3 : f_X1_pop h = some (r3, h3)) (e1 : f_X1_push h3 p = some h1) (e2 : f_X9_saysOf_4 m (sJ g 0 40 (vp_updL (eJ g 0 40) (x2 - 1).toNatClampNeg v)) x2 (x3 + 1) = some w) (sl : R.length + 1 ≤ 22) (tp : (eI h 6 3).toInt = (R.length : Int) + 1) (px : x2.toInt = (R.length : Int) + 1) (sk : STK R (eA h 6 2) (eJ g 0 40)) (pv : r3 = eA h 6 2 R.length → p.toInt = v.toInt ∧ MB p.toInt ∧ (b = true → p.toInt = 0 ∨ p.toInt = 1)) : EVR h h1 g x3 w (b :: R) := by
  have z1 : (1 : Int32).toInt = 1 := rfl
  obtain ⟨q1, q2⟩ := cp_pop e3 (by omega) (by omega)
  have iz : ((eI h 6 3).toInt - 1).toNat = R.length := by omega
  rw [iz] at q1
  have r3e : r3 = eA h 6 2 R.length := congrArg Prod.fst q1
  have h3e : h3 = sI h 6 3 (eI h 6 3 - 1) := congrArg Prod.snd q1
  obtain ⟨v1, v2, v3⟩ := pv r3e
  have t3 : (eI h3 6 3).toInt = (R.length : Int) := by
    rw [h3e]
    show (eI h 6 3 - 1).toInt = _
    omega
  obtain ⟨y, y1, y2⟩ := cp_push e1 (by omega) (by omega)
  rw [clamp_id v2] at y1
  have iy : (eI h3 6 3).toInt.toNat = R.length := by omega
  rw [iy] at y2
  have s := fb_subI (x := x2) (y := 1) (by omega) (by omega)
  have ix : (x2 - 1).toNatClampNeg = R.length := by
    show (x2 - 1).toInt.toNat = _
    omega
  rw [ix] at e2
  have a2 := fb_addI (x := eI h3 6 3) (y := 1) (by omega) (by omega)
  have st3 : eA h3 6 2 = eA h 6 2 := by rw [h3e]; rfl
  rw [st3] at y2
  have f3 : Fr [(1, 6, 2), (0, 6, 3)] h h3 := by rw [h3e]; exact Fr_sI (by decide) (Fr_refl _ _)
  subst y2
  refine ⟨m, _, x2, e2, ?_, ?_, ?_, Fr_trans f3 (ST6 _ _ _), JT40 _ _⟩
  · show x2.toInt = ((R.length + 1 : Nat) : Int); omega
  · show (eI h3 6 3 + 1).toInt = ((R.length + 1 : Nat) : Int); omega
  · exact STK_push sk (by rw [y1]; exact v1.symm) (by rw [y1]; exact v2) (fun q => by rw [y1]; exact v3 q)
/-- two values are joined -/
theorem ev_bin {h h3 h8 h1 g : HS} {r3 r8 k p : Int32} {r9 r10 : Int64} {x2 x3 : Int32} {m : Nat} {w : Int64 × HS} {b c : Bool} {R : List Bool} (e3 : f_X1_pop h = some (r3, h3)) (e8 : f_X1_pop h3 = some (r8, h8)) (e9 : f_X1_joined k r8.toInt64 r3.toInt64 = some r9) (e1 : f_X1_push h8 r9 = some h1) (e10 : f_X9_worked p (eJ g 0 40 R.length) (eJ g 0 40 (R.length + 1)) = some r10) (e2 : f_X9_saysOf_4 m (sJ g 0 40 (vp_updL (eJ g 0 40) R.length r10)) x2 (x3 + 1) = some w) (o : OPR k.toInt p.toInt) (n1 : ¬ k.toInt = 28) (n2 : ¬ k.toInt = 38) (sl : R.length + 1 ≤ 22) (tp : (eI h 6 3).toInt = (R.length : Int) + 2) (px : x2.toInt = (R.length : Int) + 1) (sk : STK (b :: b :: R) (eA h 6 2) (eJ g 0 40)) (hb : (k.toInt = 26 ∨ k.toInt = 27) → b = true) (hc : c = true → ¬ (9 ≤ k.toInt ∧ k.toInt ≤ 12)) : EVR h h1 g x3 w (c :: R) := by
  have z1 : (1 : Int32).toInt = 1 := rfl
  obtain ⟨q1, q2⟩ := cp_pop e3 (by omega) (by omega)
  have iz : ((eI h 6 3).toInt - 1).toNat = R.length + 1 := by omega
  rw [iz] at q1
  have r3e : r3 = eA h 6 2 (R.length + 1) := congrArg Prod.fst q1
  have h3e : h3 = sI h 6 3 (eI h 6 3 - 1) := congrArg Prod.snd q1
  have t3 : (eI h3 6 3).toInt = (R.length : Int) + 1 := by
    rw [h3e]
    show (eI h 6 3 - 1).toInt = _
    omega
  have st3 : eA h3 6 2 = eA h 6 2 := by rw [h3e]; rfl
  have f3 : Fr [(1, 6, 2), (0, 6, 3)] h h3 := by rw [h3e]; exact Fr_sI (by decide) (Fr_refl _ _)
  obtain ⟨q3, q4⟩ := cp_pop e8 (by omega) (by omega)
  have iw : ((eI h3 6 3).toInt - 1).toNat = R.length := by omega
  rw [iw, st3] at q3
  have r8e : r8 = eA h 6 2 R.length := congrArg Prod.fst q3
  have h8e : h8 = sI h3 6 3 (eI h3 6 3 - 1) := congrArg Prod.snd q3
  have t8 : (eI h8 6 3).toInt = (R.length : Int) := by
    rw [h8e]
    show (eI h3 6 3 - 1).toInt = _
    omega
  have st8 : eA h8 6 2 = eA h 6 2 := by rw [h8e, ← st3]; rfl
  have f8 : Fr [(1, 6, 2), (0, 6, 3)] h3 h8 := by rw [h8e]; exact Fr_sI (by decide) (Fr_refl _ _)
  obtain ⟨s1, s2, s3, s4, s5, s6, s7⟩ := sk
  have s1 : (eJ g 0 40 (R.length + 1)).toInt = (eA h 6 2 (R.length + 1)).toInt := s1
  have s2 : MB (eA h 6 2 (R.length + 1)).toInt := s2
  have s3 : b = true → (eA h 6 2 (R.length + 1)).toInt = 0 ∨ (eA h 6 2 (R.length + 1)).toInt = 1 := s3
  have x8 : r8.toInt64 = eJ g 0 40 R.length := Int64.toInt_inj.mp (by rw [Int32.toInt_toInt64, r8e]; exact s4.symm)
  have x3e : r3.toInt64 = eJ g 0 40 (R.length + 1) := Int64.toInt_inj.mp (by rw [Int32.toInt_toInt64, r3e]; exact s1.symm)
  rw [x8, x3e] at e9
  obtain ⟨j1, j2, j3⟩ := jw o n1 n2 (by rw [s4]; exact s5) (by rw [s1]; exact s2) (fun q => ⟨by rw [s4]; exact s6 (hb q), by rw [s1]; exact s3 (hb q)⟩) e9 e10
  obtain ⟨y, y1, y2⟩ := cp_push e1 (by omega) (by omega)
  rw [j1] at y1
  have iy : (eI h8 6 3).toInt.toNat = R.length := by omega
  rw [iy, st8] at y2
  have a2 := fb_addI (x := eI h8 6 3) (y := 1) (by omega) (by omega)
  subst y2
  refine ⟨m, _, x2, e2, ?_, ?_, ?_, Fr_trans f3 (Fr_trans f8 (ST6 _ _ _)), JT40 _ _⟩
  · show x2.toInt = ((R.length + 1 : Nat) : Int); omega
  · show (eI h8 6 3 + 1).toInt = ((R.length + 1 : Nat) : Int); omega
  · exact STK_push s7 y1.symm (by rw [y1]; exact j2) (fun q => by rw [y1]; exact j3 (hc q))
theorem ev_turn {h h1 g : HS} {s x2 x3 : Int32} {m : Nat} {w : Int64 × HS} {S S' : List Bool} (e1 : f_X1_take h s = some h1) (e2 : f_X9_saysOf_4 m g x2 x3 = some w) (cr : CR s.toInt (eA g 0 12 x3.toInt.toNat).toInt (eA g 0 13 x3.toInt.toNat).toInt) (nm : 10000 ≤ s.toInt → s.toInt < 20000 → eA h 6 1 (s.toInt - 10000).toNat = eA g 0 39 (s.toInt - 10000).toNat ∧ MB (eA h 6 1 (s.toInt - 10000).toNat).toInt) (st : step1 s.toInt S = some S') (sl : S'.length ≤ 22) (tp : (eI h 6 3).toInt = (S.length : Int)) (px : x2.toInt = (S.length : Int)) (sk : STK S (eA h 6 2) (eJ g 0 40)) : EVR h h1 g x3 w S' := by
  have y9 : (9 : Int32).toInt = 9 := rfl
  have y28 : (28 : Int32).toInt = 28 := rfl
  have y38 : (38 : Int32).toInt = 38 := rfl
  have y400 : (400 : Int32).toInt = 400 := rfl
  have y401 : (401 : Int32).toInt = 401 := rfl
  have y402 : (402 : Int32).toInt = 402 := rfl
  have y405 : (405 : Int32).toInt = 405 := rfl
  have y408 : (408 : Int32).toInt = 408 := rfl
  have y1 : (1 : Int32).toInt = 1 := rfl
  have y10000 : (10000 : Int32).toInt = 10000 := rfl
  have y20000 : (20000 : Int32).toInt = 20000 := rfl
  have ix3 : x3.toNatClampNeg = x3.toInt.toNat := rfl
  cases m with
  | zero => cases e2
  | succ m =>
    rw [f_X9_saysOf_4_s, ix3] at e2
    obtain ⟨r3, e2⟩ := ob_if e2
    unfold f_X1_take f_X1_take_128 at e1
    rcases cr with ⟨c1, c2, c3, c4⟩ | ⟨c1, c2, c3, c4⟩ | ⟨c1, c2⟩
    · obtain rfl := step1_num (by omega) st
      rw [if_neg (gi_nle (by omega))] at e1
      obtain ⟨h13, e13, e1⟩ := ob1_some e1
      cases e1
      rw [if_neg (gi_ne (by omega))] at e2
      obtain ⟨-, e2⟩ := ob_if e2
      rw [if_pos (gi_eq (by omega))] at e2
      unfold f_X9_saysOf_40 at e2
      rw [if_pos (gi_eq (by omega)), ix3] at e2
      obtain ⟨-, e2⟩ := ob_if e2
      have ev : eA g 0 13 x3.toInt.toNat = s := gi_eq c4
      rw [ev] at e2
      exact ev_leaf e13 e2 rfl (by rw [Int32.toInt_toInt64]; unfold MB; omega) sl tp px sk
    · obtain rfl := step1_num (by omega) st
      have sb := fb_subI (x := s) (y := 10000) (by omega) (by omega)
      rw [if_pos (gi_le (by omega)), if_neg (gi_nle (by omega)), if_neg (gi_nle (by omega))] at e1
      obtain ⟨-, e1⟩ := ob_if e1
      unfold f_X1_take_47 f_X1_take_128 at e1
      obtain ⟨h13, e13, e1⟩ := ob1_some e1
      cases e1
      rw [if_neg (gi_ne (by omega))] at e2
      obtain ⟨-, e2⟩ := ob_if e2
      rw [if_neg (gi_ne (by omega)), if_pos (gi_eq (by omega))] at e2
      unfold f_X9_saysOf_40 at e2
      rw [if_neg (gi_ne (by omega)), ix3] at e2
      obtain ⟨-, e2⟩ := ob_if e2
      obtain ⟨-, e2⟩ := ob_if e2
      obtain ⟨n1, n2⟩ := nm (by omega) (by omega)
      have i1 : (s - 10000).toNatClampNeg = (s.toInt - 10000).toNat := by
        show (s - 10000).toInt.toNat = _
        rw [sb, y10000]
      have i2 : (eA g 0 13 x3.toInt.toNat).toNatClampNeg = (s.toInt - 10000).toNat := by
        show (eA g 0 13 x3.toInt.toNat).toInt.toNat = _
        rw [c4]
      rw [i1] at e13
      rw [i2] at e2
      exact ev_leaf e13 e2 (by rw [n1]) (by rw [Int32.toInt_toInt64]; exact n2) sl tp px sk
    · have sr := fb_rng s
      have sb := fb_subI (x := s) (y := 20000) (by omega) (by omega)
      rw [y20000] at sb
      rw [if_pos (gi_le (by omega)), if_pos (gi_le (by omega))] at e1
      obtain ⟨r3', h3, e3, e1⟩ := ob2_some e1
      by_cases k28 : s.toInt - 20000 = 28
      · rw [if_pos (gi_eq (by omega))] at e1
        obtain ⟨h5, e5, e1⟩ := ob1_some e1
        cases e1
        rw [show s.toInt = 20028 by omega] at st
        obtain ⟨R, rfl, rfl⟩ := step1_not st
        have od : (eA g 0 12 x3.toInt.toNat).toInt = 405 := by unfold OPR at c2; omega
        rw [if_neg (gi_ne (by omega))] at e2
        obtain ⟨-, e2⟩ := ob_if e2
        rw [if_neg (gi_ne (by omega)), if_neg (gi_ne (by omega)), if_neg (gi_ne (by omega)), if_pos (gi_eq (by omega))] at e2
        obtain ⟨-, e2⟩ := ob_if e2
        obtain ⟨-, e2⟩ := ob_if e2
        unfold f_X9_saysOf_169 at e2
        obtain ⟨s1, s2, s3, s4⟩ := sk
        have tp : (eI h 6 3).toInt = ((R.length + 1 : Nat) : Int) := tp
        have px : x2.toInt = ((R.length + 1 : Nat) : Int) := px
        have xs := fb_subI (x := x2) (y := 1) (by omega) (by omega)
        have ip : (x2 - 1).toNatClampNeg = R.length := by
          show (x2 - 1).toInt.toNat = _
          omega
        refine ev_un e3 e5 e2 sl (by omega) (by omega) s4 (fun q => ?_)
        subst q
        rw [ip]
        have b3 := s3 rfl
        have v : (1 - eA h 6 2 R.length).toInt = 1 - (eA h 6 2 R.length).toInt := by
          have := fb_subI (x := 1) (y := eA h 6 2 R.length) (by omega) (by omega)
          omega
        have u : (1 - eJ g 0 40 R.length).toInt = 1 - (eJ g 0 40 R.length).toInt := by
          have z : (1 : Int64).toInt = 1 := rfl
          have := q_sub (x := 1) (y := eJ g 0 40 R.length) (by rw [z]; unfold MB; omega) (by rw [s1]; exact s2)
          omega
        rw [Int32.toInt_toInt64, v, u, s1]
        exact ⟨rfl, by unfold MB; omega, fun _ => by omega⟩
      · rw [if_neg (gi_ne (by omega))] at e1
        by_cases k38 : s.toInt - 20000 = 38
        · rw [if_pos (gi_eq (by omega))] at e1
          obtain ⟨h5, e5, e1⟩ := ob1_some e1
          cases e1
          rw [show s.toInt = 20038 by omega] at st
          obtain ⟨R, rfl, rfl⟩ := step1_neg st
          have od : (eA g 0 12 x3.toInt.toNat).toInt = 402 := by unfold OPR at c2; omega
          rw [if_neg (gi_ne (by omega))] at e2
          obtain ⟨-, e2⟩ := ob_if e2
          rw [if_neg (gi_ne (by omega)), if_neg (gi_ne (by omega)), if_pos (gi_eq (by omega))] at e2
          obtain ⟨-, e2⟩ := ob_if e2
          obtain ⟨-, e2⟩ := ob_if e2
          unfold f_X9_saysOf_169 at e2
          obtain ⟨s1, s2, s3, s4⟩ := sk
          have tp : (eI h 6 3).toInt = ((R.length + 1 : Nat) : Int) := tp
          have px : x2.toInt = ((R.length + 1 : Nat) : Int) := px
          have xs := fb_subI (x := x2) (y := 1) (by omega) (by omega)
          have ip : (x2 - 1).toNatClampNeg = R.length := by
            show (x2 - 1).toInt.toNat = _
            omega
          refine ev_un e3 e5 e2 sl (by omega) (by omega) s4 (fun q => ?_)
          subst q
          rw [ip]
          have v : (-(eA h 6 2 R.length)).toInt = -(eA h 6 2 R.length).toInt := by
            unfold MB at s2
            rw [Int32.toInt_neg, fb_bmod (by omega) (by omega)]
          have u : (-(eJ g 0 40 R.length)).toInt = -(eJ g 0 40 R.length).toInt := q_neg (by rw [s1]; exact s2)
          rw [Int32.toInt_toInt64, v, u, s1]
          exact ⟨rfl, by unfold MB at *; omega, fun q => by cases q⟩
        · rw [if_neg (gi_ne (by omega))] at e1
          obtain ⟨r8, h8, e8, e1⟩ := ob2_some e1
          obtain ⟨r9, e9, e1⟩ := ob1_some e1
          obtain ⟨h10, e10, e1⟩ := ob1_some e1
          cases e1
          obtain ⟨R, b, c, rfl, rfl, hb, hc⟩ := step1_bin (by omega) (by omega) (by omega) st
          have od : ¬ (eA g 0 12 x3.toInt.toNat).toInt = 408 ∧ ¬ (eA g 0 12 x3.toInt.toNat).toInt = 400 ∧ ¬ (eA g 0 12 x3.toInt.toNat).toInt = 401 ∧ ¬ (eA g 0 12 x3.toInt.toNat).toInt = 402 ∧ ¬ (eA g 0 12 x3.toInt.toNat).toInt = 405 := by unfold OPR at c2; omega
          rw [if_neg (gi_ne (by omega))] at e2
          obtain ⟨-, e2⟩ := ob_if e2
          rw [if_neg (gi_ne (by omega)), if_neg (gi_ne (by omega)), if_neg (gi_ne (by omega)), if_neg (gi_ne (by omega))] at e2
          obtain ⟨-, e2⟩ := ob_if e2
          obtain ⟨-, e2⟩ := ob_if e2
          obtain ⟨r10, e11, e2⟩ := ob1_some e2
          obtain ⟨-, e2⟩ := ob_if e2
          unfold f_X9_saysOf_169 at e2
          have tp : (eI h 6 3).toInt = ((R.length + 1 + 1 : Nat) : Int) := tp
          have px : x2.toInt = ((R.length + 1 + 1 : Nat) : Int) := px
          have sl : R.length + 1 ≤ 22 := sl
          have hy' : (x2 + (-1)).toInt = x2.toInt - 1 := by
            rw [i32_m1]
            have s := fb_subI (x := x2) (y := 1) (by omega) (by omega)
            omega
          generalize x2 + (-1) = y at e2 e11 hy'
          have a2 := fb_subI (x := y) (y := 1) (by omega) (by omega)
          have i1 : y.toNatClampNeg = R.length + 1 := by
            show y.toInt.toNat = _
            omega
          have i2 : (y - 1).toNatClampNeg = R.length := by
            show (y - 1).toInt.toNat = _
            omega
          rw [i1, i2] at e11
          rw [i2] at e2
          exact ev_bin e3 e8 e9 e10 e11 e2 (by rw [sb]; exact c2) (by rw [sb]; exact k28) (by rw [sb]; exact k38) sl (by omega) (by omega) sk (by rw [sb]; exact hb) (by rw [sb]; exact hc)
