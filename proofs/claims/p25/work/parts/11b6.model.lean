theorem u_X9_answer (h : HS) (p1 : Int32) (hI : IM h) : ok (f_X9_answer h p1) (fun a => SM h a.2 ∧ True) := by
  unfold f_X9_answer
  refine ok_ob2 (u_X9_led h p1 0 ((SM_refl hI)).1) (fun r1 h1 k1 => ?_)
  have s1 : SM h h1 := SM_trans (b := h) (SM_refl hI) k1.1
  refine ok_if (fun c2 => ?_) (fun c2 => ?_)
  · unfold f_X9_answer_40
    exact ok_some ⟨s1, trivial⟩
  · refine ok_ob2 (u_X9_ofGoose h1 r1 7 (s1).1 (by have : ((r1).toInt = -1 ∨ (0 ≤ (r1).toInt ∧ (r1).toInt ≤ 9)) := k1.2; have := gi_of_ne c2; have : ((-1) : Int32).toInt = -1 := rfl; have := fb_rng (r1); omega) (by have : ((r1).toInt = -1 ∨ (0 ≤ (r1).toInt ∧ (r1).toInt ≤ 9)) := k1.2; have : (7 : Int32).toInt = 7 := rfl; omega)) (fun r3 h3 k3 => ?_)
    have e3 : h1 = h3 := k3.1.symm
    subst e3
    refine ok_ob2 (u_X9_ofGoose h1 r1 5 (s1).1 (by have : ((r1).toInt = -1 ∨ (0 ≤ (r1).toInt ∧ (r1).toInt ≤ 9)) := k1.2; have := gi_of_ne c2; have : ((-1) : Int32).toInt = -1 := rfl; have := fb_rng (r1); omega) (by have : ((r1).toInt = -1 ∨ (0 ≤ (r1).toInt ∧ (r1).toInt ≤ 9)) := k1.2; have : (5 : Int32).toInt = 5 := rfl; omega)) (fun r4 h4 k4 => ?_)
    have e4 : h1 = h4 := k4.1.symm
    subst e4
    refine ok_chk (by have : ((r1).toInt = -1 ∨ (0 ≤ (r1).toInt ∧ (r1).toInt ≤ 9)) := k1.2; have : -1 ≤ r4.toInt ∧ r4.toInt ≤ 3 := k4.2.2.2 rfl; have : (10 : Int32).toInt = 10 := rfl; have : (3 : Int32).toInt = 3 := rfl; have := fb_rng (r4); (try have := fb_mulJ (x := 3) (y := r4) (k := 3) rfl (by omega) (by omega)); (try have := fb_addI (x := 10) (y := (3 * r4)) (by omega) (by omega)); omega) ?_
    unfold f_X9_answer_40
    exact ok_some ⟨s1, trivial⟩
theorem u_X9_plucks_12 {h0 : HS} (x1 : Int32) : ∀ (n : Nat) (h : HS) (x2 : Int32), SM h0 h → 0 ≤ x2.toInt → (0 ≤ x1.toInt ∧ x1.toInt ≤ 9) → 0 < n → (100 - (x2).toInt : Int) < (n : Int) → ok (f_X9_plucks_12  n h x1 x2) (fun a => SM h0 a.2 ∧ True) := by
  intro n
  induction n with
  | zero =>
    intro h x2 hSC i0 i1 hn hm
    exact absurd hn (by decide)
  | succ n ih_X9_plucks_12 =>
    intro h x2 hSC i0 i1 hn hm
    rw [f_X9_plucks_12_s]
    refine ok_ob2 (u_X9_ofGoose h x1 1 (hSC).1 (by have := i0; have := i1; have := hm; have := fb_rng (x1); omega) (by have := i0; have := i1; have := hm; have : (1 : Int32).toInt = 1 := rfl; omega)) (fun r1 h1 k1 => ?_)
    have e1 : h = h1 := k1.1.symm
    subst e1
    refine ok_if (fun c2 => ?_) (fun c2 => ?_)
    · exact ok_some ⟨hSC, trivial⟩
    · refine ok_ob2 (u_X9_ofGoose h x1 2 (hSC).1 (by have := i0; have := i1; have := hm; have : 0 ≤ r1.toInt ∧ r1.toInt ≤ 99 := k1.2.1 rfl; have := fb_rng (x1); omega) (by have := i0; have := i1; have := hm; have : 0 ≤ r1.toInt ∧ r1.toInt ≤ 99 := k1.2.1 rfl; have : (2 : Int32).toInt = 2 := rfl; omega)) (fun r3 h3 k3 => ?_)
      have e3 : h = h3 := k3.1.symm
      subst e3
      refine ok_ob2 (u_X9_ofGoose h x1 3 (hSC).1 (by have := i0; have := i1; have := hm; have : 0 ≤ r1.toInt ∧ r1.toInt ≤ 99 := k1.2.1 rfl; have := fb_rng (x1); omega) (by have := i0; have := i1; have := hm; have : 0 ≤ r1.toInt ∧ r1.toInt ≤ 99 := k1.2.1 rfl; have : (3 : Int32).toInt = 3 := rfl; omega)) (fun r4 h4 k4 => ?_)
      have e4 : h = h4 := k4.1.symm
      subst e4
      refine ok_ob2 (u_X9_ofGoose h x1 1 (hSC).1 (by have := i0; have := i1; have := hm; have : 0 ≤ r1.toInt ∧ r1.toInt ≤ 99 := k1.2.1 rfl; have : -1 ≤ r4.toInt ∧ r4.toInt ≤ 2 := k4.2.2.1 rfl; have := fb_rng (x1); omega) (by have := i0; have := i1; have := hm; have : 0 ≤ r1.toInt ∧ r1.toInt ≤ 99 := k1.2.1 rfl; have : -1 ≤ r4.toInt ∧ r4.toInt ≤ 2 := k4.2.2.1 rfl; have : (1 : Int32).toInt = 1 := rfl; omega)) (fun r5 h5 k5 => ?_)
      have e5 : h = h5 := k5.1.symm
      subst e5
      refine ok_ob2 (u_X9_isTrueBy h x1 r3 r4 (r5 - x2) (hSC).1 (by have := i0; have := i1; have := hm; have : 0 ≤ r1.toInt ∧ r1.toInt ≤ 99 := k1.2.1 rfl; have : -1 ≤ r4.toInt ∧ r4.toInt ≤ 2 := k4.2.2.1 rfl; have : 0 ≤ r5.toInt ∧ r5.toInt ≤ 99 := k5.2.1 rfl; have := fb_rng (x1); omega)) (fun r6 h6 k6 => ?_)
      have s6 : SM h0 h6 := SM_trans (b := h) hSC k6.1
      refine ok_if (fun c7 => ?_) (fun c7 => ?_)
      · exact ih_X9_plucks_12 h6 (x2 + 1) s6 (by have := i0; have := i1; have := hm; have : 0 ≤ r1.toInt ∧ r1.toInt ≤ 99 := k1.2.1 rfl; have : -1 ≤ r4.toInt ∧ r4.toInt ≤ 2 := k4.2.2.1 rfl; have : 0 ≤ r5.toInt ∧ r5.toInt ≤ 99 := k5.2.1 rfl; have := gi_of_nlt c2; have : (1 : Int32).toInt = 1 := rfl; have := fb_rng (r1); have := fb_rng (x2); (try have := fb_addI (x := x2) (y := 1) (by omega) (by omega)); omega) (by have := i0; have := i1; have := hm; have : 0 ≤ r1.toInt ∧ r1.toInt ≤ 99 := k1.2.1 rfl; have : -1 ≤ r4.toInt ∧ r4.toInt ≤ 2 := k4.2.2.1 rfl; have : 0 ≤ r5.toInt ∧ r5.toInt ≤ 99 := k5.2.1 rfl; have := fb_rng (x1); omega) (by have := i0; have := i1; have := hm; have : 0 ≤ r1.toInt ∧ r1.toInt ≤ 99 := k1.2.1 rfl; have : -1 ≤ r4.toInt ∧ r4.toInt ≤ 2 := k4.2.2.1 rfl; have : 0 ≤ r5.toInt ∧ r5.toInt ≤ 99 := k5.2.1 rfl; have := gi_of_nlt c2; have : (1 : Int32).toInt = 1 := rfl; have := fb_rng (r1); have := fb_rng (x2); (try have := fb_addI (x := x2) (y := 1) (by omega) (by omega)); omega) (by have := i0; have := i1; have := hm; have : 0 ≤ r1.toInt ∧ r1.toInt ≤ 99 := k1.2.1 rfl; have : -1 ≤ r4.toInt ∧ r4.toInt ≤ 2 := k4.2.2.1 rfl; have : 0 ≤ r5.toInt ∧ r5.toInt ≤ 99 := k5.2.1 rfl; have := gi_of_nlt c2; have : (1 : Int32).toInt = 1 := rfl; have := fb_rng (r1); have := fb_rng (x2); (try have := fb_addI (x := x2) (y := 1) (by omega) (by omega)); omega)
      · exact ok_some ⟨s6, trivial⟩
theorem u_X9_plucks (h : HS) (p1 : Int32) (hI : IM h) : ok (f_X9_plucks h p1) (fun a => SM h a.2 ∧ True) := by
  unfold f_X9_plucks
  refine ok_ob2 (u_X9_isGoose h p1 ((SM_refl hI)).1) (fun r1 h1 k1 => ?_)
  have e1 : h = h1 := k1.1.symm
  subst e1
  refine ok_if (fun c2 => ?_) (fun c2 => ?_)
  · exact ok_some ⟨(SM_refl hI), trivial⟩
  · exact u_X9_plucks_12 (h0 := h) p1 8589934592 h 0 (SM_refl hI) (by have := IM_n (SM_refl hI).1; have : ((r1).toInt = 0 ∨ (0 ≤ p1.toInt ∧ p1.toInt < ((eA h 0 0) 1).toInt)) := k1.2.2; have : (0 : Int32).toInt = 0 := rfl; omega) (by have := IM_n (SM_refl hI).1; have : ((r1).toInt = 0 ∨ (0 ≤ p1.toInt ∧ p1.toInt < ((eA h 0 0) 1).toInt)) := k1.2.2; have := gi_of_ne c2; have : (0 : Int32).toInt = 0 := rfl; have := fb_rng (r1); have := fb_rng (p1); omega) (by decide) (by have := IM_n (SM_refl hI).1; have : ((r1).toInt = 0 ∨ (0 ≤ p1.toInt ∧ p1.toInt < ((eA h 0 0) 1).toInt)) := k1.2.2; have : (0 : Int32).toInt = 0 := rfl; omega)
theorem u_X9_startsMany_2 {h0 : HS} (x1 : Int32) (x2 : Int32) : ∀ (n : Nat) (h : HS) (x3 : Int32), SM h0 h → 0 ≤ x3.toInt → 0 < n → (16 - (x3).toInt : Int) < (n : Int) → ok (f_X9_startsMany_2  n h x1 x2 x3) (fun a => SM h0 a ∧ True) := by
  intro n
  induction n with
  | zero =>
    intro h x3 hSC i0 hn hm
    exact absurd hn (by decide)
  | succ n ih_X9_startsMany_2 =>
    intro h x3 hSC i0 hn hm
    rw [f_X9_startsMany_2_s]
    refine ok_if (fun c1 => ?_) (fun c1 => ?_)
    · exact ok_some ⟨hSC, trivial⟩
    · refine ok_if (fun c2 => ?_) (fun c2 => ?_)
      · unfold f_X9_startsMany_27
        refine ok_chk (by have := i0; have := hm; have := gi_of_nle c1; have := gi_of_eq c2; have : (16 : Int32).toInt = 16 := rfl; have : (4 : Int32).toInt = 4 := rfl; have := fb_rng (x3); have := fb_rng (x1); have := fb_rng (x2); (try have := fb_mulJ (x := 4) (y := x2) (k := 4) rfl (by omega) (by omega)); (try have := fb_addI (x := x1) (y := (4 * x2)) (by omega) (by omega)); omega) ?_
        exact ih_X9_startsMany_2 (sJ h 0 41 (vp_updL (eJ h 0 41) ((x3).toNatClampNeg) 1)) (x3 + 1) hSC (by have := i0; have := hm; have := gi_of_nle c1; have := gi_of_eq c2; have : (1 : Int32).toInt = 1 := rfl; have : (16 : Int32).toInt = 16 := rfl; have : (4 : Int32).toInt = 4 := rfl; have := fb_rng (x3); have := fb_rng (x1); have := fb_rng (x2); (try have := fb_mulJ (x := 4) (y := x2) (k := 4) rfl (by omega) (by omega)); (try have := fb_addI (x := x1) (y := (4 * x2)) (by omega) (by omega)); (try have := fb_addI (x := x3) (y := 1) (by omega) (by omega)); omega) (by have := i0; have := hm; have := gi_of_nle c1; have := gi_of_eq c2; have : (1 : Int32).toInt = 1 := rfl; have : (16 : Int32).toInt = 16 := rfl; have : (4 : Int32).toInt = 4 := rfl; have := fb_rng (x3); have := fb_rng (x1); have := fb_rng (x2); (try have := fb_mulJ (x := 4) (y := x2) (k := 4) rfl (by omega) (by omega)); (try have := fb_addI (x := x1) (y := (4 * x2)) (by omega) (by omega)); (try have := fb_addI (x := x3) (y := 1) (by omega) (by omega)); omega) (by have := i0; have := hm; have := gi_of_nle c1; have := gi_of_eq c2; have : (1 : Int32).toInt = 1 := rfl; have : (16 : Int32).toInt = 16 := rfl; have : (4 : Int32).toInt = 4 := rfl; have := fb_rng (x3); have := fb_rng (x1); have := fb_rng (x2); (try have := fb_mulJ (x := 4) (y := x2) (k := 4) rfl (by omega) (by omega)); (try have := fb_addI (x := x1) (y := (4 * x2)) (by omega) (by omega)); (try have := fb_addI (x := x3) (y := 1) (by omega) (by omega)); omega)
      · unfold f_X9_startsMany_27
        refine ok_chk (by have := i0; have := hm; have := gi_of_nle c1; have := gi_of_ne c2; have : (16 : Int32).toInt = 16 := rfl; have : (4 : Int32).toInt = 4 := rfl; have := fb_rng (x3); have := fb_rng (x1); have := fb_rng (x2); (try have := fb_mulJ (x := 4) (y := x2) (k := 4) rfl (by omega) (by omega)); (try have := fb_addI (x := x1) (y := (4 * x2)) (by omega) (by omega)); omega) ?_
        exact ih_X9_startsMany_2 (sJ h 0 41 (vp_updL (eJ h 0 41) ((x3).toNatClampNeg) 0)) (x3 + 1) hSC (by have := i0; have := hm; have := gi_of_nle c1; have := gi_of_ne c2; have : (1 : Int32).toInt = 1 := rfl; have : (16 : Int32).toInt = 16 := rfl; have : (4 : Int32).toInt = 4 := rfl; have := fb_rng (x3); have := fb_rng (x1); have := fb_rng (x2); (try have := fb_mulJ (x := 4) (y := x2) (k := 4) rfl (by omega) (by omega)); (try have := fb_addI (x := x1) (y := (4 * x2)) (by omega) (by omega)); (try have := fb_addI (x := x3) (y := 1) (by omega) (by omega)); omega) (by have := i0; have := hm; have := gi_of_nle c1; have := gi_of_ne c2; have : (1 : Int32).toInt = 1 := rfl; have : (16 : Int32).toInt = 16 := rfl; have : (4 : Int32).toInt = 4 := rfl; have := fb_rng (x3); have := fb_rng (x1); have := fb_rng (x2); (try have := fb_mulJ (x := 4) (y := x2) (k := 4) rfl (by omega) (by omega)); (try have := fb_addI (x := x1) (y := (4 * x2)) (by omega) (by omega)); (try have := fb_addI (x := x3) (y := 1) (by omega) (by omega)); omega) (by have := i0; have := hm; have := gi_of_nle c1; have := gi_of_ne c2; have : (1 : Int32).toInt = 1 := rfl; have : (16 : Int32).toInt = 16 := rfl; have : (4 : Int32).toInt = 4 := rfl; have := fb_rng (x3); have := fb_rng (x1); have := fb_rng (x2); (try have := fb_mulJ (x := 4) (y := x2) (k := 4) rfl (by omega) (by omega)); (try have := fb_addI (x := x1) (y := (4 * x2)) (by omega) (by omega)); (try have := fb_addI (x := x3) (y := 1) (by omega) (by omega)); omega)
theorem u_X9_startsMany (h : HS) (p1 : Int32) (p2 : Int32) (hI : IM h) : ok (f_X9_startsMany h p1 p2) (fun a => SM h a ∧ True) := by
  unfold f_X9_startsMany
  exact u_X9_startsMany_2 (h0 := h) p1 p2 8589934592 h 0 (SM_refl hI) (by have : (0 : Int32).toInt = 0 := rfl; omega) (by decide) (by have : (0 : Int32).toInt = 0 := rfl; omega)
theorem u_X9_comesMany_164 {h0 : HS} : ∀ (n : Nat) (h : HS) (x5 : Int32), SM h0 h → 0 ≤ x5.toInt → 0 < n → (16 - (x5).toInt : Int) < (n : Int) → ok (f_X9_comesMany_164  n h x5) (fun a => SM h0 a ∧ True) := by
  intro n
  induction n with
  | zero =>
    intro h x5 hSC i0 hn hm
    exact absurd hn (by decide)
  | succ n ih_X9_comesMany_164 =>
    intro h x5 hSC i0 hn hm
    rw [f_X9_comesMany_164_s]
    refine ok_if (fun c1 => ?_) (fun c1 => ?_)
    · exact ok_some ⟨hSC, trivial⟩
    · refine ok_chk (by have := i0; have := hm; have := gi_of_nle c1; have : (16 : Int32).toInt = 16 := rfl; have := fb_rng (x5); omega) ?_
      refine ok_chk (by have := i0; have := hm; have := gi_of_nle c1; have : (16 : Int32).toInt = 16 := rfl; have := fb_rng (x5); omega) ?_
      exact ih_X9_comesMany_164 (sJ h 0 41 (vp_updL (eJ h 0 41) ((x5).toNatClampNeg) ((eJ h 0 42) ((x5).toNatClampNeg)))) (x5 + 1) hSC (by have := i0; have := hm; have := gi_of_nle c1; have : (1 : Int32).toInt = 1 := rfl; have : (16 : Int32).toInt = 16 := rfl; have := fb_rng (x5); (try have := fb_addI (x := x5) (y := 1) (by omega) (by omega)); omega) (by have := i0; have := hm; have := gi_of_nle c1; have : (1 : Int32).toInt = 1 := rfl; have : (16 : Int32).toInt = 16 := rfl; have := fb_rng (x5); (try have := fb_addI (x := x5) (y := 1) (by omega) (by omega)); omega) (by have := i0; have := hm; have := gi_of_nle c1; have : (1 : Int32).toInt = 1 := rfl; have : (16 : Int32).toInt = 16 := rfl; have := fb_rng (x5); (try have := fb_addI (x := x5) (y := 1) (by omega) (by omega)); omega)
theorem u_X9_comesMany_27 {h0 : HS} (x1 : Int32) (x2 : Int32) (x3 : Int32) (x4 : Int32) : ∀ (n : Nat) (h : HS) (x5 : Int32), SM h0 h → 0 ≤ x5.toInt → (0 ≤ x3.toInt ∧ x3.toInt ≤ 2) → 0 < n → (16 - (x5).toInt : Int) < (n : Int) → ok (f_X9_comesMany_27  n h x1 x2 x3 x4 x5) (fun a => SM h0 a ∧ True) := by
  intro n
  induction n with
  | zero =>
    intro h x5 hSC i0 i1 hn hm
    exact absurd hn (by decide)
  | succ n ih_X9_comesMany_27 =>
    intro h x5 hSC i0 i1 hn hm
    rw [f_X9_comesMany_27_s]
    refine ok_if (fun c1 => ?_) (fun c1 => ?_)
    · exact u_X9_comesMany_164 (h0 := h0) 8589934592 h 0 hSC (by have := i0; have := i1; have := hm; have : (0 : Int32).toInt = 0 := rfl; omega) (by decide) (by have := i0; have := i1; have := hm; have : (0 : Int32).toInt = 0 := rfl; omega)
    · refine ok_if (fun c2 => ?_) (fun c2 => ?_)
      · unfold f_X9_comesMany_51
        refine ok_ob1 (u_X9_halves x3) (fun r3 k3 => ?_)
        refine ok_chk (by have := i0; have := i1; have := hm; have : ((0 ≤ x3.toInt ∧ x3.toInt ≤ 2) → (0 ≤ (r3).toInt ∧ (r3).toInt ≤ 3)) := k3; have := gi_of_nle c1; have : (0 : Int32).toInt = 0 := rfl; have : (16 : Int32).toInt = 16 := rfl; have : (4 : Int32).toInt = 4 := rfl; have := fb_rng (x5); have := fb_divK (x := x5) (y := 4) (k := 4) rfl (by decide); (try have := fb_mulK (x := (x5 / 4)) (y := 4) (k := 4) rfl (by omega) (by omega)); (try have := fb_mulK (x := (x5 / 4)) (y := 4) (k := 4) rfl (by omega) (by omega)); (try have := fb_subI (x := x5) (y := (x5 / 4 * 4)) (by omega) (by omega)); (try have := fb_or2 (x := (x5 - x5 / 4 * 4)) (y := 0) (by omega) (by omega) (by omega) (by omega)); (try have := fb_or4 (x := (x5 - x5 / 4 * 4)) (y := 0) (by omega) (by omega) (by omega) (by omega)); (try have := fb_addI (x := ((x5 / 4) * 4)) (y := ((x5 - x5 / 4 * 4) ||| 0)) (by omega) (by omega)); omega) ?_
        refine ok_chk (by have := i0; have := i1; have := hm; have : ((0 ≤ x3.toInt ∧ x3.toInt ≤ 2) → (0 ≤ (r3).toInt ∧ (r3).toInt ≤ 3)) := k3; have := gi_of_nle c1; have : (16 : Int32).toInt = 16 := rfl; have := fb_rng (x5); omega) ?_
        refine ok_chk (by have := i0; have := i1; have := hm; have : ((0 ≤ x3.toInt ∧ x3.toInt ≤ 2) → (0 ≤ (r3).toInt ∧ (r3).toInt ≤ 3)) := k3; have := gi_of_nle c1; have : (0 : Int32).toInt = 0 := rfl; have : (16 : Int32).toInt = 16 := rfl; have : (4 : Int32).toInt = 4 := rfl; have := fb_rng (x5); have := fb_divK (x := x5) (y := 4) (k := 4) rfl (by decide); (try have := fb_mulK (x := (x5 / 4)) (y := 4) (k := 4) rfl (by omega) (by omega)); (try have := fb_mulK (x := (x5 / 4)) (y := 4) (k := 4) rfl (by omega) (by omega)); (try have := fb_subI (x := x5) (y := (x5 / 4 * 4)) (by omega) (by omega)); (try have := fb_or2 (x := (x5 - x5 / 4 * 4)) (y := 0) (by omega) (by omega) (by omega) (by omega)); (try have := fb_or4 (x := (x5 - x5 / 4 * 4)) (y := 0) (by omega) (by omega) (by omega) (by omega)); (try have := fb_addI (x := ((x5 / 4) * 4)) (y := ((x5 - x5 / 4 * 4) ||| 0)) (by omega) (by omega)); omega) ?_
        refine ok_chk (by have := i0; have := i1; have := hm; have : ((0 ≤ x3.toInt ∧ x3.toInt ≤ 2) → (0 ≤ (r3).toInt ∧ (r3).toInt ≤ 3)) := k3; have := gi_of_nle c1; have : (16 : Int32).toInt = 16 := rfl; have := fb_rng (x5); omega) ?_
        refine ok_chk (by have := i0; have := i1; have := hm; have : ((0 ≤ x3.toInt ∧ x3.toInt ≤ 2) → (0 ≤ (r3).toInt ∧ (r3).toInt ≤ 3)) := k3; have := gi_of_nle c1; have : (16 : Int32).toInt = 16 := rfl; have := fb_rng (x5); omega) ?_
        refine ok_chk (by have := i0; have := i1; have := hm; have : ((0 ≤ x3.toInt ∧ x3.toInt ≤ 2) → (0 ≤ (r3).toInt ∧ (r3).toInt ≤ 3)) := k3; have := gi_of_nle c1; have : (16 : Int32).toInt = 16 := rfl; have := fb_rng (x5); omega) ?_
        refine ok_chk (by have := i0; have := i1; have := hm; have : ((0 ≤ x3.toInt ∧ x3.toInt ≤ 2) → (0 ≤ (r3).toInt ∧ (r3).toInt ≤ 3)) := k3; have := gi_of_nle c1; have : (16 : Int32).toInt = 16 := rfl; have : (4 : Int32).toInt = 4 := rfl; have := fb_rng (x5); have := fb_divK (x := x5) (y := 4) (k := 4) rfl (by decide); have := fb_rng (r3); (try have := fb_or2 (x := (x5 / 4)) (y := r3) (by omega) (by omega) (by omega) (by omega)); (try have := fb_or4 (x := (x5 / 4)) (y := r3) (by omega) (by omega) (by omega) (by omega)); (try have := fb_mulJ (x := 4) (y := ((x5 / 4) ||| r3)) (k := 4) rfl (by omega) (by omega)); (try have := fb_mulK (x := (x5 / 4)) (y := 4) (k := 4) rfl (by omega) (by omega)); (try have := fb_subI (x := x5) (y := (x5 / 4 * 4)) (by omega) (by omega)); (try have := fb_addI (x := (4 * ((x5 / 4) ||| r3))) (y := (x5 - x5 / 4 * 4)) (by omega) (by omega)); omega) ?_
        refine ok_chk (by have := i0; have := i1; have := hm; have : ((0 ≤ x3.toInt ∧ x3.toInt ≤ 2) → (0 ≤ (r3).toInt ∧ (r3).toInt ≤ 3)) := k3; have := gi_of_nle c1; have : (16 : Int32).toInt = 16 := rfl; have := fb_rng (x5); omega) ?_
        refine ok_chk (by have := i0; have := i1; have := hm; have : ((0 ≤ x3.toInt ∧ x3.toInt ≤ 2) → (0 ≤ (r3).toInt ∧ (r3).toInt ≤ 3)) := k3; have := gi_of_nle c1; have : (16 : Int32).toInt = 16 := rfl; have : (4 : Int32).toInt = 4 := rfl; have := fb_rng (x5); have := fb_divK (x := x5) (y := 4) (k := 4) rfl (by decide); have := fb_rng (r3); (try have := fb_or2 (x := (x5 / 4)) (y := r3) (by omega) (by omega) (by omega) (by omega)); (try have := fb_or4 (x := (x5 / 4)) (y := r3) (by omega) (by omega) (by omega) (by omega)); (try have := fb_mulJ (x := 4) (y := ((x5 / 4) ||| r3)) (k := 4) rfl (by omega) (by omega)); (try have := fb_mulK (x := (x5 / 4)) (y := 4) (k := 4) rfl (by omega) (by omega)); (try have := fb_subI (x := x5) (y := (x5 / 4 * 4)) (by omega) (by omega)); (try have := fb_addI (x := (4 * ((x5 / 4) ||| r3))) (y := (x5 - x5 / 4 * 4)) (by omega) (by omega)); omega) ?_
        exact ih_X9_comesMany_27 (sJ (sJ (sJ h 0 42 (vp_updL (eJ h 0 42) (((((x5 / 4) * 4) + ((x5 - x5 / 4 * 4) ||| 0))).toNatClampNeg) (((eJ h 0 42) (((((x5 / 4) * 4) + ((x5 - x5 / 4 * 4) ||| 0))).toNatClampNeg)) + ((((eJ h 0 41) ((x5).toNatClampNeg)) * (((10 - x1)).toInt64)) * 10)))) 0 42 (vp_updL (vp_updL (eJ h 0 42) (((((x5 / 4) * 4) + ((x5 - x5 / 4 * 4) ||| 0))).toNatClampNeg) (((eJ h 0 42) (((((x5 / 4) * 4) + ((x5 - x5 / 4 * 4) ||| 0))).toNatClampNeg)) + ((((eJ h 0 41) ((x5).toNatClampNeg)) * (((10 - x1)).toInt64)) * 10))) ((x5).toNatClampNeg) (((vp_updL (eJ h 0 42) (((((x5 / 4) * 4) + ((x5 - x5 / 4 * 4) ||| 0))).toNatClampNeg) (((eJ h 0 42) (((((x5 / 4) * 4) + ((x5 - x5 / 4 * 4) ||| 0))).toNatClampNeg)) + ((((eJ h 0 41) ((x5).toNatClampNeg)) * (((10 - x1)).toInt64)) * 10))) ((x5).toNatClampNeg)) + ((((eJ h 0 41) ((x5).toNatClampNeg)) * ((x1).toInt64)) * (((10 - x2)).toInt64))))) 0 42 (vp_updL (vp_updL (vp_updL (eJ h 0 42) (((((x5 / 4) * 4) + ((x5 - x5 / 4 * 4) ||| 0))).toNatClampNeg) (((eJ h 0 42) (((((x5 / 4) * 4) + ((x5 - x5 / 4 * 4) ||| 0))).toNatClampNeg)) + ((((eJ h 0 41) ((x5).toNatClampNeg)) * (((10 - x1)).toInt64)) * 10))) ((x5).toNatClampNeg) (((vp_updL (eJ h 0 42) (((((x5 / 4) * 4) + ((x5 - x5 / 4 * 4) ||| 0))).toNatClampNeg) (((eJ h 0 42) (((((x5 / 4) * 4) + ((x5 - x5 / 4 * 4) ||| 0))).toNatClampNeg)) + ((((eJ h 0 41) ((x5).toNatClampNeg)) * (((10 - x1)).toInt64)) * 10))) ((x5).toNatClampNeg)) + ((((eJ h 0 41) ((x5).toNatClampNeg)) * ((x1).toInt64)) * (((10 - x2)).toInt64)))) ((((4 * ((x5 / 4) ||| r3)) + (x5 - x5 / 4 * 4))).toNatClampNeg) (((vp_updL (vp_updL (eJ h 0 42) (((((x5 / 4) * 4) + ((x5 - x5 / 4 * 4) ||| 0))).toNatClampNeg) (((eJ h 0 42) (((((x5 / 4) * 4) + ((x5 - x5 / 4 * 4) ||| 0))).toNatClampNeg)) + ((((eJ h 0 41) ((x5).toNatClampNeg)) * (((10 - x1)).toInt64)) * 10))) ((x5).toNatClampNeg) (((vp_updL (eJ h 0 42) (((((x5 / 4) * 4) + ((x5 - x5 / 4 * 4) ||| 0))).toNatClampNeg) (((eJ h 0 42) (((((x5 / 4) * 4) + ((x5 - x5 / 4 * 4) ||| 0))).toNatClampNeg)) + ((((eJ h 0 41) ((x5).toNatClampNeg)) * (((10 - x1)).toInt64)) * 10))) ((x5).toNatClampNeg)) + ((((eJ h 0 41) ((x5).toNatClampNeg)) * ((x1).toInt64)) * (((10 - x2)).toInt64)))) ((((4 * ((x5 / 4) ||| r3)) + (x5 - x5 / 4 * 4))).toNatClampNeg)) + ((((eJ h 0 41) ((x5).toNatClampNeg)) * ((x1).toInt64)) * ((x2).toInt64))))) (x5 + 1) hSC (by have := i0; have := i1; have := hm; have : ((0 ≤ x3.toInt ∧ x3.toInt ≤ 2) → (0 ≤ (r3).toInt ∧ (r3).toInt ≤ 3)) := k3; have := gi_of_nle c1; have : (1 : Int32).toInt = 1 := rfl; have : (16 : Int32).toInt = 16 := rfl; have := fb_rng (x5); (try have := fb_addI (x := x5) (y := 1) (by omega) (by omega)); omega) (by have := i0; have := i1; have := hm; have : ((0 ≤ x3.toInt ∧ x3.toInt ≤ 2) → (0 ≤ (r3).toInt ∧ (r3).toInt ≤ 3)) := k3; have := fb_rng (x3); omega) (by have := i0; have := i1; have := hm; have : ((0 ≤ x3.toInt ∧ x3.toInt ≤ 2) → (0 ≤ (r3).toInt ∧ (r3).toInt ≤ 3)) := k3; have := gi_of_nle c1; have : (1 : Int32).toInt = 1 := rfl; have : (16 : Int32).toInt = 16 := rfl; have := fb_rng (x5); (try have := fb_addI (x := x5) (y := 1) (by omega) (by omega)); omega) (by have := i0; have := i1; have := hm; have : ((0 ≤ x3.toInt ∧ x3.toInt ≤ 2) → (0 ≤ (r3).toInt ∧ (r3).toInt ≤ 3)) := k3; have := gi_of_nle c1; have : (1 : Int32).toInt = 1 := rfl; have : (16 : Int32).toInt = 16 := rfl; have := fb_rng (x5); (try have := fb_addI (x := x5) (y := 1) (by omega) (by omega)); omega)
      · refine ok_ob1 (u_X9_halves x3) (fun r13 k13 => ?_)
        unfold f_X9_comesMany_51
        refine ok_ob1 (u_X9_halves x3) (fun r14 k14 => ?_)
        refine ok_chk (by have := i0; have := i1; have := hm; have : ((0 ≤ x3.toInt ∧ x3.toInt ≤ 2) → (0 ≤ (r13).toInt ∧ (r13).toInt ≤ 3)) := k13; have : ((0 ≤ x3.toInt ∧ x3.toInt ≤ 2) → (0 ≤ (r14).toInt ∧ (r14).toInt ≤ 3)) := k14; have := gi_of_nle c1; have : (16 : Int32).toInt = 16 := rfl; have : (4 : Int32).toInt = 4 := rfl; have := fb_rng (x5); have := fb_divK (x := x5) (y := 4) (k := 4) rfl (by decide); (try have := fb_mulK (x := (x5 / 4)) (y := 4) (k := 4) rfl (by omega) (by omega)); (try have := fb_mulK (x := (x5 / 4)) (y := 4) (k := 4) rfl (by omega) (by omega)); (try have := fb_subI (x := x5) (y := (x5 / 4 * 4)) (by omega) (by omega)); have := fb_rng (r13); (try have := fb_or2 (x := (x5 - x5 / 4 * 4)) (y := r13) (by omega) (by omega) (by omega) (by omega)); (try have := fb_or4 (x := (x5 - x5 / 4 * 4)) (y := r13) (by omega) (by omega) (by omega) (by omega)); (try have := fb_addI (x := ((x5 / 4) * 4)) (y := ((x5 - x5 / 4 * 4) ||| r13)) (by omega) (by omega)); omega) ?_
        refine ok_chk (by have := i0; have := i1; have := hm; have : ((0 ≤ x3.toInt ∧ x3.toInt ≤ 2) → (0 ≤ (r13).toInt ∧ (r13).toInt ≤ 3)) := k13; have : ((0 ≤ x3.toInt ∧ x3.toInt ≤ 2) → (0 ≤ (r14).toInt ∧ (r14).toInt ≤ 3)) := k14; have := gi_of_nle c1; have : (16 : Int32).toInt = 16 := rfl; have := fb_rng (x5); omega) ?_
        refine ok_chk (by have := i0; have := i1; have := hm; have : ((0 ≤ x3.toInt ∧ x3.toInt ≤ 2) → (0 ≤ (r13).toInt ∧ (r13).toInt ≤ 3)) := k13; have : ((0 ≤ x3.toInt ∧ x3.toInt ≤ 2) → (0 ≤ (r14).toInt ∧ (r14).toInt ≤ 3)) := k14; have := gi_of_nle c1; have : (16 : Int32).toInt = 16 := rfl; have : (4 : Int32).toInt = 4 := rfl; have := fb_rng (x5); have := fb_divK (x := x5) (y := 4) (k := 4) rfl (by decide); (try have := fb_mulK (x := (x5 / 4)) (y := 4) (k := 4) rfl (by omega) (by omega)); (try have := fb_mulK (x := (x5 / 4)) (y := 4) (k := 4) rfl (by omega) (by omega)); (try have := fb_subI (x := x5) (y := (x5 / 4 * 4)) (by omega) (by omega)); have := fb_rng (r13); (try have := fb_or2 (x := (x5 - x5 / 4 * 4)) (y := r13) (by omega) (by omega) (by omega) (by omega)); (try have := fb_or4 (x := (x5 - x5 / 4 * 4)) (y := r13) (by omega) (by omega) (by omega) (by omega)); (try have := fb_addI (x := ((x5 / 4) * 4)) (y := ((x5 - x5 / 4 * 4) ||| r13)) (by omega) (by omega)); omega) ?_
        refine ok_chk (by have := i0; have := i1; have := hm; have : ((0 ≤ x3.toInt ∧ x3.toInt ≤ 2) → (0 ≤ (r13).toInt ∧ (r13).toInt ≤ 3)) := k13; have : ((0 ≤ x3.toInt ∧ x3.toInt ≤ 2) → (0 ≤ (r14).toInt ∧ (r14).toInt ≤ 3)) := k14; have := gi_of_nle c1; have : (16 : Int32).toInt = 16 := rfl; have := fb_rng (x5); omega) ?_
        refine ok_chk (by have := i0; have := i1; have := hm; have : ((0 ≤ x3.toInt ∧ x3.toInt ≤ 2) → (0 ≤ (r13).toInt ∧ (r13).toInt ≤ 3)) := k13; have : ((0 ≤ x3.toInt ∧ x3.toInt ≤ 2) → (0 ≤ (r14).toInt ∧ (r14).toInt ≤ 3)) := k14; have := gi_of_nle c1; have : (16 : Int32).toInt = 16 := rfl; have := fb_rng (x5); omega) ?_
        refine ok_chk (by have := i0; have := i1; have := hm; have : ((0 ≤ x3.toInt ∧ x3.toInt ≤ 2) → (0 ≤ (r13).toInt ∧ (r13).toInt ≤ 3)) := k13; have : ((0 ≤ x3.toInt ∧ x3.toInt ≤ 2) → (0 ≤ (r14).toInt ∧ (r14).toInt ≤ 3)) := k14; have := gi_of_nle c1; have : (16 : Int32).toInt = 16 := rfl; have := fb_rng (x5); omega) ?_
        refine ok_chk (by have := i0; have := i1; have := hm; have : ((0 ≤ x3.toInt ∧ x3.toInt ≤ 2) → (0 ≤ (r13).toInt ∧ (r13).toInt ≤ 3)) := k13; have : ((0 ≤ x3.toInt ∧ x3.toInt ≤ 2) → (0 ≤ (r14).toInt ∧ (r14).toInt ≤ 3)) := k14; have := gi_of_nle c1; have : (16 : Int32).toInt = 16 := rfl; have : (4 : Int32).toInt = 4 := rfl; have := fb_rng (x5); have := fb_divK (x := x5) (y := 4) (k := 4) rfl (by decide); have := fb_rng (r14); (try have := fb_or2 (x := (x5 / 4)) (y := r14) (by omega) (by omega) (by omega) (by omega)); (try have := fb_or4 (x := (x5 / 4)) (y := r14) (by omega) (by omega) (by omega) (by omega)); (try have := fb_mulJ (x := 4) (y := ((x5 / 4) ||| r14)) (k := 4) rfl (by omega) (by omega)); (try have := fb_mulK (x := (x5 / 4)) (y := 4) (k := 4) rfl (by omega) (by omega)); (try have := fb_subI (x := x5) (y := (x5 / 4 * 4)) (by omega) (by omega)); (try have := fb_addI (x := (4 * ((x5 / 4) ||| r14))) (y := (x5 - x5 / 4 * 4)) (by omega) (by omega)); omega) ?_
        refine ok_chk (by have := i0; have := i1; have := hm; have : ((0 ≤ x3.toInt ∧ x3.toInt ≤ 2) → (0 ≤ (r13).toInt ∧ (r13).toInt ≤ 3)) := k13; have : ((0 ≤ x3.toInt ∧ x3.toInt ≤ 2) → (0 ≤ (r14).toInt ∧ (r14).toInt ≤ 3)) := k14; have := gi_of_nle c1; have : (16 : Int32).toInt = 16 := rfl; have := fb_rng (x5); omega) ?_
        refine ok_chk (by have := i0; have := i1; have := hm; have : ((0 ≤ x3.toInt ∧ x3.toInt ≤ 2) → (0 ≤ (r13).toInt ∧ (r13).toInt ≤ 3)) := k13; have : ((0 ≤ x3.toInt ∧ x3.toInt ≤ 2) → (0 ≤ (r14).toInt ∧ (r14).toInt ≤ 3)) := k14; have := gi_of_nle c1; have : (16 : Int32).toInt = 16 := rfl; have : (4 : Int32).toInt = 4 := rfl; have := fb_rng (x5); have := fb_divK (x := x5) (y := 4) (k := 4) rfl (by decide); have := fb_rng (r14); (try have := fb_or2 (x := (x5 / 4)) (y := r14) (by omega) (by omega) (by omega) (by omega)); (try have := fb_or4 (x := (x5 / 4)) (y := r14) (by omega) (by omega) (by omega) (by omega)); (try have := fb_mulJ (x := 4) (y := ((x5 / 4) ||| r14)) (k := 4) rfl (by omega) (by omega)); (try have := fb_mulK (x := (x5 / 4)) (y := 4) (k := 4) rfl (by omega) (by omega)); (try have := fb_subI (x := x5) (y := (x5 / 4 * 4)) (by omega) (by omega)); (try have := fb_addI (x := (4 * ((x5 / 4) ||| r14))) (y := (x5 - x5 / 4 * 4)) (by omega) (by omega)); omega) ?_
        exact ih_X9_comesMany_27 (sJ (sJ (sJ h 0 42 (vp_updL (eJ h 0 42) (((((x5 / 4) * 4) + ((x5 - x5 / 4 * 4) ||| r13))).toNatClampNeg) (((eJ h 0 42) (((((x5 / 4) * 4) + ((x5 - x5 / 4 * 4) ||| r13))).toNatClampNeg)) + ((((eJ h 0 41) ((x5).toNatClampNeg)) * (((10 - x1)).toInt64)) * 10)))) 0 42 (vp_updL (vp_updL (eJ h 0 42) (((((x5 / 4) * 4) + ((x5 - x5 / 4 * 4) ||| r13))).toNatClampNeg) (((eJ h 0 42) (((((x5 / 4) * 4) + ((x5 - x5 / 4 * 4) ||| r13))).toNatClampNeg)) + ((((eJ h 0 41) ((x5).toNatClampNeg)) * (((10 - x1)).toInt64)) * 10))) ((x5).toNatClampNeg) (((vp_updL (eJ h 0 42) (((((x5 / 4) * 4) + ((x5 - x5 / 4 * 4) ||| r13))).toNatClampNeg) (((eJ h 0 42) (((((x5 / 4) * 4) + ((x5 - x5 / 4 * 4) ||| r13))).toNatClampNeg)) + ((((eJ h 0 41) ((x5).toNatClampNeg)) * (((10 - x1)).toInt64)) * 10))) ((x5).toNatClampNeg)) + ((((eJ h 0 41) ((x5).toNatClampNeg)) * ((x1).toInt64)) * (((10 - x2)).toInt64))))) 0 42 (vp_updL (vp_updL (vp_updL (eJ h 0 42) (((((x5 / 4) * 4) + ((x5 - x5 / 4 * 4) ||| r13))).toNatClampNeg) (((eJ h 0 42) (((((x5 / 4) * 4) + ((x5 - x5 / 4 * 4) ||| r13))).toNatClampNeg)) + ((((eJ h 0 41) ((x5).toNatClampNeg)) * (((10 - x1)).toInt64)) * 10))) ((x5).toNatClampNeg) (((vp_updL (eJ h 0 42) (((((x5 / 4) * 4) + ((x5 - x5 / 4 * 4) ||| r13))).toNatClampNeg) (((eJ h 0 42) (((((x5 / 4) * 4) + ((x5 - x5 / 4 * 4) ||| r13))).toNatClampNeg)) + ((((eJ h 0 41) ((x5).toNatClampNeg)) * (((10 - x1)).toInt64)) * 10))) ((x5).toNatClampNeg)) + ((((eJ h 0 41) ((x5).toNatClampNeg)) * ((x1).toInt64)) * (((10 - x2)).toInt64)))) ((((4 * ((x5 / 4) ||| r14)) + (x5 - x5 / 4 * 4))).toNatClampNeg) (((vp_updL (vp_updL (eJ h 0 42) (((((x5 / 4) * 4) + ((x5 - x5 / 4 * 4) ||| r13))).toNatClampNeg) (((eJ h 0 42) (((((x5 / 4) * 4) + ((x5 - x5 / 4 * 4) ||| r13))).toNatClampNeg)) + ((((eJ h 0 41) ((x5).toNatClampNeg)) * (((10 - x1)).toInt64)) * 10))) ((x5).toNatClampNeg) (((vp_updL (eJ h 0 42) (((((x5 / 4) * 4) + ((x5 - x5 / 4 * 4) ||| r13))).toNatClampNeg) (((eJ h 0 42) (((((x5 / 4) * 4) + ((x5 - x5 / 4 * 4) ||| r13))).toNatClampNeg)) + ((((eJ h 0 41) ((x5).toNatClampNeg)) * (((10 - x1)).toInt64)) * 10))) ((x5).toNatClampNeg)) + ((((eJ h 0 41) ((x5).toNatClampNeg)) * ((x1).toInt64)) * (((10 - x2)).toInt64)))) ((((4 * ((x5 / 4) ||| r14)) + (x5 - x5 / 4 * 4))).toNatClampNeg)) + ((((eJ h 0 41) ((x5).toNatClampNeg)) * ((x1).toInt64)) * ((x2).toInt64))))) (x5 + 1) hSC (by have := i0; have := i1; have := hm; have : ((0 ≤ x3.toInt ∧ x3.toInt ≤ 2) → (0 ≤ (r13).toInt ∧ (r13).toInt ≤ 3)) := k13; have : ((0 ≤ x3.toInt ∧ x3.toInt ≤ 2) → (0 ≤ (r14).toInt ∧ (r14).toInt ≤ 3)) := k14; have := gi_of_nle c1; have : (1 : Int32).toInt = 1 := rfl; have : (16 : Int32).toInt = 16 := rfl; have := fb_rng (x5); (try have := fb_addI (x := x5) (y := 1) (by omega) (by omega)); omega) (by have := i0; have := i1; have := hm; have : ((0 ≤ x3.toInt ∧ x3.toInt ≤ 2) → (0 ≤ (r13).toInt ∧ (r13).toInt ≤ 3)) := k13; have : ((0 ≤ x3.toInt ∧ x3.toInt ≤ 2) → (0 ≤ (r14).toInt ∧ (r14).toInt ≤ 3)) := k14; have := fb_rng (x3); omega) (by have := i0; have := i1; have := hm; have : ((0 ≤ x3.toInt ∧ x3.toInt ≤ 2) → (0 ≤ (r13).toInt ∧ (r13).toInt ≤ 3)) := k13; have : ((0 ≤ x3.toInt ∧ x3.toInt ≤ 2) → (0 ≤ (r14).toInt ∧ (r14).toInt ≤ 3)) := k14; have := gi_of_nle c1; have : (1 : Int32).toInt = 1 := rfl; have : (16 : Int32).toInt = 16 := rfl; have := fb_rng (x5); (try have := fb_addI (x := x5) (y := 1) (by omega) (by omega)); omega) (by have := i0; have := i1; have := hm; have : ((0 ≤ x3.toInt ∧ x3.toInt ≤ 2) → (0 ≤ (r13).toInt ∧ (r13).toInt ≤ 3)) := k13; have : ((0 ≤ x3.toInt ∧ x3.toInt ≤ 2) → (0 ≤ (r14).toInt ∧ (r14).toInt ≤ 3)) := k14; have := gi_of_nle c1; have : (1 : Int32).toInt = 1 := rfl; have : (16 : Int32).toInt = 16 := rfl; have := fb_rng (x5); (try have := fb_addI (x := x5) (y := 1) (by omega) (by omega)); omega)
theorem u_X9_comesMany_3 {h0 : HS} (x1 : Int32) (x2 : Int32) (x3 : Int32) (x4 : Int32) : ∀ (n : Nat) (h : HS) (x5 : Int32), SM h0 h → 0 ≤ x5.toInt → (0 ≤ x3.toInt ∧ x3.toInt ≤ 2) → 0 < n → (16 - (x5).toInt : Int) < (n : Int) → ok (f_X9_comesMany_3  n h x1 x2 x3 x4 x5) (fun a => SM h0 a ∧ True) := by
  intro n
  induction n with
  | zero =>
    intro h x5 hSC i0 i1 hn hm
    exact absurd hn (by decide)
  | succ n ih_X9_comesMany_3 =>
    intro h x5 hSC i0 i1 hn hm
    rw [f_X9_comesMany_3_s]
    refine ok_if (fun c1 => ?_) (fun c1 => ?_)
    · exact u_X9_comesMany_27 (h0 := h0) x1 x2 x3 x4 8589934592 h 0 hSC (by have := i0; have := i1; have := hm; have : (0 : Int32).toInt = 0 := rfl; omega) (by have := i0; have := i1; have := hm; have := fb_rng (x3); omega) (by decide) (by have := i0; have := i1; have := hm; have : (0 : Int32).toInt = 0 := rfl; omega)
    · refine ok_chk (by have := i0; have := i1; have := hm; have := gi_of_nle c1; have : (16 : Int32).toInt = 16 := rfl; have := fb_rng (x5); omega) ?_
      exact ih_X9_comesMany_3 (sJ h 0 42 (vp_updL (eJ h 0 42) ((x5).toNatClampNeg) 0)) (x5 + 1) hSC (by have := i0; have := i1; have := hm; have := gi_of_nle c1; have : (1 : Int32).toInt = 1 := rfl; have : (16 : Int32).toInt = 16 := rfl; have := fb_rng (x5); (try have := fb_addI (x := x5) (y := 1) (by omega) (by omega)); omega) (by have := i0; have := i1; have := hm; have := fb_rng (x3); omega) (by have := i0; have := i1; have := hm; have := gi_of_nle c1; have : (1 : Int32).toInt = 1 := rfl; have : (16 : Int32).toInt = 16 := rfl; have := fb_rng (x5); (try have := fb_addI (x := x5) (y := 1) (by omega) (by omega)); omega) (by have := i0; have := i1; have := hm; have := gi_of_nle c1; have : (1 : Int32).toInt = 1 := rfl; have : (16 : Int32).toInt = 16 := rfl; have := fb_rng (x5); (try have := fb_addI (x := x5) (y := 1) (by omega) (by omega)); omega)
theorem u_X9_comesMany (h : HS) (p1 : Int32) (p2 : Int32) (p3 : Int32) (p4 : Int32) (hI : IM h) (w0 : 0 ≤ p3.toInt ∧ p3.toInt ≤ 2) : ok (f_X9_comesMany h p1 p2 p3 p4) (fun a => SM h a ∧ True) := by
  unfold f_X9_comesMany
  exact u_X9_comesMany_3 (h0 := h) p1 p2 p3 p4 8589934592 h 0 (SM_refl hI) (by have := w0; have : (0 : Int32).toInt = 0 := rfl; omega) (by have := w0; have := fb_rng (p3); omega) (by decide) (by have := w0; have : (0 : Int32).toInt = 0 := rfl; omega)
theorem u_X9_manyOf_5 (h : HS) (x1 : Int32) (hI : IM h) : ∀ (n : Nat) (x2 : Int64) (x4 : Int32), 0 ≤ x4.toInt → 0 < n → (16 - (x4).toInt : Int) < (n : Int) → ok (f_X9_manyOf_5  n h x1 x2 x4) (fun a => a.2 = h ∧ True) := by
  intro n
  induction n with
  | zero =>
    intro x2 x4 i0 hn hm
    exact absurd hn (by decide)
  | succ n ih_X9_manyOf_5 =>
    intro x2 x4 i0 hn hm
    rw [f_X9_manyOf_5_s]
    refine ok_if (fun c1 => ?_) (fun c1 => ?_)
    · exact ok_some ⟨rfl, trivial⟩
    · refine ok_if (fun c2 => ?_) (fun c2 => ?_)
      · unfold f_X9_manyOf_25
        refine ok_if (fun c3 => ?_) (fun c3 => ?_)
        · unfold f_X9_manyOf_40
          refine ok_if (fun c4 => ?_) (fun c4 => ?_)
          · refine ok_if (fun c5 => ?_) (fun c5 => ?_)
            · unfold f_X9_manyOf_88
              unfold f_X9_manyOf_89
              exact ih_X9_manyOf_5 (x2 + 0) (x4 + 1) (by have := i0; have := hm; have := gi_of_nle c1; have := gi_of_eq c2; have := gi_of_eq c3; have := gi_of_eq c5; have : (0 : Int32).toInt = 0 := rfl; have : (1 : Int32).toInt = 1 := rfl; have : (16 : Int32).toInt = 16 := rfl; have : (3 : Int32).toInt = 3 := rfl; have : (4 : Int32).toInt = 4 := rfl; have := fb_rng (x4); have := fb_divK (x := x4) (y := 4) (k := 4) rfl (by decide); (try have := fb_mulK (x := (x4 / 4)) (y := 4) (k := 4) rfl (by omega) (by omega)); (try have := fb_subI (x := x4) (y := (x4 / 4 * 4)) (by omega) (by omega)); (try have := fb_addI (x := x4) (y := 1) (by omega) (by omega)); omega) (by have := i0; have := hm; have := gi_of_nle c1; have := gi_of_eq c2; have := gi_of_eq c3; have := gi_of_eq c5; have : (0 : Int32).toInt = 0 := rfl; have : (1 : Int32).toInt = 1 := rfl; have : (16 : Int32).toInt = 16 := rfl; have : (3 : Int32).toInt = 3 := rfl; have : (4 : Int32).toInt = 4 := rfl; have := fb_rng (x4); have := fb_divK (x := x4) (y := 4) (k := 4) rfl (by decide); (try have := fb_mulK (x := (x4 / 4)) (y := 4) (k := 4) rfl (by omega) (by omega)); (try have := fb_subI (x := x4) (y := (x4 / 4 * 4)) (by omega) (by omega)); (try have := fb_addI (x := x4) (y := 1) (by omega) (by omega)); omega) (by have := i0; have := hm; have := gi_of_nle c1; have := gi_of_eq c2; have := gi_of_eq c3; have := gi_of_eq c5; have : (0 : Int32).toInt = 0 := rfl; have : (1 : Int32).toInt = 1 := rfl; have : (16 : Int32).toInt = 16 := rfl; have : (3 : Int32).toInt = 3 := rfl; have : (4 : Int32).toInt = 4 := rfl; have := fb_rng (x4); have := fb_divK (x := x4) (y := 4) (k := 4) rfl (by decide); (try have := fb_mulK (x := (x4 / 4)) (y := 4) (k := 4) rfl (by omega) (by omega)); (try have := fb_subI (x := x4) (y := (x4 / 4 * 4)) (by omega) (by omega)); (try have := fb_addI (x := x4) (y := 1) (by omega) (by omega)); omega)
            · unfold f_X9_manyOf_78
              refine ok_chk (by have := i0; have := hm; have := gi_of_nle c1; have := gi_of_eq c2; have := gi_of_eq c3; have := gi_of_ne c5; have : (0 : Int32).toInt = 0 := rfl; have : (1 : Int32).toInt = 1 := rfl; have : (16 : Int32).toInt = 16 := rfl; have : (3 : Int32).toInt = 3 := rfl; have : (4 : Int32).toInt = 4 := rfl; have := fb_rng (x4); have := fb_divK (x := x4) (y := 4) (k := 4) rfl (by decide); (try have := fb_mulK (x := (x4 / 4)) (y := 4) (k := 4) rfl (by omega) (by omega)); (try have := fb_subI (x := x4) (y := (x4 / 4 * 4)) (by omega) (by omega)); omega) ?_
              unfold f_X9_manyOf_89
              exact ih_X9_manyOf_5 (x2 + ((eJ h 0 41) ((x4).toNatClampNeg))) (x4 + 1) (by have := i0; have := hm; have := gi_of_nle c1; have := gi_of_eq c2; have := gi_of_eq c3; have := gi_of_ne c5; have : (0 : Int32).toInt = 0 := rfl; have : (1 : Int32).toInt = 1 := rfl; have : (16 : Int32).toInt = 16 := rfl; have : (3 : Int32).toInt = 3 := rfl; have : (4 : Int32).toInt = 4 := rfl; have := fb_rng (x4); have := fb_divK (x := x4) (y := 4) (k := 4) rfl (by decide); (try have := fb_mulK (x := (x4 / 4)) (y := 4) (k := 4) rfl (by omega) (by omega)); (try have := fb_subI (x := x4) (y := (x4 / 4 * 4)) (by omega) (by omega)); (try have := fb_addI (x := x4) (y := 1) (by omega) (by omega)); omega) (by have := i0; have := hm; have := gi_of_nle c1; have := gi_of_eq c2; have := gi_of_eq c3; have := gi_of_ne c5; have : (0 : Int32).toInt = 0 := rfl; have : (1 : Int32).toInt = 1 := rfl; have : (16 : Int32).toInt = 16 := rfl; have : (3 : Int32).toInt = 3 := rfl; have : (4 : Int32).toInt = 4 := rfl; have := fb_rng (x4); have := fb_divK (x := x4) (y := 4) (k := 4) rfl (by decide); (try have := fb_mulK (x := (x4 / 4)) (y := 4) (k := 4) rfl (by omega) (by omega)); (try have := fb_subI (x := x4) (y := (x4 / 4 * 4)) (by omega) (by omega)); (try have := fb_addI (x := x4) (y := 1) (by omega) (by omega)); omega) (by have := i0; have := hm; have := gi_of_nle c1; have := gi_of_eq c2; have := gi_of_eq c3; have := gi_of_ne c5; have : (0 : Int32).toInt = 0 := rfl; have : (1 : Int32).toInt = 1 := rfl; have : (16 : Int32).toInt = 16 := rfl; have : (3 : Int32).toInt = 3 := rfl; have : (4 : Int32).toInt = 4 := rfl; have := fb_rng (x4); have := fb_divK (x := x4) (y := 4) (k := 4) rfl (by decide); (try have := fb_mulK (x := (x4 / 4)) (y := 4) (k := 4) rfl (by omega) (by omega)); (try have := fb_subI (x := x4) (y := (x4 / 4 * 4)) (by omega) (by omega)); (try have := fb_addI (x := x4) (y := 1) (by omega) (by omega)); omega)
          · refine ok_if (fun c7 => ?_) (fun c7 => ?_)
            · refine ok_if (fun c8 => ?_) (fun c8 => ?_)
              · unfold f_X9_manyOf_88
                unfold f_X9_manyOf_89
                exact ih_X9_manyOf_5 (x2 + 0) (x4 + 1) (by have := i0; have := hm; have := gi_of_nle c1; have := gi_of_eq c2; have := gi_of_eq c3; have := gi_of_eq c8; have : (0 : Int32).toInt = 0 := rfl; have : (1 : Int32).toInt = 1 := rfl; have : (16 : Int32).toInt = 16 := rfl; have : (3 : Int32).toInt = 3 := rfl; have : (4 : Int32).toInt = 4 := rfl; have := fb_rng (x4); have := fb_divK (x := x4) (y := 4) (k := 4) rfl (by decide); (try have := fb_mulK (x := (x4 / 4)) (y := 4) (k := 4) rfl (by omega) (by omega)); (try have := fb_subI (x := x4) (y := (x4 / 4 * 4)) (by omega) (by omega)); (try have := fb_addI (x := x4) (y := 1) (by omega) (by omega)); omega) (by have := i0; have := hm; have := gi_of_nle c1; have := gi_of_eq c2; have := gi_of_eq c3; have := gi_of_eq c8; have : (0 : Int32).toInt = 0 := rfl; have : (1 : Int32).toInt = 1 := rfl; have : (16 : Int32).toInt = 16 := rfl; have : (3 : Int32).toInt = 3 := rfl; have : (4 : Int32).toInt = 4 := rfl; have := fb_rng (x4); have := fb_divK (x := x4) (y := 4) (k := 4) rfl (by decide); (try have := fb_mulK (x := (x4 / 4)) (y := 4) (k := 4) rfl (by omega) (by omega)); (try have := fb_subI (x := x4) (y := (x4 / 4 * 4)) (by omega) (by omega)); (try have := fb_addI (x := x4) (y := 1) (by omega) (by omega)); omega) (by have := i0; have := hm; have := gi_of_nle c1; have := gi_of_eq c2; have := gi_of_eq c3; have := gi_of_eq c8; have : (0 : Int32).toInt = 0 := rfl; have : (1 : Int32).toInt = 1 := rfl; have : (16 : Int32).toInt = 16 := rfl; have : (3 : Int32).toInt = 3 := rfl; have : (4 : Int32).toInt = 4 := rfl; have := fb_rng (x4); have := fb_divK (x := x4) (y := 4) (k := 4) rfl (by decide); (try have := fb_mulK (x := (x4 / 4)) (y := 4) (k := 4) rfl (by omega) (by omega)); (try have := fb_subI (x := x4) (y := (x4 / 4 * 4)) (by omega) (by omega)); (try have := fb_addI (x := x4) (y := 1) (by omega) (by omega)); omega)
              · unfold f_X9_manyOf_78
                refine ok_chk (by have := i0; have := hm; have := gi_of_nle c1; have := gi_of_eq c2; have := gi_of_eq c3; have := gi_of_ne c8; have : (0 : Int32).toInt = 0 := rfl; have : (1 : Int32).toInt = 1 := rfl; have : (16 : Int32).toInt = 16 := rfl; have : (3 : Int32).toInt = 3 := rfl; have : (4 : Int32).toInt = 4 := rfl; have := fb_rng (x4); have := fb_divK (x := x4) (y := 4) (k := 4) rfl (by decide); (try have := fb_mulK (x := (x4 / 4)) (y := 4) (k := 4) rfl (by omega) (by omega)); (try have := fb_subI (x := x4) (y := (x4 / 4 * 4)) (by omega) (by omega)); omega) ?_
                unfold f_X9_manyOf_89
                exact ih_X9_manyOf_5 (x2 + ((eJ h 0 41) ((x4).toNatClampNeg))) (x4 + 1) (by have := i0; have := hm; have := gi_of_nle c1; have := gi_of_eq c2; have := gi_of_eq c3; have := gi_of_ne c8; have : (0 : Int32).toInt = 0 := rfl; have : (1 : Int32).toInt = 1 := rfl; have : (16 : Int32).toInt = 16 := rfl; have : (3 : Int32).toInt = 3 := rfl; have : (4 : Int32).toInt = 4 := rfl; have := fb_rng (x4); have := fb_divK (x := x4) (y := 4) (k := 4) rfl (by decide); (try have := fb_mulK (x := (x4 / 4)) (y := 4) (k := 4) rfl (by omega) (by omega)); (try have := fb_subI (x := x4) (y := (x4 / 4 * 4)) (by omega) (by omega)); (try have := fb_addI (x := x4) (y := 1) (by omega) (by omega)); omega) (by have := i0; have := hm; have := gi_of_nle c1; have := gi_of_eq c2; have := gi_of_eq c3; have := gi_of_ne c8; have : (0 : Int32).toInt = 0 := rfl; have : (1 : Int32).toInt = 1 := rfl; have : (16 : Int32).toInt = 16 := rfl; have : (3 : Int32).toInt = 3 := rfl; have : (4 : Int32).toInt = 4 := rfl; have := fb_rng (x4); have := fb_divK (x := x4) (y := 4) (k := 4) rfl (by decide); (try have := fb_mulK (x := (x4 / 4)) (y := 4) (k := 4) rfl (by omega) (by omega)); (try have := fb_subI (x := x4) (y := (x4 / 4 * 4)) (by omega) (by omega)); (try have := fb_addI (x := x4) (y := 1) (by omega) (by omega)); omega) (by have := i0; have := hm; have := gi_of_nle c1; have := gi_of_eq c2; have := gi_of_eq c3; have := gi_of_ne c8; have : (0 : Int32).toInt = 0 := rfl; have : (1 : Int32).toInt = 1 := rfl; have : (16 : Int32).toInt = 16 := rfl; have : (3 : Int32).toInt = 3 := rfl; have : (4 : Int32).toInt = 4 := rfl; have := fb_rng (x4); have := fb_divK (x := x4) (y := 4) (k := 4) rfl (by decide); (try have := fb_mulK (x := (x4 / 4)) (y := 4) (k := 4) rfl (by omega) (by omega)); (try have := fb_subI (x := x4) (y := (x4 / 4 * 4)) (by omega) (by omega)); (try have := fb_addI (x := x4) (y := 1) (by omega) (by omega)); omega)
            · refine ok_if (fun c10 => ?_) (fun c10 => ?_)
              · unfold f_X9_manyOf_88
                unfold f_X9_manyOf_89
                exact ih_X9_manyOf_5 (x2 + 0) (x4 + 1) (by have := i0; have := hm; have := gi_of_nle c1; have := gi_of_eq c2; have := gi_of_eq c3; have := gi_of_eq c10; have : (0 : Int32).toInt = 0 := rfl; have : (1 : Int32).toInt = 1 := rfl; have : (16 : Int32).toInt = 16 := rfl; have : (3 : Int32).toInt = 3 := rfl; have : (4 : Int32).toInt = 4 := rfl; have := fb_rng (x4); have := fb_divK (x := x4) (y := 4) (k := 4) rfl (by decide); (try have := fb_mulK (x := (x4 / 4)) (y := 4) (k := 4) rfl (by omega) (by omega)); (try have := fb_subI (x := x4) (y := (x4 / 4 * 4)) (by omega) (by omega)); (try have := fb_addI (x := x4) (y := 1) (by omega) (by omega)); omega) (by have := i0; have := hm; have := gi_of_nle c1; have := gi_of_eq c2; have := gi_of_eq c3; have := gi_of_eq c10; have : (0 : Int32).toInt = 0 := rfl; have : (1 : Int32).toInt = 1 := rfl; have : (16 : Int32).toInt = 16 := rfl; have : (3 : Int32).toInt = 3 := rfl; have : (4 : Int32).toInt = 4 := rfl; have := fb_rng (x4); have := fb_divK (x := x4) (y := 4) (k := 4) rfl (by decide); (try have := fb_mulK (x := (x4 / 4)) (y := 4) (k := 4) rfl (by omega) (by omega)); (try have := fb_subI (x := x4) (y := (x4 / 4 * 4)) (by omega) (by omega)); (try have := fb_addI (x := x4) (y := 1) (by omega) (by omega)); omega) (by have := i0; have := hm; have := gi_of_nle c1; have := gi_of_eq c2; have := gi_of_eq c3; have := gi_of_eq c10; have : (0 : Int32).toInt = 0 := rfl; have : (1 : Int32).toInt = 1 := rfl; have : (16 : Int32).toInt = 16 := rfl; have : (3 : Int32).toInt = 3 := rfl; have : (4 : Int32).toInt = 4 := rfl; have := fb_rng (x4); have := fb_divK (x := x4) (y := 4) (k := 4) rfl (by decide); (try have := fb_mulK (x := (x4 / 4)) (y := 4) (k := 4) rfl (by omega) (by omega)); (try have := fb_subI (x := x4) (y := (x4 / 4 * 4)) (by omega) (by omega)); (try have := fb_addI (x := x4) (y := 1) (by omega) (by omega)); omega)
              · refine ok_if (fun c11 => ?_) (fun c11 => ?_)
                · unfold f_X9_manyOf_78
                  refine ok_chk (by have := i0; have := hm; have := gi_of_nle c1; have := gi_of_eq c2; have := gi_of_eq c3; have := gi_of_ne c10; have := gi_of_eq c11; have : (0 : Int32).toInt = 0 := rfl; have : (1 : Int32).toInt = 1 := rfl; have : (16 : Int32).toInt = 16 := rfl; have : (3 : Int32).toInt = 3 := rfl; have : (4 : Int32).toInt = 4 := rfl; have := fb_rng (x4); have := fb_divK (x := x4) (y := 4) (k := 4) rfl (by decide); (try have := fb_mulK (x := (x4 / 4)) (y := 4) (k := 4) rfl (by omega) (by omega)); (try have := fb_subI (x := x4) (y := (x4 / 4 * 4)) (by omega) (by omega)); omega) ?_
                  unfold f_X9_manyOf_89
                  exact ih_X9_manyOf_5 (x2 + ((eJ h 0 41) ((x4).toNatClampNeg))) (x4 + 1) (by have := i0; have := hm; have := gi_of_nle c1; have := gi_of_eq c2; have := gi_of_eq c3; have := gi_of_ne c10; have := gi_of_eq c11; have : (0 : Int32).toInt = 0 := rfl; have : (1 : Int32).toInt = 1 := rfl; have : (16 : Int32).toInt = 16 := rfl; have : (3 : Int32).toInt = 3 := rfl; have : (4 : Int32).toInt = 4 := rfl; have := fb_rng (x4); have := fb_divK (x := x4) (y := 4) (k := 4) rfl (by decide); (try have := fb_mulK (x := (x4 / 4)) (y := 4) (k := 4) rfl (by omega) (by omega)); (try have := fb_subI (x := x4) (y := (x4 / 4 * 4)) (by omega) (by omega)); (try have := fb_addI (x := x4) (y := 1) (by omega) (by omega)); omega) (by have := i0; have := hm; have := gi_of_nle c1; have := gi_of_eq c2; have := gi_of_eq c3; have := gi_of_ne c10; have := gi_of_eq c11; have : (0 : Int32).toInt = 0 := rfl; have : (1 : Int32).toInt = 1 := rfl; have : (16 : Int32).toInt = 16 := rfl; have : (3 : Int32).toInt = 3 := rfl; have : (4 : Int32).toInt = 4 := rfl; have := fb_rng (x4); have := fb_divK (x := x4) (y := 4) (k := 4) rfl (by decide); (try have := fb_mulK (x := (x4 / 4)) (y := 4) (k := 4) rfl (by omega) (by omega)); (try have := fb_subI (x := x4) (y := (x4 / 4 * 4)) (by omega) (by omega)); (try have := fb_addI (x := x4) (y := 1) (by omega) (by omega)); omega) (by have := i0; have := hm; have := gi_of_nle c1; have := gi_of_eq c2; have := gi_of_eq c3; have := gi_of_ne c10; have := gi_of_eq c11; have : (0 : Int32).toInt = 0 := rfl; have : (1 : Int32).toInt = 1 := rfl; have : (16 : Int32).toInt = 16 := rfl; have : (3 : Int32).toInt = 3 := rfl; have : (4 : Int32).toInt = 4 := rfl; have := fb_rng (x4); have := fb_divK (x := x4) (y := 4) (k := 4) rfl (by decide); (try have := fb_mulK (x := (x4 / 4)) (y := 4) (k := 4) rfl (by omega) (by omega)); (try have := fb_subI (x := x4) (y := (x4 / 4 * 4)) (by omega) (by omega)); (try have := fb_addI (x := x4) (y := 1) (by omega) (by omega)); omega)
                · unfold f_X9_manyOf_88
                  unfold f_X9_manyOf_89
                  exact ih_X9_manyOf_5 (x2 + 0) (x4 + 1) (by have := i0; have := hm; have := gi_of_nle c1; have := gi_of_eq c2; have := gi_of_eq c3; have := gi_of_ne c10; have := gi_of_ne c11; have : (0 : Int32).toInt = 0 := rfl; have : (1 : Int32).toInt = 1 := rfl; have : (16 : Int32).toInt = 16 := rfl; have : (3 : Int32).toInt = 3 := rfl; have : (4 : Int32).toInt = 4 := rfl; have := fb_rng (x4); have := fb_divK (x := x4) (y := 4) (k := 4) rfl (by decide); (try have := fb_mulK (x := (x4 / 4)) (y := 4) (k := 4) rfl (by omega) (by omega)); (try have := fb_subI (x := x4) (y := (x4 / 4 * 4)) (by omega) (by omega)); (try have := fb_addI (x := x4) (y := 1) (by omega) (by omega)); omega) (by have := i0; have := hm; have := gi_of_nle c1; have := gi_of_eq c2; have := gi_of_eq c3; have := gi_of_ne c10; have := gi_of_ne c11; have : (0 : Int32).toInt = 0 := rfl; have : (1 : Int32).toInt = 1 := rfl; have : (16 : Int32).toInt = 16 := rfl; have : (3 : Int32).toInt = 3 := rfl; have : (4 : Int32).toInt = 4 := rfl; have := fb_rng (x4); have := fb_divK (x := x4) (y := 4) (k := 4) rfl (by decide); (try have := fb_mulK (x := (x4 / 4)) (y := 4) (k := 4) rfl (by omega) (by omega)); (try have := fb_subI (x := x4) (y := (x4 / 4 * 4)) (by omega) (by omega)); (try have := fb_addI (x := x4) (y := 1) (by omega) (by omega)); omega) (by have := i0; have := hm; have := gi_of_nle c1; have := gi_of_eq c2; have := gi_of_eq c3; have := gi_of_ne c10; have := gi_of_ne c11; have : (0 : Int32).toInt = 0 := rfl; have : (1 : Int32).toInt = 1 := rfl; have : (16 : Int32).toInt = 16 := rfl; have : (3 : Int32).toInt = 3 := rfl; have : (4 : Int32).toInt = 4 := rfl; have := fb_rng (x4); have := fb_divK (x := x4) (y := 4) (k := 4) rfl (by decide); (try have := fb_mulK (x := (x4 / 4)) (y := 4) (k := 4) rfl (by omega) (by omega)); (try have := fb_subI (x := x4) (y := (x4 / 4 * 4)) (by omega) (by omega)); (try have := fb_addI (x := x4) (y := 1) (by omega) (by omega)); omega)
        · unfold f_X9_manyOf_40
          refine ok_if (fun c13 => ?_) (fun c13 => ?_)
          · refine ok_if (fun c14 => ?_) (fun c14 => ?_)
            · unfold f_X9_manyOf_88
              unfold f_X9_manyOf_89
              exact ih_X9_manyOf_5 (x2 + 0) (x4 + 1) (by have := i0; have := hm; have := gi_of_nle c1; have := gi_of_eq c2; have := gi_of_ne c3; have := gi_of_eq c14; have : (0 : Int32).toInt = 0 := rfl; have : (1 : Int32).toInt = 1 := rfl; have : (16 : Int32).toInt = 16 := rfl; have : (3 : Int32).toInt = 3 := rfl; have : (4 : Int32).toInt = 4 := rfl; have := fb_rng (x4); have := fb_divK (x := x4) (y := 4) (k := 4) rfl (by decide); (try have := fb_mulK (x := (x4 / 4)) (y := 4) (k := 4) rfl (by omega) (by omega)); (try have := fb_subI (x := x4) (y := (x4 / 4 * 4)) (by omega) (by omega)); (try have := fb_addI (x := x4) (y := 1) (by omega) (by omega)); omega) (by have := i0; have := hm; have := gi_of_nle c1; have := gi_of_eq c2; have := gi_of_ne c3; have := gi_of_eq c14; have : (0 : Int32).toInt = 0 := rfl; have : (1 : Int32).toInt = 1 := rfl; have : (16 : Int32).toInt = 16 := rfl; have : (3 : Int32).toInt = 3 := rfl; have : (4 : Int32).toInt = 4 := rfl; have := fb_rng (x4); have := fb_divK (x := x4) (y := 4) (k := 4) rfl (by decide); (try have := fb_mulK (x := (x4 / 4)) (y := 4) (k := 4) rfl (by omega) (by omega)); (try have := fb_subI (x := x4) (y := (x4 / 4 * 4)) (by omega) (by omega)); (try have := fb_addI (x := x4) (y := 1) (by omega) (by omega)); omega) (by have := i0; have := hm; have := gi_of_nle c1; have := gi_of_eq c2; have := gi_of_ne c3; have := gi_of_eq c14; have : (0 : Int32).toInt = 0 := rfl; have : (1 : Int32).toInt = 1 := rfl; have : (16 : Int32).toInt = 16 := rfl; have : (3 : Int32).toInt = 3 := rfl; have : (4 : Int32).toInt = 4 := rfl; have := fb_rng (x4); have := fb_divK (x := x4) (y := 4) (k := 4) rfl (by decide); (try have := fb_mulK (x := (x4 / 4)) (y := 4) (k := 4) rfl (by omega) (by omega)); (try have := fb_subI (x := x4) (y := (x4 / 4 * 4)) (by omega) (by omega)); (try have := fb_addI (x := x4) (y := 1) (by omega) (by omega)); omega)
            · unfold f_X9_manyOf_78
              refine ok_chk (by have := i0; have := hm; have := gi_of_nle c1; have := gi_of_eq c2; have := gi_of_ne c3; have := gi_of_ne c14; have : (0 : Int32).toInt = 0 := rfl; have : (1 : Int32).toInt = 1 := rfl; have : (16 : Int32).toInt = 16 := rfl; have : (3 : Int32).toInt = 3 := rfl; have : (4 : Int32).toInt = 4 := rfl; have := fb_rng (x4); have := fb_divK (x := x4) (y := 4) (k := 4) rfl (by decide); (try have := fb_mulK (x := (x4 / 4)) (y := 4) (k := 4) rfl (by omega) (by omega)); (try have := fb_subI (x := x4) (y := (x4 / 4 * 4)) (by omega) (by omega)); omega) ?_
              unfold f_X9_manyOf_89
              exact ih_X9_manyOf_5 (x2 + ((eJ h 0 41) ((x4).toNatClampNeg))) (x4 + 1) (by have := i0; have := hm; have := gi_of_nle c1; have := gi_of_eq c2; have := gi_of_ne c3; have := gi_of_ne c14; have : (0 : Int32).toInt = 0 := rfl; have : (1 : Int32).toInt = 1 := rfl; have : (16 : Int32).toInt = 16 := rfl; have : (3 : Int32).toInt = 3 := rfl; have : (4 : Int32).toInt = 4 := rfl; have := fb_rng (x4); have := fb_divK (x := x4) (y := 4) (k := 4) rfl (by decide); (try have := fb_mulK (x := (x4 / 4)) (y := 4) (k := 4) rfl (by omega) (by omega)); (try have := fb_subI (x := x4) (y := (x4 / 4 * 4)) (by omega) (by omega)); (try have := fb_addI (x := x4) (y := 1) (by omega) (by omega)); omega) (by have := i0; have := hm; have := gi_of_nle c1; have := gi_of_eq c2; have := gi_of_ne c3; have := gi_of_ne c14; have : (0 : Int32).toInt = 0 := rfl; have : (1 : Int32).toInt = 1 := rfl; have : (16 : Int32).toInt = 16 := rfl; have : (3 : Int32).toInt = 3 := rfl; have : (4 : Int32).toInt = 4 := rfl; have := fb_rng (x4); have := fb_divK (x := x4) (y := 4) (k := 4) rfl (by decide); (try have := fb_mulK (x := (x4 / 4)) (y := 4) (k := 4) rfl (by omega) (by omega)); (try have := fb_subI (x := x4) (y := (x4 / 4 * 4)) (by omega) (by omega)); (try have := fb_addI (x := x4) (y := 1) (by omega) (by omega)); omega) (by have := i0; have := hm; have := gi_of_nle c1; have := gi_of_eq c2; have := gi_of_ne c3; have := gi_of_ne c14; have : (0 : Int32).toInt = 0 := rfl; have : (1 : Int32).toInt = 1 := rfl; have : (16 : Int32).toInt = 16 := rfl; have : (3 : Int32).toInt = 3 := rfl; have : (4 : Int32).toInt = 4 := rfl; have := fb_rng (x4); have := fb_divK (x := x4) (y := 4) (k := 4) rfl (by decide); (try have := fb_mulK (x := (x4 / 4)) (y := 4) (k := 4) rfl (by omega) (by omega)); (try have := fb_subI (x := x4) (y := (x4 / 4 * 4)) (by omega) (by omega)); (try have := fb_addI (x := x4) (y := 1) (by omega) (by omega)); omega)
          · refine ok_if (fun c16 => ?_) (fun c16 => ?_)
            · refine ok_if (fun c17 => ?_) (fun c17 => ?_)
              · unfold f_X9_manyOf_88
                unfold f_X9_manyOf_89
                exact ih_X9_manyOf_5 (x2 + 0) (x4 + 1) (by have := i0; have := hm; have := gi_of_nle c1; have := gi_of_eq c2; have := gi_of_ne c3; have := gi_of_eq c17; have : (0 : Int32).toInt = 0 := rfl; have : (1 : Int32).toInt = 1 := rfl; have : (16 : Int32).toInt = 16 := rfl; have : (3 : Int32).toInt = 3 := rfl; have : (4 : Int32).toInt = 4 := rfl; have := fb_rng (x4); have := fb_divK (x := x4) (y := 4) (k := 4) rfl (by decide); (try have := fb_mulK (x := (x4 / 4)) (y := 4) (k := 4) rfl (by omega) (by omega)); (try have := fb_subI (x := x4) (y := (x4 / 4 * 4)) (by omega) (by omega)); (try have := fb_addI (x := x4) (y := 1) (by omega) (by omega)); omega) (by have := i0; have := hm; have := gi_of_nle c1; have := gi_of_eq c2; have := gi_of_ne c3; have := gi_of_eq c17; have : (0 : Int32).toInt = 0 := rfl; have : (1 : Int32).toInt = 1 := rfl; have : (16 : Int32).toInt = 16 := rfl; have : (3 : Int32).toInt = 3 := rfl; have : (4 : Int32).toInt = 4 := rfl; have := fb_rng (x4); have := fb_divK (x := x4) (y := 4) (k := 4) rfl (by decide); (try have := fb_mulK (x := (x4 / 4)) (y := 4) (k := 4) rfl (by omega) (by omega)); (try have := fb_subI (x := x4) (y := (x4 / 4 * 4)) (by omega) (by omega)); (try have := fb_addI (x := x4) (y := 1) (by omega) (by omega)); omega) (by have := i0; have := hm; have := gi_of_nle c1; have := gi_of_eq c2; have := gi_of_ne c3; have := gi_of_eq c17; have : (0 : Int32).toInt = 0 := rfl; have : (1 : Int32).toInt = 1 := rfl; have : (16 : Int32).toInt = 16 := rfl; have : (3 : Int32).toInt = 3 := rfl; have : (4 : Int32).toInt = 4 := rfl; have := fb_rng (x4); have := fb_divK (x := x4) (y := 4) (k := 4) rfl (by decide); (try have := fb_mulK (x := (x4 / 4)) (y := 4) (k := 4) rfl (by omega) (by omega)); (try have := fb_subI (x := x4) (y := (x4 / 4 * 4)) (by omega) (by omega)); (try have := fb_addI (x := x4) (y := 1) (by omega) (by omega)); omega)
              · unfold f_X9_manyOf_78
                refine ok_chk (by have := i0; have := hm; have := gi_of_nle c1; have := gi_of_eq c2; have := gi_of_ne c3; have := gi_of_ne c17; have : (0 : Int32).toInt = 0 := rfl; have : (16 : Int32).toInt = 16 := rfl; have : (3 : Int32).toInt = 3 := rfl; have : (4 : Int32).toInt = 4 := rfl; have := fb_rng (x4); have := fb_divK (x := x4) (y := 4) (k := 4) rfl (by decide); (try have := fb_mulK (x := (x4 / 4)) (y := 4) (k := 4) rfl (by omega) (by omega)); (try have := fb_subI (x := x4) (y := (x4 / 4 * 4)) (by omega) (by omega)); omega) ?_
                unfold f_X9_manyOf_89
                exact ih_X9_manyOf_5 (x2 + ((eJ h 0 41) ((x4).toNatClampNeg))) (x4 + 1) (by have := i0; have := hm; have := gi_of_nle c1; have := gi_of_eq c2; have := gi_of_ne c3; have := gi_of_ne c17; have : (0 : Int32).toInt = 0 := rfl; have : (1 : Int32).toInt = 1 := rfl; have : (16 : Int32).toInt = 16 := rfl; have : (3 : Int32).toInt = 3 := rfl; have : (4 : Int32).toInt = 4 := rfl; have := fb_rng (x4); have := fb_divK (x := x4) (y := 4) (k := 4) rfl (by decide); (try have := fb_mulK (x := (x4 / 4)) (y := 4) (k := 4) rfl (by omega) (by omega)); (try have := fb_subI (x := x4) (y := (x4 / 4 * 4)) (by omega) (by omega)); (try have := fb_addI (x := x4) (y := 1) (by omega) (by omega)); omega) (by have := i0; have := hm; have := gi_of_nle c1; have := gi_of_eq c2; have := gi_of_ne c3; have := gi_of_ne c17; have : (0 : Int32).toInt = 0 := rfl; have : (1 : Int32).toInt = 1 := rfl; have : (16 : Int32).toInt = 16 := rfl; have : (3 : Int32).toInt = 3 := rfl; have : (4 : Int32).toInt = 4 := rfl; have := fb_rng (x4); have := fb_divK (x := x4) (y := 4) (k := 4) rfl (by decide); (try have := fb_mulK (x := (x4 / 4)) (y := 4) (k := 4) rfl (by omega) (by omega)); (try have := fb_subI (x := x4) (y := (x4 / 4 * 4)) (by omega) (by omega)); (try have := fb_addI (x := x4) (y := 1) (by omega) (by omega)); omega) (by have := i0; have := hm; have := gi_of_nle c1; have := gi_of_eq c2; have := gi_of_ne c3; have := gi_of_ne c17; have : (0 : Int32).toInt = 0 := rfl; have : (1 : Int32).toInt = 1 := rfl; have : (16 : Int32).toInt = 16 := rfl; have : (3 : Int32).toInt = 3 := rfl; have : (4 : Int32).toInt = 4 := rfl; have := fb_rng (x4); have := fb_divK (x := x4) (y := 4) (k := 4) rfl (by decide); (try have := fb_mulK (x := (x4 / 4)) (y := 4) (k := 4) rfl (by omega) (by omega)); (try have := fb_subI (x := x4) (y := (x4 / 4 * 4)) (by omega) (by omega)); (try have := fb_addI (x := x4) (y := 1) (by omega) (by omega)); omega)
            · refine ok_if (fun c19 => ?_) (fun c19 => ?_)
              · unfold f_X9_manyOf_88
                unfold f_X9_manyOf_89
                exact ih_X9_manyOf_5 (x2 + 0) (x4 + 1) (by have := i0; have := hm; have := gi_of_nle c1; have := gi_of_eq c2; have := gi_of_ne c3; have := gi_of_eq c19; have : (0 : Int32).toInt = 0 := rfl; have : (1 : Int32).toInt = 1 := rfl; have : (16 : Int32).toInt = 16 := rfl; have : (3 : Int32).toInt = 3 := rfl; have : (4 : Int32).toInt = 4 := rfl; have := fb_rng (x4); have := fb_divK (x := x4) (y := 4) (k := 4) rfl (by decide); (try have := fb_mulK (x := (x4 / 4)) (y := 4) (k := 4) rfl (by omega) (by omega)); (try have := fb_subI (x := x4) (y := (x4 / 4 * 4)) (by omega) (by omega)); (try have := fb_addI (x := x4) (y := 1) (by omega) (by omega)); omega) (by have := i0; have := hm; have := gi_of_nle c1; have := gi_of_eq c2; have := gi_of_ne c3; have := gi_of_eq c19; have : (0 : Int32).toInt = 0 := rfl; have : (1 : Int32).toInt = 1 := rfl; have : (16 : Int32).toInt = 16 := rfl; have : (3 : Int32).toInt = 3 := rfl; have : (4 : Int32).toInt = 4 := rfl; have := fb_rng (x4); have := fb_divK (x := x4) (y := 4) (k := 4) rfl (by decide); (try have := fb_mulK (x := (x4 / 4)) (y := 4) (k := 4) rfl (by omega) (by omega)); (try have := fb_subI (x := x4) (y := (x4 / 4 * 4)) (by omega) (by omega)); (try have := fb_addI (x := x4) (y := 1) (by omega) (by omega)); omega) (by have := i0; have := hm; have := gi_of_nle c1; have := gi_of_eq c2; have := gi_of_ne c3; have := gi_of_eq c19; have : (0 : Int32).toInt = 0 := rfl; have : (1 : Int32).toInt = 1 := rfl; have : (16 : Int32).toInt = 16 := rfl; have : (3 : Int32).toInt = 3 := rfl; have : (4 : Int32).toInt = 4 := rfl; have := fb_rng (x4); have := fb_divK (x := x4) (y := 4) (k := 4) rfl (by decide); (try have := fb_mulK (x := (x4 / 4)) (y := 4) (k := 4) rfl (by omega) (by omega)); (try have := fb_subI (x := x4) (y := (x4 / 4 * 4)) (by omega) (by omega)); (try have := fb_addI (x := x4) (y := 1) (by omega) (by omega)); omega)
              · refine ok_if (fun c20 => ?_) (fun c20 => ?_)
                · unfold f_X9_manyOf_78
                  refine ok_chk (by have := i0; have := hm; have := gi_of_nle c1; have := gi_of_eq c2; have := gi_of_ne c3; have := gi_of_ne c19; have := gi_of_eq c20; have : (0 : Int32).toInt = 0 := rfl; have : (1 : Int32).toInt = 1 := rfl; have : (16 : Int32).toInt = 16 := rfl; have : (3 : Int32).toInt = 3 := rfl; have : (4 : Int32).toInt = 4 := rfl; have := fb_rng (x4); have := fb_divK (x := x4) (y := 4) (k := 4) rfl (by decide); (try have := fb_mulK (x := (x4 / 4)) (y := 4) (k := 4) rfl (by omega) (by omega)); (try have := fb_subI (x := x4) (y := (x4 / 4 * 4)) (by omega) (by omega)); omega) ?_
                  unfold f_X9_manyOf_89
                  exact ih_X9_manyOf_5 (x2 + ((eJ h 0 41) ((x4).toNatClampNeg))) (x4 + 1) (by have := i0; have := hm; have := gi_of_nle c1; have := gi_of_eq c2; have := gi_of_ne c3; have := gi_of_ne c19; have := gi_of_eq c20; have : (0 : Int32).toInt = 0 := rfl; have : (1 : Int32).toInt = 1 := rfl; have : (16 : Int32).toInt = 16 := rfl; have : (3 : Int32).toInt = 3 := rfl; have : (4 : Int32).toInt = 4 := rfl; have := fb_rng (x4); have := fb_divK (x := x4) (y := 4) (k := 4) rfl (by decide); (try have := fb_mulK (x := (x4 / 4)) (y := 4) (k := 4) rfl (by omega) (by omega)); (try have := fb_subI (x := x4) (y := (x4 / 4 * 4)) (by omega) (by omega)); (try have := fb_addI (x := x4) (y := 1) (by omega) (by omega)); omega) (by have := i0; have := hm; have := gi_of_nle c1; have := gi_of_eq c2; have := gi_of_ne c3; have := gi_of_ne c19; have := gi_of_eq c20; have : (0 : Int32).toInt = 0 := rfl; have : (1 : Int32).toInt = 1 := rfl; have : (16 : Int32).toInt = 16 := rfl; have : (3 : Int32).toInt = 3 := rfl; have : (4 : Int32).toInt = 4 := rfl; have := fb_rng (x4); have := fb_divK (x := x4) (y := 4) (k := 4) rfl (by decide); (try have := fb_mulK (x := (x4 / 4)) (y := 4) (k := 4) rfl (by omega) (by omega)); (try have := fb_subI (x := x4) (y := (x4 / 4 * 4)) (by omega) (by omega)); (try have := fb_addI (x := x4) (y := 1) (by omega) (by omega)); omega) (by have := i0; have := hm; have := gi_of_nle c1; have := gi_of_eq c2; have := gi_of_ne c3; have := gi_of_ne c19; have := gi_of_eq c20; have : (0 : Int32).toInt = 0 := rfl; have : (1 : Int32).toInt = 1 := rfl; have : (16 : Int32).toInt = 16 := rfl; have : (3 : Int32).toInt = 3 := rfl; have : (4 : Int32).toInt = 4 := rfl; have := fb_rng (x4); have := fb_divK (x := x4) (y := 4) (k := 4) rfl (by decide); (try have := fb_mulK (x := (x4 / 4)) (y := 4) (k := 4) rfl (by omega) (by omega)); (try have := fb_subI (x := x4) (y := (x4 / 4 * 4)) (by omega) (by omega)); (try have := fb_addI (x := x4) (y := 1) (by omega) (by omega)); omega)
                · unfold f_X9_manyOf_88
                  unfold f_X9_manyOf_89
                  exact ih_X9_manyOf_5 (x2 + 0) (x4 + 1) (by have := i0; have := hm; have := gi_of_nle c1; have := gi_of_eq c2; have := gi_of_ne c3; have := gi_of_ne c19; have := gi_of_ne c20; have : (0 : Int32).toInt = 0 := rfl; have : (1 : Int32).toInt = 1 := rfl; have : (16 : Int32).toInt = 16 := rfl; have : (3 : Int32).toInt = 3 := rfl; have : (4 : Int32).toInt = 4 := rfl; have := fb_rng (x4); have := fb_divK (x := x4) (y := 4) (k := 4) rfl (by decide); (try have := fb_mulK (x := (x4 / 4)) (y := 4) (k := 4) rfl (by omega) (by omega)); (try have := fb_subI (x := x4) (y := (x4 / 4 * 4)) (by omega) (by omega)); (try have := fb_addI (x := x4) (y := 1) (by omega) (by omega)); omega) (by have := i0; have := hm; have := gi_of_nle c1; have := gi_of_eq c2; have := gi_of_ne c3; have := gi_of_ne c19; have := gi_of_ne c20; have : (0 : Int32).toInt = 0 := rfl; have : (1 : Int32).toInt = 1 := rfl; have : (16 : Int32).toInt = 16 := rfl; have : (3 : Int32).toInt = 3 := rfl; have : (4 : Int32).toInt = 4 := rfl; have := fb_rng (x4); have := fb_divK (x := x4) (y := 4) (k := 4) rfl (by decide); (try have := fb_mulK (x := (x4 / 4)) (y := 4) (k := 4) rfl (by omega) (by omega)); (try have := fb_subI (x := x4) (y := (x4 / 4 * 4)) (by omega) (by omega)); (try have := fb_addI (x := x4) (y := 1) (by omega) (by omega)); omega) (by have := i0; have := hm; have := gi_of_nle c1; have := gi_of_eq c2; have := gi_of_ne c3; have := gi_of_ne c19; have := gi_of_ne c20; have : (0 : Int32).toInt = 0 := rfl; have : (1 : Int32).toInt = 1 := rfl; have : (16 : Int32).toInt = 16 := rfl; have : (3 : Int32).toInt = 3 := rfl; have : (4 : Int32).toInt = 4 := rfl; have := fb_rng (x4); have := fb_divK (x := x4) (y := 4) (k := 4) rfl (by decide); (try have := fb_mulK (x := (x4 / 4)) (y := 4) (k := 4) rfl (by omega) (by omega)); (try have := fb_subI (x := x4) (y := (x4 / 4 * 4)) (by omega) (by omega)); (try have := fb_addI (x := x4) (y := 1) (by omega) (by omega)); omega)
      · unfold f_X9_manyOf_25
        refine ok_if (fun c22 => ?_) (fun c22 => ?_)
        · unfold f_X9_manyOf_40
          refine ok_if (fun c23 => ?_) (fun c23 => ?_)
          · refine ok_if (fun c24 => ?_) (fun c24 => ?_)
            · unfold f_X9_manyOf_88
              unfold f_X9_manyOf_89
              exact ih_X9_manyOf_5 (x2 + 0) (x4 + 1) (by have := i0; have := hm; have := gi_of_nle c1; have := gi_of_ne c2; have := gi_of_eq c22; have := gi_of_eq c24; have : (0 : Int32).toInt = 0 := rfl; have : (1 : Int32).toInt = 1 := rfl; have : (16 : Int32).toInt = 16 := rfl; have : (3 : Int32).toInt = 3 := rfl; have : (4 : Int32).toInt = 4 := rfl; have := fb_rng (x4); have := fb_divK (x := x4) (y := 4) (k := 4) rfl (by decide); (try have := fb_mulK (x := (x4 / 4)) (y := 4) (k := 4) rfl (by omega) (by omega)); (try have := fb_subI (x := x4) (y := (x4 / 4 * 4)) (by omega) (by omega)); (try have := fb_addI (x := x4) (y := 1) (by omega) (by omega)); omega) (by have := i0; have := hm; have := gi_of_nle c1; have := gi_of_ne c2; have := gi_of_eq c22; have := gi_of_eq c24; have : (0 : Int32).toInt = 0 := rfl; have : (1 : Int32).toInt = 1 := rfl; have : (16 : Int32).toInt = 16 := rfl; have : (3 : Int32).toInt = 3 := rfl; have : (4 : Int32).toInt = 4 := rfl; have := fb_rng (x4); have := fb_divK (x := x4) (y := 4) (k := 4) rfl (by decide); (try have := fb_mulK (x := (x4 / 4)) (y := 4) (k := 4) rfl (by omega) (by omega)); (try have := fb_subI (x := x4) (y := (x4 / 4 * 4)) (by omega) (by omega)); (try have := fb_addI (x := x4) (y := 1) (by omega) (by omega)); omega) (by have := i0; have := hm; have := gi_of_nle c1; have := gi_of_ne c2; have := gi_of_eq c22; have := gi_of_eq c24; have : (0 : Int32).toInt = 0 := rfl; have : (1 : Int32).toInt = 1 := rfl; have : (16 : Int32).toInt = 16 := rfl; have : (3 : Int32).toInt = 3 := rfl; have : (4 : Int32).toInt = 4 := rfl; have := fb_rng (x4); have := fb_divK (x := x4) (y := 4) (k := 4) rfl (by decide); (try have := fb_mulK (x := (x4 / 4)) (y := 4) (k := 4) rfl (by omega) (by omega)); (try have := fb_subI (x := x4) (y := (x4 / 4 * 4)) (by omega) (by omega)); (try have := fb_addI (x := x4) (y := 1) (by omega) (by omega)); omega)
            · unfold f_X9_manyOf_78
              refine ok_chk (by have := i0; have := hm; have := gi_of_nle c1; have := gi_of_ne c2; have := gi_of_eq c22; have := gi_of_ne c24; have : (0 : Int32).toInt = 0 := rfl; have : (16 : Int32).toInt = 16 := rfl; have : (3 : Int32).toInt = 3 := rfl; have : (4 : Int32).toInt = 4 := rfl; have := fb_rng (x4); have := fb_divK (x := x4) (y := 4) (k := 4) rfl (by decide); (try have := fb_mulK (x := (x4 / 4)) (y := 4) (k := 4) rfl (by omega) (by omega)); (try have := fb_subI (x := x4) (y := (x4 / 4 * 4)) (by omega) (by omega)); omega) ?_
              unfold f_X9_manyOf_89
              exact ih_X9_manyOf_5 (x2 + ((eJ h 0 41) ((x4).toNatClampNeg))) (x4 + 1) (by have := i0; have := hm; have := gi_of_nle c1; have := gi_of_ne c2; have := gi_of_eq c22; have := gi_of_ne c24; have : (0 : Int32).toInt = 0 := rfl; have : (1 : Int32).toInt = 1 := rfl; have : (16 : Int32).toInt = 16 := rfl; have : (3 : Int32).toInt = 3 := rfl; have : (4 : Int32).toInt = 4 := rfl; have := fb_rng (x4); have := fb_divK (x := x4) (y := 4) (k := 4) rfl (by decide); (try have := fb_mulK (x := (x4 / 4)) (y := 4) (k := 4) rfl (by omega) (by omega)); (try have := fb_subI (x := x4) (y := (x4 / 4 * 4)) (by omega) (by omega)); (try have := fb_addI (x := x4) (y := 1) (by omega) (by omega)); omega) (by have := i0; have := hm; have := gi_of_nle c1; have := gi_of_ne c2; have := gi_of_eq c22; have := gi_of_ne c24; have : (0 : Int32).toInt = 0 := rfl; have : (1 : Int32).toInt = 1 := rfl; have : (16 : Int32).toInt = 16 := rfl; have : (3 : Int32).toInt = 3 := rfl; have : (4 : Int32).toInt = 4 := rfl; have := fb_rng (x4); have := fb_divK (x := x4) (y := 4) (k := 4) rfl (by decide); (try have := fb_mulK (x := (x4 / 4)) (y := 4) (k := 4) rfl (by omega) (by omega)); (try have := fb_subI (x := x4) (y := (x4 / 4 * 4)) (by omega) (by omega)); (try have := fb_addI (x := x4) (y := 1) (by omega) (by omega)); omega) (by have := i0; have := hm; have := gi_of_nle c1; have := gi_of_ne c2; have := gi_of_eq c22; have := gi_of_ne c24; have : (0 : Int32).toInt = 0 := rfl; have : (1 : Int32).toInt = 1 := rfl; have : (16 : Int32).toInt = 16 := rfl; have : (3 : Int32).toInt = 3 := rfl; have : (4 : Int32).toInt = 4 := rfl; have := fb_rng (x4); have := fb_divK (x := x4) (y := 4) (k := 4) rfl (by decide); (try have := fb_mulK (x := (x4 / 4)) (y := 4) (k := 4) rfl (by omega) (by omega)); (try have := fb_subI (x := x4) (y := (x4 / 4 * 4)) (by omega) (by omega)); (try have := fb_addI (x := x4) (y := 1) (by omega) (by omega)); omega)
          · refine ok_if (fun c26 => ?_) (fun c26 => ?_)
            · refine ok_if (fun c27 => ?_) (fun c27 => ?_)
              · unfold f_X9_manyOf_88
                unfold f_X9_manyOf_89
                exact ih_X9_manyOf_5 (x2 + 0) (x4 + 1) (by have := i0; have := hm; have := gi_of_nle c1; have := gi_of_ne c2; have := gi_of_eq c22; have := gi_of_eq c27; have : (0 : Int32).toInt = 0 := rfl; have : (1 : Int32).toInt = 1 := rfl; have : (16 : Int32).toInt = 16 := rfl; have : (3 : Int32).toInt = 3 := rfl; have : (4 : Int32).toInt = 4 := rfl; have := fb_rng (x4); have := fb_divK (x := x4) (y := 4) (k := 4) rfl (by decide); (try have := fb_mulK (x := (x4 / 4)) (y := 4) (k := 4) rfl (by omega) (by omega)); (try have := fb_subI (x := x4) (y := (x4 / 4 * 4)) (by omega) (by omega)); (try have := fb_addI (x := x4) (y := 1) (by omega) (by omega)); omega) (by have := i0; have := hm; have := gi_of_nle c1; have := gi_of_ne c2; have := gi_of_eq c22; have := gi_of_eq c27; have : (0 : Int32).toInt = 0 := rfl; have : (1 : Int32).toInt = 1 := rfl; have : (16 : Int32).toInt = 16 := rfl; have : (3 : Int32).toInt = 3 := rfl; have : (4 : Int32).toInt = 4 := rfl; have := fb_rng (x4); have := fb_divK (x := x4) (y := 4) (k := 4) rfl (by decide); (try have := fb_mulK (x := (x4 / 4)) (y := 4) (k := 4) rfl (by omega) (by omega)); (try have := fb_subI (x := x4) (y := (x4 / 4 * 4)) (by omega) (by omega)); (try have := fb_addI (x := x4) (y := 1) (by omega) (by omega)); omega) (by have := i0; have := hm; have := gi_of_nle c1; have := gi_of_ne c2; have := gi_of_eq c22; have := gi_of_eq c27; have : (0 : Int32).toInt = 0 := rfl; have : (1 : Int32).toInt = 1 := rfl; have : (16 : Int32).toInt = 16 := rfl; have : (3 : Int32).toInt = 3 := rfl; have : (4 : Int32).toInt = 4 := rfl; have := fb_rng (x4); have := fb_divK (x := x4) (y := 4) (k := 4) rfl (by decide); (try have := fb_mulK (x := (x4 / 4)) (y := 4) (k := 4) rfl (by omega) (by omega)); (try have := fb_subI (x := x4) (y := (x4 / 4 * 4)) (by omega) (by omega)); (try have := fb_addI (x := x4) (y := 1) (by omega) (by omega)); omega)
              · unfold f_X9_manyOf_78
                refine ok_chk (by have := i0; have := hm; have := gi_of_nle c1; have := gi_of_ne c2; have := gi_of_eq c22; have := gi_of_ne c27; have : (0 : Int32).toInt = 0 := rfl; have : (1 : Int32).toInt = 1 := rfl; have : (16 : Int32).toInt = 16 := rfl; have : (3 : Int32).toInt = 3 := rfl; have : (4 : Int32).toInt = 4 := rfl; have := fb_rng (x4); have := fb_divK (x := x4) (y := 4) (k := 4) rfl (by decide); (try have := fb_mulK (x := (x4 / 4)) (y := 4) (k := 4) rfl (by omega) (by omega)); (try have := fb_subI (x := x4) (y := (x4 / 4 * 4)) (by omega) (by omega)); omega) ?_
                unfold f_X9_manyOf_89
                exact ih_X9_manyOf_5 (x2 + ((eJ h 0 41) ((x4).toNatClampNeg))) (x4 + 1) (by have := i0; have := hm; have := gi_of_nle c1; have := gi_of_ne c2; have := gi_of_eq c22; have := gi_of_ne c27; have : (0 : Int32).toInt = 0 := rfl; have : (1 : Int32).toInt = 1 := rfl; have : (16 : Int32).toInt = 16 := rfl; have : (3 : Int32).toInt = 3 := rfl; have : (4 : Int32).toInt = 4 := rfl; have := fb_rng (x4); have := fb_divK (x := x4) (y := 4) (k := 4) rfl (by decide); (try have := fb_mulK (x := (x4 / 4)) (y := 4) (k := 4) rfl (by omega) (by omega)); (try have := fb_subI (x := x4) (y := (x4 / 4 * 4)) (by omega) (by omega)); (try have := fb_addI (x := x4) (y := 1) (by omega) (by omega)); omega) (by have := i0; have := hm; have := gi_of_nle c1; have := gi_of_ne c2; have := gi_of_eq c22; have := gi_of_ne c27; have : (0 : Int32).toInt = 0 := rfl; have : (1 : Int32).toInt = 1 := rfl; have : (16 : Int32).toInt = 16 := rfl; have : (3 : Int32).toInt = 3 := rfl; have : (4 : Int32).toInt = 4 := rfl; have := fb_rng (x4); have := fb_divK (x := x4) (y := 4) (k := 4) rfl (by decide); (try have := fb_mulK (x := (x4 / 4)) (y := 4) (k := 4) rfl (by omega) (by omega)); (try have := fb_subI (x := x4) (y := (x4 / 4 * 4)) (by omega) (by omega)); (try have := fb_addI (x := x4) (y := 1) (by omega) (by omega)); omega) (by have := i0; have := hm; have := gi_of_nle c1; have := gi_of_ne c2; have := gi_of_eq c22; have := gi_of_ne c27; have : (0 : Int32).toInt = 0 := rfl; have : (1 : Int32).toInt = 1 := rfl; have : (16 : Int32).toInt = 16 := rfl; have : (3 : Int32).toInt = 3 := rfl; have : (4 : Int32).toInt = 4 := rfl; have := fb_rng (x4); have := fb_divK (x := x4) (y := 4) (k := 4) rfl (by decide); (try have := fb_mulK (x := (x4 / 4)) (y := 4) (k := 4) rfl (by omega) (by omega)); (try have := fb_subI (x := x4) (y := (x4 / 4 * 4)) (by omega) (by omega)); (try have := fb_addI (x := x4) (y := 1) (by omega) (by omega)); omega)
            · refine ok_if (fun c29 => ?_) (fun c29 => ?_)
              · unfold f_X9_manyOf_88
                unfold f_X9_manyOf_89
                exact ih_X9_manyOf_5 (x2 + 0) (x4 + 1) (by have := i0; have := hm; have := gi_of_nle c1; have := gi_of_ne c2; have := gi_of_eq c22; have := gi_of_eq c29; have : (0 : Int32).toInt = 0 := rfl; have : (1 : Int32).toInt = 1 := rfl; have : (16 : Int32).toInt = 16 := rfl; have : (3 : Int32).toInt = 3 := rfl; have : (4 : Int32).toInt = 4 := rfl; have := fb_rng (x4); have := fb_divK (x := x4) (y := 4) (k := 4) rfl (by decide); (try have := fb_mulK (x := (x4 / 4)) (y := 4) (k := 4) rfl (by omega) (by omega)); (try have := fb_subI (x := x4) (y := (x4 / 4 * 4)) (by omega) (by omega)); (try have := fb_addI (x := x4) (y := 1) (by omega) (by omega)); omega) (by have := i0; have := hm; have := gi_of_nle c1; have := gi_of_ne c2; have := gi_of_eq c22; have := gi_of_eq c29; have : (0 : Int32).toInt = 0 := rfl; have : (1 : Int32).toInt = 1 := rfl; have : (16 : Int32).toInt = 16 := rfl; have : (3 : Int32).toInt = 3 := rfl; have : (4 : Int32).toInt = 4 := rfl; have := fb_rng (x4); have := fb_divK (x := x4) (y := 4) (k := 4) rfl (by decide); (try have := fb_mulK (x := (x4 / 4)) (y := 4) (k := 4) rfl (by omega) (by omega)); (try have := fb_subI (x := x4) (y := (x4 / 4 * 4)) (by omega) (by omega)); (try have := fb_addI (x := x4) (y := 1) (by omega) (by omega)); omega) (by have := i0; have := hm; have := gi_of_nle c1; have := gi_of_ne c2; have := gi_of_eq c22; have := gi_of_eq c29; have : (0 : Int32).toInt = 0 := rfl; have : (1 : Int32).toInt = 1 := rfl; have : (16 : Int32).toInt = 16 := rfl; have : (3 : Int32).toInt = 3 := rfl; have : (4 : Int32).toInt = 4 := rfl; have := fb_rng (x4); have := fb_divK (x := x4) (y := 4) (k := 4) rfl (by decide); (try have := fb_mulK (x := (x4 / 4)) (y := 4) (k := 4) rfl (by omega) (by omega)); (try have := fb_subI (x := x4) (y := (x4 / 4 * 4)) (by omega) (by omega)); (try have := fb_addI (x := x4) (y := 1) (by omega) (by omega)); omega)
              · refine ok_if (fun c30 => ?_) (fun c30 => ?_)
                · unfold f_X9_manyOf_78
                  refine ok_chk (by have := i0; have := hm; have := gi_of_nle c1; have := gi_of_ne c2; have := gi_of_eq c22; have := gi_of_ne c29; have := gi_of_eq c30; have : (0 : Int32).toInt = 0 := rfl; have : (1 : Int32).toInt = 1 := rfl; have : (16 : Int32).toInt = 16 := rfl; have : (3 : Int32).toInt = 3 := rfl; have : (4 : Int32).toInt = 4 := rfl; have := fb_rng (x4); have := fb_divK (x := x4) (y := 4) (k := 4) rfl (by decide); (try have := fb_mulK (x := (x4 / 4)) (y := 4) (k := 4) rfl (by omega) (by omega)); (try have := fb_subI (x := x4) (y := (x4 / 4 * 4)) (by omega) (by omega)); omega) ?_
                  unfold f_X9_manyOf_89
                  exact ih_X9_manyOf_5 (x2 + ((eJ h 0 41) ((x4).toNatClampNeg))) (x4 + 1) (by have := i0; have := hm; have := gi_of_nle c1; have := gi_of_ne c2; have := gi_of_eq c22; have := gi_of_ne c29; have := gi_of_eq c30; have : (0 : Int32).toInt = 0 := rfl; have : (1 : Int32).toInt = 1 := rfl; have : (16 : Int32).toInt = 16 := rfl; have : (3 : Int32).toInt = 3 := rfl; have : (4 : Int32).toInt = 4 := rfl; have := fb_rng (x4); have := fb_divK (x := x4) (y := 4) (k := 4) rfl (by decide); (try have := fb_mulK (x := (x4 / 4)) (y := 4) (k := 4) rfl (by omega) (by omega)); (try have := fb_subI (x := x4) (y := (x4 / 4 * 4)) (by omega) (by omega)); (try have := fb_addI (x := x4) (y := 1) (by omega) (by omega)); omega) (by have := i0; have := hm; have := gi_of_nle c1; have := gi_of_ne c2; have := gi_of_eq c22; have := gi_of_ne c29; have := gi_of_eq c30; have : (0 : Int32).toInt = 0 := rfl; have : (1 : Int32).toInt = 1 := rfl; have : (16 : Int32).toInt = 16 := rfl; have : (3 : Int32).toInt = 3 := rfl; have : (4 : Int32).toInt = 4 := rfl; have := fb_rng (x4); have := fb_divK (x := x4) (y := 4) (k := 4) rfl (by decide); (try have := fb_mulK (x := (x4 / 4)) (y := 4) (k := 4) rfl (by omega) (by omega)); (try have := fb_subI (x := x4) (y := (x4 / 4 * 4)) (by omega) (by omega)); (try have := fb_addI (x := x4) (y := 1) (by omega) (by omega)); omega) (by have := i0; have := hm; have := gi_of_nle c1; have := gi_of_ne c2; have := gi_of_eq c22; have := gi_of_ne c29; have := gi_of_eq c30; have : (0 : Int32).toInt = 0 := rfl; have : (1 : Int32).toInt = 1 := rfl; have : (16 : Int32).toInt = 16 := rfl; have : (3 : Int32).toInt = 3 := rfl; have : (4 : Int32).toInt = 4 := rfl; have := fb_rng (x4); have := fb_divK (x := x4) (y := 4) (k := 4) rfl (by decide); (try have := fb_mulK (x := (x4 / 4)) (y := 4) (k := 4) rfl (by omega) (by omega)); (try have := fb_subI (x := x4) (y := (x4 / 4 * 4)) (by omega) (by omega)); (try have := fb_addI (x := x4) (y := 1) (by omega) (by omega)); omega)
                · unfold f_X9_manyOf_88
                  unfold f_X9_manyOf_89
                  exact ih_X9_manyOf_5 (x2 + 0) (x4 + 1) (by have := i0; have := hm; have := gi_of_nle c1; have := gi_of_ne c2; have := gi_of_eq c22; have := gi_of_ne c29; have := gi_of_ne c30; have : (0 : Int32).toInt = 0 := rfl; have : (1 : Int32).toInt = 1 := rfl; have : (16 : Int32).toInt = 16 := rfl; have : (3 : Int32).toInt = 3 := rfl; have : (4 : Int32).toInt = 4 := rfl; have := fb_rng (x4); have := fb_divK (x := x4) (y := 4) (k := 4) rfl (by decide); (try have := fb_mulK (x := (x4 / 4)) (y := 4) (k := 4) rfl (by omega) (by omega)); (try have := fb_subI (x := x4) (y := (x4 / 4 * 4)) (by omega) (by omega)); (try have := fb_addI (x := x4) (y := 1) (by omega) (by omega)); omega) (by have := i0; have := hm; have := gi_of_nle c1; have := gi_of_ne c2; have := gi_of_eq c22; have := gi_of_ne c29; have := gi_of_ne c30; have : (0 : Int32).toInt = 0 := rfl; have : (1 : Int32).toInt = 1 := rfl; have : (16 : Int32).toInt = 16 := rfl; have : (3 : Int32).toInt = 3 := rfl; have : (4 : Int32).toInt = 4 := rfl; have := fb_rng (x4); have := fb_divK (x := x4) (y := 4) (k := 4) rfl (by decide); (try have := fb_mulK (x := (x4 / 4)) (y := 4) (k := 4) rfl (by omega) (by omega)); (try have := fb_subI (x := x4) (y := (x4 / 4 * 4)) (by omega) (by omega)); (try have := fb_addI (x := x4) (y := 1) (by omega) (by omega)); omega) (by have := i0; have := hm; have := gi_of_nle c1; have := gi_of_ne c2; have := gi_of_eq c22; have := gi_of_ne c29; have := gi_of_ne c30; have : (0 : Int32).toInt = 0 := rfl; have : (1 : Int32).toInt = 1 := rfl; have : (16 : Int32).toInt = 16 := rfl; have : (3 : Int32).toInt = 3 := rfl; have : (4 : Int32).toInt = 4 := rfl; have := fb_rng (x4); have := fb_divK (x := x4) (y := 4) (k := 4) rfl (by decide); (try have := fb_mulK (x := (x4 / 4)) (y := 4) (k := 4) rfl (by omega) (by omega)); (try have := fb_subI (x := x4) (y := (x4 / 4 * 4)) (by omega) (by omega)); (try have := fb_addI (x := x4) (y := 1) (by omega) (by omega)); omega)
        · unfold f_X9_manyOf_40
          refine ok_if (fun c32 => ?_) (fun c32 => ?_)
          · refine ok_if (fun c33 => ?_) (fun c33 => ?_)
            · unfold f_X9_manyOf_88
              unfold f_X9_manyOf_89
              exact ih_X9_manyOf_5 (x2 + 0) (x4 + 1) (by have := i0; have := hm; have := gi_of_nle c1; have := gi_of_ne c2; have := gi_of_ne c22; have := gi_of_eq c33; have : (0 : Int32).toInt = 0 := rfl; have : (1 : Int32).toInt = 1 := rfl; have : (16 : Int32).toInt = 16 := rfl; have : (3 : Int32).toInt = 3 := rfl; have : (4 : Int32).toInt = 4 := rfl; have := fb_rng (x4); have := fb_divK (x := x4) (y := 4) (k := 4) rfl (by decide); (try have := fb_mulK (x := (x4 / 4)) (y := 4) (k := 4) rfl (by omega) (by omega)); (try have := fb_subI (x := x4) (y := (x4 / 4 * 4)) (by omega) (by omega)); (try have := fb_addI (x := x4) (y := 1) (by omega) (by omega)); omega) (by have := i0; have := hm; have := gi_of_nle c1; have := gi_of_ne c2; have := gi_of_ne c22; have := gi_of_eq c33; have : (0 : Int32).toInt = 0 := rfl; have : (1 : Int32).toInt = 1 := rfl; have : (16 : Int32).toInt = 16 := rfl; have : (3 : Int32).toInt = 3 := rfl; have : (4 : Int32).toInt = 4 := rfl; have := fb_rng (x4); have := fb_divK (x := x4) (y := 4) (k := 4) rfl (by decide); (try have := fb_mulK (x := (x4 / 4)) (y := 4) (k := 4) rfl (by omega) (by omega)); (try have := fb_subI (x := x4) (y := (x4 / 4 * 4)) (by omega) (by omega)); (try have := fb_addI (x := x4) (y := 1) (by omega) (by omega)); omega) (by have := i0; have := hm; have := gi_of_nle c1; have := gi_of_ne c2; have := gi_of_ne c22; have := gi_of_eq c33; have : (0 : Int32).toInt = 0 := rfl; have : (1 : Int32).toInt = 1 := rfl; have : (16 : Int32).toInt = 16 := rfl; have : (3 : Int32).toInt = 3 := rfl; have : (4 : Int32).toInt = 4 := rfl; have := fb_rng (x4); have := fb_divK (x := x4) (y := 4) (k := 4) rfl (by decide); (try have := fb_mulK (x := (x4 / 4)) (y := 4) (k := 4) rfl (by omega) (by omega)); (try have := fb_subI (x := x4) (y := (x4 / 4 * 4)) (by omega) (by omega)); (try have := fb_addI (x := x4) (y := 1) (by omega) (by omega)); omega)
            · unfold f_X9_manyOf_78
              refine ok_chk (by have := i0; have := hm; have := gi_of_nle c1; have := gi_of_ne c2; have := gi_of_ne c22; have := gi_of_ne c33; have : (0 : Int32).toInt = 0 := rfl; have : (16 : Int32).toInt = 16 := rfl; have : (3 : Int32).toInt = 3 := rfl; have : (4 : Int32).toInt = 4 := rfl; have := fb_rng (x4); have := fb_divK (x := x4) (y := 4) (k := 4) rfl (by decide); (try have := fb_mulK (x := (x4 / 4)) (y := 4) (k := 4) rfl (by omega) (by omega)); (try have := fb_subI (x := x4) (y := (x4 / 4 * 4)) (by omega) (by omega)); omega) ?_
              unfold f_X9_manyOf_89
              exact ih_X9_manyOf_5 (x2 + ((eJ h 0 41) ((x4).toNatClampNeg))) (x4 + 1) (by have := i0; have := hm; have := gi_of_nle c1; have := gi_of_ne c2; have := gi_of_ne c22; have := gi_of_ne c33; have : (0 : Int32).toInt = 0 := rfl; have : (1 : Int32).toInt = 1 := rfl; have : (16 : Int32).toInt = 16 := rfl; have : (3 : Int32).toInt = 3 := rfl; have : (4 : Int32).toInt = 4 := rfl; have := fb_rng (x4); have := fb_divK (x := x4) (y := 4) (k := 4) rfl (by decide); (try have := fb_mulK (x := (x4 / 4)) (y := 4) (k := 4) rfl (by omega) (by omega)); (try have := fb_subI (x := x4) (y := (x4 / 4 * 4)) (by omega) (by omega)); (try have := fb_addI (x := x4) (y := 1) (by omega) (by omega)); omega) (by have := i0; have := hm; have := gi_of_nle c1; have := gi_of_ne c2; have := gi_of_ne c22; have := gi_of_ne c33; have : (0 : Int32).toInt = 0 := rfl; have : (1 : Int32).toInt = 1 := rfl; have : (16 : Int32).toInt = 16 := rfl; have : (3 : Int32).toInt = 3 := rfl; have : (4 : Int32).toInt = 4 := rfl; have := fb_rng (x4); have := fb_divK (x := x4) (y := 4) (k := 4) rfl (by decide); (try have := fb_mulK (x := (x4 / 4)) (y := 4) (k := 4) rfl (by omega) (by omega)); (try have := fb_subI (x := x4) (y := (x4 / 4 * 4)) (by omega) (by omega)); (try have := fb_addI (x := x4) (y := 1) (by omega) (by omega)); omega) (by have := i0; have := hm; have := gi_of_nle c1; have := gi_of_ne c2; have := gi_of_ne c22; have := gi_of_ne c33; have : (0 : Int32).toInt = 0 := rfl; have : (1 : Int32).toInt = 1 := rfl; have : (16 : Int32).toInt = 16 := rfl; have : (3 : Int32).toInt = 3 := rfl; have : (4 : Int32).toInt = 4 := rfl; have := fb_rng (x4); have := fb_divK (x := x4) (y := 4) (k := 4) rfl (by decide); (try have := fb_mulK (x := (x4 / 4)) (y := 4) (k := 4) rfl (by omega) (by omega)); (try have := fb_subI (x := x4) (y := (x4 / 4 * 4)) (by omega) (by omega)); (try have := fb_addI (x := x4) (y := 1) (by omega) (by omega)); omega)
          · refine ok_if (fun c35 => ?_) (fun c35 => ?_)
            · refine ok_if (fun c36 => ?_) (fun c36 => ?_)
              · unfold f_X9_manyOf_88
                unfold f_X9_manyOf_89
                exact ih_X9_manyOf_5 (x2 + 0) (x4 + 1) (by have := i0; have := hm; have := gi_of_nle c1; have := gi_of_ne c2; have := gi_of_ne c22; have := gi_of_eq c36; have : (0 : Int32).toInt = 0 := rfl; have : (1 : Int32).toInt = 1 := rfl; have : (16 : Int32).toInt = 16 := rfl; have : (3 : Int32).toInt = 3 := rfl; have : (4 : Int32).toInt = 4 := rfl; have := fb_rng (x4); have := fb_divK (x := x4) (y := 4) (k := 4) rfl (by decide); (try have := fb_mulK (x := (x4 / 4)) (y := 4) (k := 4) rfl (by omega) (by omega)); (try have := fb_subI (x := x4) (y := (x4 / 4 * 4)) (by omega) (by omega)); (try have := fb_addI (x := x4) (y := 1) (by omega) (by omega)); omega) (by have := i0; have := hm; have := gi_of_nle c1; have := gi_of_ne c2; have := gi_of_ne c22; have := gi_of_eq c36; have : (0 : Int32).toInt = 0 := rfl; have : (1 : Int32).toInt = 1 := rfl; have : (16 : Int32).toInt = 16 := rfl; have : (3 : Int32).toInt = 3 := rfl; have : (4 : Int32).toInt = 4 := rfl; have := fb_rng (x4); have := fb_divK (x := x4) (y := 4) (k := 4) rfl (by decide); (try have := fb_mulK (x := (x4 / 4)) (y := 4) (k := 4) rfl (by omega) (by omega)); (try have := fb_subI (x := x4) (y := (x4 / 4 * 4)) (by omega) (by omega)); (try have := fb_addI (x := x4) (y := 1) (by omega) (by omega)); omega) (by have := i0; have := hm; have := gi_of_nle c1; have := gi_of_ne c2; have := gi_of_ne c22; have := gi_of_eq c36; have : (0 : Int32).toInt = 0 := rfl; have : (1 : Int32).toInt = 1 := rfl; have : (16 : Int32).toInt = 16 := rfl; have : (3 : Int32).toInt = 3 := rfl; have : (4 : Int32).toInt = 4 := rfl; have := fb_rng (x4); have := fb_divK (x := x4) (y := 4) (k := 4) rfl (by decide); (try have := fb_mulK (x := (x4 / 4)) (y := 4) (k := 4) rfl (by omega) (by omega)); (try have := fb_subI (x := x4) (y := (x4 / 4 * 4)) (by omega) (by omega)); (try have := fb_addI (x := x4) (y := 1) (by omega) (by omega)); omega)
              · unfold f_X9_manyOf_78
                refine ok_chk (by have := i0; have := hm; have := gi_of_nle c1; have := gi_of_ne c2; have := gi_of_ne c22; have := gi_of_ne c36; have : (0 : Int32).toInt = 0 := rfl; have : (16 : Int32).toInt = 16 := rfl; have : (3 : Int32).toInt = 3 := rfl; have : (4 : Int32).toInt = 4 := rfl; have := fb_rng (x4); have := fb_divK (x := x4) (y := 4) (k := 4) rfl (by decide); (try have := fb_mulK (x := (x4 / 4)) (y := 4) (k := 4) rfl (by omega) (by omega)); (try have := fb_subI (x := x4) (y := (x4 / 4 * 4)) (by omega) (by omega)); omega) ?_
                unfold f_X9_manyOf_89
                exact ih_X9_manyOf_5 (x2 + ((eJ h 0 41) ((x4).toNatClampNeg))) (x4 + 1) (by have := i0; have := hm; have := gi_of_nle c1; have := gi_of_ne c2; have := gi_of_ne c22; have := gi_of_ne c36; have : (0 : Int32).toInt = 0 := rfl; have : (1 : Int32).toInt = 1 := rfl; have : (16 : Int32).toInt = 16 := rfl; have : (3 : Int32).toInt = 3 := rfl; have : (4 : Int32).toInt = 4 := rfl; have := fb_rng (x4); have := fb_divK (x := x4) (y := 4) (k := 4) rfl (by decide); (try have := fb_mulK (x := (x4 / 4)) (y := 4) (k := 4) rfl (by omega) (by omega)); (try have := fb_subI (x := x4) (y := (x4 / 4 * 4)) (by omega) (by omega)); (try have := fb_addI (x := x4) (y := 1) (by omega) (by omega)); omega) (by have := i0; have := hm; have := gi_of_nle c1; have := gi_of_ne c2; have := gi_of_ne c22; have := gi_of_ne c36; have : (0 : Int32).toInt = 0 := rfl; have : (1 : Int32).toInt = 1 := rfl; have : (16 : Int32).toInt = 16 := rfl; have : (3 : Int32).toInt = 3 := rfl; have : (4 : Int32).toInt = 4 := rfl; have := fb_rng (x4); have := fb_divK (x := x4) (y := 4) (k := 4) rfl (by decide); (try have := fb_mulK (x := (x4 / 4)) (y := 4) (k := 4) rfl (by omega) (by omega)); (try have := fb_subI (x := x4) (y := (x4 / 4 * 4)) (by omega) (by omega)); (try have := fb_addI (x := x4) (y := 1) (by omega) (by omega)); omega) (by have := i0; have := hm; have := gi_of_nle c1; have := gi_of_ne c2; have := gi_of_ne c22; have := gi_of_ne c36; have : (0 : Int32).toInt = 0 := rfl; have : (1 : Int32).toInt = 1 := rfl; have : (16 : Int32).toInt = 16 := rfl; have : (3 : Int32).toInt = 3 := rfl; have : (4 : Int32).toInt = 4 := rfl; have := fb_rng (x4); have := fb_divK (x := x4) (y := 4) (k := 4) rfl (by decide); (try have := fb_mulK (x := (x4 / 4)) (y := 4) (k := 4) rfl (by omega) (by omega)); (try have := fb_subI (x := x4) (y := (x4 / 4 * 4)) (by omega) (by omega)); (try have := fb_addI (x := x4) (y := 1) (by omega) (by omega)); omega)
            · refine ok_if (fun c38 => ?_) (fun c38 => ?_)
              · unfold f_X9_manyOf_88
                unfold f_X9_manyOf_89
                exact ih_X9_manyOf_5 (x2 + 0) (x4 + 1) (by have := i0; have := hm; have := gi_of_nle c1; have := gi_of_ne c2; have := gi_of_ne c22; have := gi_of_eq c38; have : (0 : Int32).toInt = 0 := rfl; have : (1 : Int32).toInt = 1 := rfl; have : (16 : Int32).toInt = 16 := rfl; have : (3 : Int32).toInt = 3 := rfl; have : (4 : Int32).toInt = 4 := rfl; have := fb_rng (x4); have := fb_divK (x := x4) (y := 4) (k := 4) rfl (by decide); (try have := fb_mulK (x := (x4 / 4)) (y := 4) (k := 4) rfl (by omega) (by omega)); (try have := fb_subI (x := x4) (y := (x4 / 4 * 4)) (by omega) (by omega)); (try have := fb_addI (x := x4) (y := 1) (by omega) (by omega)); omega) (by have := i0; have := hm; have := gi_of_nle c1; have := gi_of_ne c2; have := gi_of_ne c22; have := gi_of_eq c38; have : (0 : Int32).toInt = 0 := rfl; have : (1 : Int32).toInt = 1 := rfl; have : (16 : Int32).toInt = 16 := rfl; have : (3 : Int32).toInt = 3 := rfl; have : (4 : Int32).toInt = 4 := rfl; have := fb_rng (x4); have := fb_divK (x := x4) (y := 4) (k := 4) rfl (by decide); (try have := fb_mulK (x := (x4 / 4)) (y := 4) (k := 4) rfl (by omega) (by omega)); (try have := fb_subI (x := x4) (y := (x4 / 4 * 4)) (by omega) (by omega)); (try have := fb_addI (x := x4) (y := 1) (by omega) (by omega)); omega) (by have := i0; have := hm; have := gi_of_nle c1; have := gi_of_ne c2; have := gi_of_ne c22; have := gi_of_eq c38; have : (0 : Int32).toInt = 0 := rfl; have : (1 : Int32).toInt = 1 := rfl; have : (16 : Int32).toInt = 16 := rfl; have : (3 : Int32).toInt = 3 := rfl; have : (4 : Int32).toInt = 4 := rfl; have := fb_rng (x4); have := fb_divK (x := x4) (y := 4) (k := 4) rfl (by decide); (try have := fb_mulK (x := (x4 / 4)) (y := 4) (k := 4) rfl (by omega) (by omega)); (try have := fb_subI (x := x4) (y := (x4 / 4 * 4)) (by omega) (by omega)); (try have := fb_addI (x := x4) (y := 1) (by omega) (by omega)); omega)
              · refine ok_if (fun c39 => ?_) (fun c39 => ?_)
                · unfold f_X9_manyOf_78
                  refine ok_chk (by have := i0; have := hm; have := gi_of_nle c1; have := gi_of_ne c2; have := gi_of_ne c22; have := gi_of_ne c38; have := gi_of_eq c39; have : (0 : Int32).toInt = 0 := rfl; have : (16 : Int32).toInt = 16 := rfl; have : (3 : Int32).toInt = 3 := rfl; have : (4 : Int32).toInt = 4 := rfl; have := fb_rng (x4); have := fb_divK (x := x4) (y := 4) (k := 4) rfl (by decide); (try have := fb_mulK (x := (x4 / 4)) (y := 4) (k := 4) rfl (by omega) (by omega)); (try have := fb_subI (x := x4) (y := (x4 / 4 * 4)) (by omega) (by omega)); omega) ?_
                  unfold f_X9_manyOf_89
                  exact ih_X9_manyOf_5 (x2 + ((eJ h 0 41) ((x4).toNatClampNeg))) (x4 + 1) (by have := i0; have := hm; have := gi_of_nle c1; have := gi_of_ne c2; have := gi_of_ne c22; have := gi_of_ne c38; have := gi_of_eq c39; have : (0 : Int32).toInt = 0 := rfl; have : (1 : Int32).toInt = 1 := rfl; have : (16 : Int32).toInt = 16 := rfl; have : (3 : Int32).toInt = 3 := rfl; have : (4 : Int32).toInt = 4 := rfl; have := fb_rng (x4); have := fb_divK (x := x4) (y := 4) (k := 4) rfl (by decide); (try have := fb_mulK (x := (x4 / 4)) (y := 4) (k := 4) rfl (by omega) (by omega)); (try have := fb_subI (x := x4) (y := (x4 / 4 * 4)) (by omega) (by omega)); (try have := fb_addI (x := x4) (y := 1) (by omega) (by omega)); omega) (by have := i0; have := hm; have := gi_of_nle c1; have := gi_of_ne c2; have := gi_of_ne c22; have := gi_of_ne c38; have := gi_of_eq c39; have : (0 : Int32).toInt = 0 := rfl; have : (1 : Int32).toInt = 1 := rfl; have : (16 : Int32).toInt = 16 := rfl; have : (3 : Int32).toInt = 3 := rfl; have : (4 : Int32).toInt = 4 := rfl; have := fb_rng (x4); have := fb_divK (x := x4) (y := 4) (k := 4) rfl (by decide); (try have := fb_mulK (x := (x4 / 4)) (y := 4) (k := 4) rfl (by omega) (by omega)); (try have := fb_subI (x := x4) (y := (x4 / 4 * 4)) (by omega) (by omega)); (try have := fb_addI (x := x4) (y := 1) (by omega) (by omega)); omega) (by have := i0; have := hm; have := gi_of_nle c1; have := gi_of_ne c2; have := gi_of_ne c22; have := gi_of_ne c38; have := gi_of_eq c39; have : (0 : Int32).toInt = 0 := rfl; have : (1 : Int32).toInt = 1 := rfl; have : (16 : Int32).toInt = 16 := rfl; have : (3 : Int32).toInt = 3 := rfl; have : (4 : Int32).toInt = 4 := rfl; have := fb_rng (x4); have := fb_divK (x := x4) (y := 4) (k := 4) rfl (by decide); (try have := fb_mulK (x := (x4 / 4)) (y := 4) (k := 4) rfl (by omega) (by omega)); (try have := fb_subI (x := x4) (y := (x4 / 4 * 4)) (by omega) (by omega)); (try have := fb_addI (x := x4) (y := 1) (by omega) (by omega)); omega)
                · unfold f_X9_manyOf_88
                  unfold f_X9_manyOf_89
                  exact ih_X9_manyOf_5 (x2 + 0) (x4 + 1) (by have := i0; have := hm; have := gi_of_nle c1; have := gi_of_ne c2; have := gi_of_ne c22; have := gi_of_ne c38; have := gi_of_ne c39; have : (0 : Int32).toInt = 0 := rfl; have : (1 : Int32).toInt = 1 := rfl; have : (16 : Int32).toInt = 16 := rfl; have : (3 : Int32).toInt = 3 := rfl; have : (4 : Int32).toInt = 4 := rfl; have := fb_rng (x4); have := fb_divK (x := x4) (y := 4) (k := 4) rfl (by decide); (try have := fb_mulK (x := (x4 / 4)) (y := 4) (k := 4) rfl (by omega) (by omega)); (try have := fb_subI (x := x4) (y := (x4 / 4 * 4)) (by omega) (by omega)); (try have := fb_addI (x := x4) (y := 1) (by omega) (by omega)); omega) (by have := i0; have := hm; have := gi_of_nle c1; have := gi_of_ne c2; have := gi_of_ne c22; have := gi_of_ne c38; have := gi_of_ne c39; have : (0 : Int32).toInt = 0 := rfl; have : (1 : Int32).toInt = 1 := rfl; have : (16 : Int32).toInt = 16 := rfl; have : (3 : Int32).toInt = 3 := rfl; have : (4 : Int32).toInt = 4 := rfl; have := fb_rng (x4); have := fb_divK (x := x4) (y := 4) (k := 4) rfl (by decide); (try have := fb_mulK (x := (x4 / 4)) (y := 4) (k := 4) rfl (by omega) (by omega)); (try have := fb_subI (x := x4) (y := (x4 / 4 * 4)) (by omega) (by omega)); (try have := fb_addI (x := x4) (y := 1) (by omega) (by omega)); omega) (by have := i0; have := hm; have := gi_of_nle c1; have := gi_of_ne c2; have := gi_of_ne c22; have := gi_of_ne c38; have := gi_of_ne c39; have : (0 : Int32).toInt = 0 := rfl; have : (1 : Int32).toInt = 1 := rfl; have : (16 : Int32).toInt = 16 := rfl; have : (3 : Int32).toInt = 3 := rfl; have : (4 : Int32).toInt = 4 := rfl; have := fb_rng (x4); have := fb_divK (x := x4) (y := 4) (k := 4) rfl (by decide); (try have := fb_mulK (x := (x4 / 4)) (y := 4) (k := 4) rfl (by omega) (by omega)); (try have := fb_subI (x := x4) (y := (x4 / 4 * 4)) (by omega) (by omega)); (try have := fb_addI (x := x4) (y := 1) (by omega) (by omega)); omega)
theorem u_X9_manyOf (h : HS) (p1 : Int32) (hI : IM h) : ok (f_X9_manyOf h p1) (fun a => a.2 = h ∧ True) := by
  unfold f_X9_manyOf
  exact u_X9_manyOf_5 h p1 ((SM_refl hI)).1 8589934592 0 0 (by have : (0 : Int32).toInt = 0 := rfl; omega) (by decide) (by have : (0 : Int32).toInt = 0 := rfl; omega)
theorem l_rng (x : Int64) : -9223372036854775808 ≤ x.toInt ∧ x.toInt < 9223372036854775808 := by
  have h1 := Int64.le_toInt x
  have h2 := Int64.toInt_lt x
  omega
theorem l_bmod {z : Int} (h1 : -9223372036854775808 ≤ z) (h2 : z < 9223372036854775808) : z.bmod (2 ^ 64) = z := by
  rw [Int.bmod_eq_of_le (by omega) (by omega)]
theorem l_rem {x y : Int64} (hy : ¬ y = 0) : (x - x / y * y).toInt.natAbs = x.toInt.natAbs % y.toInt.natAbs := by
  have hy0 : y.toInt ≠ 0 := fun e => hy (Int64.toInt_inj.mp (e.trans rfl))
  by_cases h1 : y = -1
  · subst h1
    have e1 : (-1 : Int64).toInt.natAbs = 1 := rfl
    have e2 : x / -1 * -1 = x := by
      apply Int64.toInt_inj.mp
      rw [Int64.toInt_mul, Int64.toInt_div]
      have e3 : (-1 : Int64).toInt = -1 := rfl
      rw [e3, Int.tdiv_neg, Int.tdiv_one]
      have r := l_rng x
      by_cases c : x.toInt = -9223372036854775808
      · rw [c]; rfl
      · have e4 : (-x.toInt).bmod (2 ^ 64) = -x.toInt := l_bmod (by omega) (by omega)
        rw [e4, l_bmod (by omega) (by omega)]; omega
    rw [e1, e2, Int64.sub_self, Nat.mod_one]; rfl
  · have hd : (x / y).toInt = x.toInt.tdiv y.toInt := Int64.toInt_div_of_ne_right _ _ h1
    have r := l_rng x
    have key : x.toInt.tdiv y.toInt * y.toInt + x.toInt.tmod y.toInt = x.toInt := by rw [Int.mul_comm]; exact Int.mul_tdiv_add_tmod x.toInt y.toInt
    have hb : (x.toInt.tmod y.toInt).natAbs = x.toInt.natAbs % y.toInt.natAbs := Int.natAbs_tmod x.toInt y.toInt
    have hle : x.toInt.natAbs % y.toInt.natAbs ≤ x.toInt.natAbs := Nat.mod_le _ _
    have hsg : (0 ≤ x.toInt → 0 ≤ x.toInt.tmod y.toInt) ∧ (x.toInt ≤ 0 → x.toInt.tmod y.toInt ≤ 0) := by
      refine ⟨fun h => Int.tmod_nonneg _ h, fun h => ?_⟩
      have e : x.toInt = -(-x.toInt) := by omega
      rw [e, Int.neg_tmod]
      have := Int.tmod_nonneg y.toInt (a := -x.toInt) (by omega)
      omega
    have hm : (x / y * y).toInt = x.toInt.tdiv y.toInt * y.toInt := by
      rw [Int64.toInt_mul, hd]
      generalize x.toInt.tdiv y.toInt * y.toInt = q at *
      exact l_bmod (by omega) (by omega)
    have hs : (x - x / y * y).toInt = x.toInt.tmod y.toInt := by
      rw [Int64.toInt_sub, hm]
      generalize x.toInt.tdiv y.toInt * y.toInt = q at *
      rw [l_bmod (by omega) (by omega)]; omega
    rw [hs, hb]
theorem l_nz {x : Int64} (h : ¬ lg_cmp x 0 = 0) : ¬ x = 0 := fb_lgz h
theorem l_z {x : Int64} (h : x.toInt.natAbs < 1) : lg_cmp x 0 = 0 := by
  have : x = 0 := Int64.toInt_inj.mp (by have : x.toInt = 0 := by omega
                                         rw [this]; rfl)
  subst this; decide
theorem odds_end {h : HS} {x3 : Int32} {x5 x7 x9 : Int64} (h9 : ¬ x9 = 0) : ok (if x3 = 0 then (if ¬ x9 = 0 then f_X9_odds_212 h (x7 / x9) else none) else (if ¬ x9 = 0 then f_X9_odds_212 h (x5 / x9) else none)) (fun a => a.2 = h) := by
  unfold f_X9_odds_212
  exact ok_if (fun c => ok_chk h9 (ok_some rfl)) (fun c => ok_chk h9 (ok_some rfl))
theorem u_X9_odds_170 (h : HS) (x3 : Int32) (x5 x7 : Int64) : ∀ (k n : Nat) (x9 x11 : Int64), ¬ x9 = 0 → x11.toInt.natAbs < 2 ^ k → 2 * k + 1 ≤ n → ok (f_X9_odds_170 n h x3 x5 x7 x9 x11) (fun a => a.2 = h) := by
  intro k
  induction k with
  | zero =>
    intro n x9 x11 h9 hb hn
    obtain ⟨m, rfl⟩ : ∃ m, n = m + 1 := ⟨n - 1, by omega⟩
    rw [f_X9_odds_170_s, if_pos (l_z (by simpa using hb))]
    exact odds_end h9
  | succ k ih =>
    intro n x9 x11 h9 hb hn
    obtain ⟨m, rfl⟩ : ∃ m, n = m + 1 + 1 := ⟨n - 2, by omega⟩
    rw [f_X9_odds_170_s]
    refine ok_if (fun c => odds_end h9) (fun c => ?_)
    have n11 := l_nz c
    refine ok_chk n11 ?_
    have e1 := l_rem (x := x9) n11
    generalize x9 - x9 / x11 * x11 = z at *
    rw [f_X9_odds_170_s]
    refine ok_if (fun c => odds_end n11) (fun c2 => ?_)
    have nz := l_nz c2
    refine ok_chk nz ?_
    have e2 := l_rem (x := x11) nz
    generalize x11 - x11 / z * z = z2 at *
    refine ih m z z2 nz ?_ (by omega)
    have p11 : 0 < x11.toInt.natAbs := by
      apply Nat.pos_of_ne_zero
      intro e
      exact n11 (Int64.toInt_inj.mp (by rw [Int.natAbs_eq_zero.mp e]; rfl))
    have pz : 0 < z.toInt.natAbs := by
      apply Nat.pos_of_ne_zero
      intro e
      exact nz (Int64.toInt_inj.mp (by rw [Int.natAbs_eq_zero.mp e]; rfl))
    have l1 : z.toInt.natAbs < x11.toInt.natAbs := by rw [e1]; exact Nat.mod_lt _ p11
    have l2 : z2.toInt.natAbs < z.toInt.natAbs := by rw [e2]; exact Nat.mod_lt _ pz
    have l3 : z2.toInt.natAbs + z.toInt.natAbs ≤ x11.toInt.natAbs := by
      rw [e2]
      generalize x11.toInt.natAbs = a at *
      generalize z.toInt.natAbs = b at *
      have hq : 1 ≤ a / b := (Nat.one_le_div_iff pz).mpr (by omega)
      have hd := Nat.div_add_mod a b
      have : b * 1 ≤ b * (a / b) := Nat.mul_le_mul_left b hq
      omega
    rw [Nat.pow_succ] at hb
    omega
theorem ofG {h : HS} {p c : Int32} (w0 : 0 ≤ p.toInt ∧ p.toInt ≤ 9) (w1 : 0 ≤ c.toInt ∧ c.toInt ≤ 8) : f_X9_ofGoose h p c = some (eA h 0 0 (30 + 9 * p.toInt.toNat + c.toInt.toNat), h) := by
  have ix := ix9 w0 w1
  unfold f_X9_ofGoose
  rw [if_pos (by omega), ix.2]
theorem pow100 {m : Nat} (h : m ≤ 8) : (1 : Int) ≤ 100 ^ m ∧ (100 : Int) ^ m ≤ 10000000000000000 := by
  have key : ∀ m : Fin 9, (1 : Int) ≤ 100 ^ m.val ∧ (100 : Int) ^ m.val ≤ 10000000000000000 := by decide
  exact key ⟨m, by omega⟩
theorem u_X9_odds_51 {h0 : HS} (x1 x2 x3 : Int32) (w1 : 0 ≤ x1.toInt ∧ x1.toInt ≤ 5) : ∀ (n : Nat) (h : HS) (x4 : Int32) (x5 : Int64) (x7 : Int32), SM h0 h → (0 ≤ x4.toInt ∧ x4.toInt ≤ 8) → x5.toInt = 100 ^ x4.toInt.toNat → 0 ≤ x7.toInt → 0 < n → (10 - (x7).toInt : Int) < (n : Int) → ok (f_X9_odds_51 n h x1 x2 x3 x4 x5 x7) (fun a => SM h0 a.2 ∧ True) := by
  intro n
  induction n with
  | zero => intro h x4 x5 x7 s i4 e5 i0 hn hm; exact absurd hn (by decide)
  | succ n ih =>
    intro h x4 x5 x7 s i4 e5 i0 hn hm
    rw [f_X9_odds_51_s]
    unfold f_X9_odds_149
    have hn := IM_n s.1
    have z1 : (1 : Int32).toInt = 1 := rfl; have z2 : (2 : Int32).toInt = 2 := rfl; have z3 : (3 : Int32).toInt = 3 := rfl; have z8 : (8 : Int32).toInt = 8 := rfl
    have p5 := pow100 (m := x4.toInt.toNat) (by omega)
    rw [← e5] at p5
    refine ok_if (fun c => ?_) (fun c => ?_)
    · refine ok_ob2 (u_X9_manyOf h x2 s.1) (fun r9 h9 k9 => ?_)
      have e : h = h9 := k9.1.symm
      subst e
      have n5 : ¬ x5 = 0 := by
        intro e
        rw [e] at p5
        exact absurd p5.1 (by decide)
      have rg := l_rng r9
      refine ok_mono (u_X9_odds_170 h x3 x5 r9 64 _ x5 r9 n5 (by omega) (by decide)) (fun a k => ?_)
      rw [k]; exact ⟨s, trivial⟩
    have d := gi_of_nle c
    have w : 0 ≤ x7.toInt ∧ x7.toInt ≤ 9 := by omega
    have a7 := fb_addI (x := x7) (y := 1) (by omega) (by omega)
    have a4 := fb_addI (x := x4) (y := 1) (by omega) (by omega)
    refine ok_ob2e9 (ofG w (by decide)) ?_
    refine ok_if (fun c1 => ?_) (fun c => ih h x4 x5 (x7 + 1) s i4 e5 (by omega) (by omega) (by omega))
    refine ok_ob2e9 (ofG w (by decide)) ?_
    refine ok_if (fun c2 => ?_) (fun c => ih h x4 x5 (x7 + 1) s i4 e5 (by omega) (by omega) (by omega))
    refine ok_if (fun c3 => ?_) (fun c => ok_some ⟨s, trivial⟩)
    have d3 := gi_of_le c3
    refine ok_ob2 (u_X9_marketOf h 0 x7 s.1 (by decide) w) (fun r15 h15 k15 => ?_)
    have s15 := SM_trans s k15.1
    refine ok_ob2 (u_X9_marketOf h15 1 x7 s15.1 (by decide) w) (fun r16 h16 k16 => ?_)
    have s16 := SM_trans s15 k16.1
    refine ok_ob2 (u_X9_isTrue h16 x7 s16.1 w) (fun r17 h17 k17 => ?_)
    have s17 := SM_trans s16 k17.1
    refine ok_ob2e9 (ofG w (by decide)) ?_
    have gb := s.1.2.1.2.1 x7.toInt.toNat (by omega)
    have er : eA h17 0 0 = eA h 0 0 := by rw [s17.2.1, s.2.1]
    have t2 : (2 : Int32).toInt.toNat = 2 := rfl; have t3 : (3 : Int32).toInt.toNat = 3 := rfl
    rw [t2] at c1
    rw [er, t3]
    have g1 := gi_of_eq c1
    refine ok_ob1 (u_X9_comesMany h17 r15 r16 _ r17 s17.1 (by omega)) (fun h19 k19 => ?_)
    refine ih h19 (x4 + 1) (x5 * 100) (x7 + 1) (SM_trans s17 k19.1) (by omega) ?_ (by omega) (by omega) (by omega)
    have q : (x4 + 1).toInt.toNat = x4.toInt.toNat + 1 := by omega
    rw [q, Int.pow_succ, ← e5, Int64.toInt_mul]
    have z100 : (100 : Int64).toInt = 100 := rfl
    have p4 := pow100 (m := x4.toInt.toNat + 1) (by omega)
    rw [Int.pow_succ, ← e5] at p4
    rw [z100, l_bmod (by omega) (by omega)]
theorem u_X9_odds (h : HS) (p1 p2 p3 : Int32) (hI : IM h) : ok (f_X9_odds h p1 p2 p3) (fun a => SM h a.2 ∧ True) := by
  unfold f_X9_odds f_X9_odds_16
  refine ok_ob1 (u_X9_isLetterNumber p1) (fun r1 k1 => ok_if (fun c => ok_some ⟨SM_refl hI, trivial⟩) (fun c1 => ?_))
  refine ok_ob1 (u_X9_in p2 0 2) (fun r3 k3 => ok_if (fun c => ok_some ⟨SM_refl hI, trivial⟩) (fun c3 => ?_))
  have z0 : (0 : Int32).toInt = 0 := rfl
  have d1 := gi_of_ne c1; have q1 := k1.2
  refine ok_ob2 (u_X9_knownBy h p1 999 0 hI) (fun r5 h5 k5 => ?_)
  refine ok_ob2 (u_X9_knownBy h5 p1 999 1 k5.1.1) (fun r6 h6 k6 => ?_)
  have s6 := SM_trans k5.1 k6.1
  refine ok_ob1 (u_X9_startsMany h6 r5 r6 s6.1) (fun h7 k7 => ?_)
  exact u_X9_odds_51 p1 p2 p3 (by omega) _ h7 0 1 0 (SM_trans s6 k7.1) (by decide) rfl (by decide) (by decide) (by omega)
def SF (h c : HS) : Prop := IM c ∧ eA c 0 0 = eA h 0 0
theorem u_X9_laysFlock_67 {h0 : HS} {T : Int} (x1 x2 : Int32) (w : 0 ≤ x2.toInt ∧ x2.toInt ≤ 9) {k7 : HS → Int32 → Int32 → Option HS} (hk : ∀ h : HS, SF h0 h → (eI h 0 47).toInt = T → ok (k7 h x1 (x2 + 1)) (fun a => SF h0 a)) : ∀ (n : Nat) (h : HS) (x3 : Int32), SF h0 h → (eI h 0 47).toInt = T → 0 ≤ x3.toInt → 0 < n → (12 - (x3).toInt : Int) < (n : Int) → ok (f_X9_laysFlock_67 k7 n h x1 x2 x3) (fun a => SF h0 a) := by
  intro n
  induction n with
  | zero => intro h x3 s eT i0 hn hm; exact absurd hn (by decide)
  | succ n ih =>
    intro h x3 s eT i0 hn hm
    rw [f_X9_laysFlock_67_s]
    unfold f_X9_laysFlock_188
    have hn := IM_n s.1
    have z1 : (1 : Int32).toInt = 1 := rfl; have z10 : (10 : Int32).toInt = 10 := rfl
    have e3 : (3 * eA h 0 0 0).toInt = 3 * (eA h 0 0 0).toInt := fb_mulJ rfl (by omega) (by omega)
    refine ok_if (fun c => hk h s eT) (fun c => ?_)
    have d := gi_of_nle c
    have dv := (fb_divK (x := x3) (y := 3) (k := 3) rfl (by decide)).1 i0
    have m1 : (3 * (x3 / 3)).toInt = 3 * (x3 / 3).toInt := fb_mulJ rfl (by omega) (by omega)
    have m2 : (10 + 3 * (x3 / 3)).toInt = 10 + 3 * (x3 / 3).toInt := by rw [fb_addI (by omega) (by omega)]; omega
    have m3 : (12 * x2).toInt = 12 * x2.toInt := fb_mulJ rfl (by omega) (by omega)
    have m4 : (12 * x2 + x3).toInt = 12 * x2.toInt + x3.toInt := by rw [fb_addI (by omega) (by omega)]; omega
    have m5 := fb_addI (x := x3) (y := 1) (by omega) (by omega)
    refine ok_chk (by omega) ?_
    refine ok_ob2 (u_X9_marketTells h 0 x2 x1 _ (x3 / 3) _ s.1 (by decide) w (by omega)) (fun r11 h11 k11 => ?_)
    refine ok_chk (by omega) ?_
    refine ok_ob2 (u_X9_marketTells (sA h11 0 43 _) 1 x2 x1 _ (x3 / 3) _ (show IM (sA h11 0 43 _) from k11.1.1) (by decide) w (by omega)) (fun r13 h13 k13 => ?_)
    have s13 : SM h h13 := SM_trans (b := sA h11 0 43 _) k11.1 k13.1
    refine ok_chk (by omega) ?_
    refine ok_ob2 (u_X9_ofGoose (sA h13 0 44 _) x2 1 (show IM (sA h13 0 44 _) from s13.1) w (by decide)) (fun r15 h15 k15 => ?_)
    have e15 := k15.1.symm
    subst e15
    refine ok_ob2 (u_X9_isTrueBy (sA h13 0 44 _) x2 x1 _ r15 (show IM (sA h13 0 44 _) from s13.1) w) (fun r16 h16 k16 => ?_)
    have s16 : SM h h16 := SM_trans (b := sA h13 0 44 _) s13 k16.1
    refine ok_chk (by omega) ?_
    exact ih _ (x3 + 1) ⟨s16.1, s16.2.1.trans s.2⟩ (by show (eI h16 0 47).toInt = T; rw [s16.2.2.2.2]; exact eT) (by omega) (by omega) (by omega)
theorem u_X9_laysFlock_7 {h0 : HS} (x1 : Int32) : ∀ (n : Nat) (h : HS) (x2 : Int32), SF h0 h → (eI h 0 47).toInt ≤ x2.toInt → 0 ≤ x2.toInt → 0 < n → (10 - (x2).toInt : Int) < (n : Int) → ok (f_X9_laysFlock_7 n h x1 x2) (fun a => SF h0 a) := by
  intro n
  induction n with
  | zero => intro h x2 s eT i0 hn hm; exact absurd hn (by decide)
  | succ n ih =>
    intro h x2 s eT i0 hn hm
    rw [f_X9_laysFlock_7_s]
    unfold f_X9_laysFlock_188
    have hn := IM_n s.1
    have z1 : (1 : Int32).toInt = 1 := rfl
    refine ok_if (fun c => ok_some s) (fun c => ?_)
    have d := gi_of_nle c
    have a2 := fb_addI (x := x2) (y := 1) (by omega) (by omega)
    have w : 0 ≤ x2.toInt ∧ x2.toInt ≤ 9 := by omega
    refine ok_ob2 (u_X9_isHome h x2 s.1) (fun r2 h2 k2 => ?_)
    have e2 : h = h2 := k2.1.symm
    subst e2
    refine ok_if (fun c => ih h (x2 + 1) s (by omega) (by omega) (by omega) (by omega)) (fun c2 => ?_)
    refine ok_ob2 (u_X9_ofGoose h x2 8 s.1 w (by decide)) (fun r4 h4 k4 => ?_)
    have e4 : h = h4 := k4.1.symm
    subst e4
    refine ok_if (fun c4 => ?_) (fun c => ih h (x2 + 1) s (by omega) (by omega) (by omega) (by omega))
    refine ok_ob2 (u_X9_ofGoose h x2 2 s.1 w (by decide)) (fun r6 h6 k6 => ?_)
    have e6 : h = h6 := k6.1.symm
    subst e6
    refine ok_if (fun c6 => ?_) (fun c => ih h (x2 + 1) s (by omega) (by omega) (by omega) (by omega))
    refine ok_chk (by omega) ?_
    have a47 : (eI h 0 47 + 1).toInt = (eI h 0 47).toInt + 1 := by rw [fb_addI (by omega) (by omega)]; omega
    refine u_X9_laysFlock_67 (T := (eI h 0 47).toInt + 1) x1 x2 w (fun h s e => ih h (x2 + 1) s (by omega) (by omega) (by omega) (by omega)) _ _ 0 ⟨?_, s.2⟩ a47 (by decide) (by decide) (by have : (0 : Int32).toInt = 0 := rfl; omega)
    obtain ⟨⟨⟨n1, _⟩, r⟩, _⟩ := s
    exact ⟨⟨n1, ⟨by show 0 ≤ (eI h 0 47 + 1).toInt; omega, by show (eI h 0 47 + 1).toInt ≤ 10; omega⟩⟩, r⟩
theorem u_X9_laysFlock (h : HS) (p1 : Int32) (hI : IM h) : ok (f_X9_laysFlock h p1) (fun a => SF h a) := by
  unfold f_X9_laysFlock
  refine u_X9_laysFlock_7 p1 _ (sI h 0 47 0) 0 ⟨?_, rfl⟩ (by show (0 : Int32).toInt ≤ (0 : Int32).toInt; decide) (by decide) (by decide) (by have : (0 : Int32).toInt = 0 := rfl; omega)
  obtain ⟨⟨n1, _⟩, r⟩ := hI
  exact ⟨⟨n1, ⟨by show 0 ≤ (0 : Int32).toInt; decide, by show (0 : Int32).toInt ≤ 10; decide⟩⟩, r⟩
theorem u_X9_asksPlan_138 {h0 : HS} (x1 : Int32) (w : x1.toInt ≤ 3) : ∀ (n : Nat) (h : HS) (x7 : Int32), SM h0 h → 0 ≤ x7.toInt → 0 < n → (3 - (x7).toInt : Int) < (n : Int) → ok (f_X9_asksPlan_138 n h x1 x7) (fun a => SM h0 a ∧ True) := by
  intro n
  induction n with
  | zero => intro h x7 s i0 hn hm; exact absurd hn (by decide)
  | succ n ih =>
    intro h x7 s i0 hn hm
    rw [f_X9_asksPlan_138_s]
    refine ok_if (fun c => ok_some ⟨s, trivial⟩) (fun c => ?_)
    have d := gi_of_nle c
    have z1 : (1 : Int32).toInt = 1 := rfl
    have a := fb_addI (x := x7) (y := 1) (by omega) (by omega)
    refine ok_chk (by omega) (ok_chk (by omega) (ok_chk (by omega) (ok_chk (by omega) ?_)))
    exact ih _ (x7 + 1) s (by omega) (by omega) (by omega)
theorem u_X9_asksPlan_11 {h0 : HS} (x1 x2 : Int32) (w : x1.toInt ≤ 3) : ∀ (n : Nat) (h : HS) (x3 : Int64) (x5 : Int32), SM h0 h → 0 ≤ x5.toInt → 0 < n → (3 - (x5).toInt : Int) < (n : Int) → ok (f_X9_asksPlan_11 n h x1 x2 x3 x5) (fun a => SM h0 a ∧ True) := by
  intro n
  induction n with
  | zero => intro h x3 x5 s i0 hn hm; exact absurd hn (by decide)
  | succ n ih =>
    intro h x3 x5 s i0 hn hm
    rw [f_X9_asksPlan_11_s]
    unfold f_X9_asksPlan_128 f_X9_asksPlan_129
    have z1 : (1 : Int32).toInt = 1 := rfl
    refine ok_if (fun c => ?_) (fun c => ?_)
    · refine ok_ob2 (u_X9_manyOf h 1 s.1) (fun r3 h3 k3 => ?_)
      have e3 : h = h3 := k3.1.symm
      subst e3
      refine ok_ob2 (u_X9_manyOf h 0 s.1) (fun r4 h4 k4 => ?_)
      have e4 : h = h4 := k4.1.symm
      subst e4
      have go : ok (f_X9_asksPlan_138 8589934592 (sL h 0 52 r3) x1 0) (fun a => SM h0 a ∧ True) := u_X9_asksPlan_138 x1 w _ (sL h 0 52 r3) 0 s (by decide) (by decide) (by have : (0 : Int32).toInt = 0 := rfl; omega)
      exact ok_if (fun c => ok_some ⟨s, trivial⟩) (fun c => ok_if (fun c => go) (fun c => ok_if (fun c => go) (fun c => ok_some ⟨s, trivial⟩)))
    · have d := gi_of_nle c
      have a := fb_addI (x := x5) (y := 1) (by omega) (by omega)
      have b5 : x5.toNatClampNeg = x5.toInt.toNat := by rw [Int32.toNatClampNeg]
      have ch := s.1.2.2.2.2 x5.toInt.toNat (by omega)
      rw [b5]
      have m3 : (12 * eA h 0 48 x5.toInt.toNat).toInt = 12 * (eA h 0 48 x5.toInt.toNat).toInt := fb_mulJ rfl (by omega) (by omega)
      have m4 : (12 * eA h 0 48 x5.toInt.toNat + eA h 0 49 x5.toInt.toNat).toInt = 12 * (eA h 0 48 x5.toInt.toNat).toInt + (eA h 0 49 x5.toInt.toNat).toInt := by rw [fb_addI (by omega) (by omega)]; omega
      have rm := fb_rem (x := eA h 0 49 x5.toInt.toNat) (y := 3) (k := 3) rfl (by decide) (by omega)
      have q1 : 0 ≤ x5.toInt ∧ x5.toInt < 3 := by omega
      have q2 : 0 ≤ (12 * eA h 0 48 x5.toInt.toNat + eA h 0 49 x5.toInt.toNat).toInt ∧ (12 * eA h 0 48 x5.toInt.toNat + eA h 0 49 x5.toInt.toNat).toInt < 120 := by omega
      refine ok_chk q1 (ok_chk q1 (ok_chk q2 (ok_chk q2 (ok_chk q1 (ok_chk q2 ?_)))))
      refine ok_ob1 (u_X9_comesMany h _ _ _ _ s.1 (by omega)) (fun h14 k14 => ?_)
      exact ih h14 (x3 * 100) (x5 + 1) (SM_trans s k14.1) (by omega) (by omega) (by omega)
theorem u_X9_asksPlan (h : HS) (p1 p2 : Int32) (hI : IM h) (w : p1.toInt ≤ 3) : ok (f_X9_asksPlan h p1 p2) (fun a => SM h a ∧ True) := by
  unfold f_X9_asksPlan
  refine ok_ob1 (u_X9_startsMany h 0 0 hI) (fun h1 k1 => ?_)
  exact u_X9_asksPlan_11 p1 p2 w _ h1 1 0 k1.1 (by decide) (by decide) (by have : (0 : Int32).toInt = 0 := rfl; omega)
theorem SM_does {h0 h : HS} {i : Nat} {v : Int32} (s : SM h0 h) (hv : 0 ≤ v.toInt ∧ v.toInt ≤ 11) : SM h0 (sA h 0 49 (upd (eA h 0 49) i v)) := by
  obtain ⟨⟨n, r0, r1, t, c⟩, e⟩ := s
  refine ⟨⟨n, r0, r1, t, ?_⟩, e⟩
  intro k hk
  refine ⟨(c k hk).1, ?_⟩
  show 0 ≤ (upd (eA h 0 49) i v k).toInt ∧ (upd (eA h 0 49) i v k).toInt ≤ 11
  unfold upd
  by_cases ek : k = i
  · rw [if_pos ek]; exact hv
  · rw [if_neg ek]; exact (c k hk).2
theorem SM_chosen {h0 h : HS} {i : Nat} {v : Int32} (s : SM h0 h) (hv : 0 ≤ v.toInt ∧ v.toInt ≤ 9) : SM h0 (sA h 0 48 (upd (eA h 0 48) i v)) := by
  obtain ⟨⟨n, r0, r1, t, c⟩, e⟩ := s
  refine ⟨⟨n, r0, r1, t, ?_⟩, e⟩
  intro k hk
  refine ⟨?_, (c k hk).2⟩
  show 0 ≤ (upd (eA h 0 48) i v k).toInt ∧ (upd (eA h 0 48) i v k).toInt ≤ 9
  unfold upd
  by_cases ek : k = i
  · rw [if_pos ek]; exact hv
  · rw [if_neg ek]; exact (c k hk).1
theorem u_X9_triesDoings_46 {h0 : HS} (x1 x2 x3 x4 : Int32) (w : x1.toInt ≤ 3) (a0 : 1 ≤ (eA h0 0 0 0).toInt) {k31 : HS → Int32 → Int32 → Int32 → Int32 → Option HS} (hk : ∀ h : HS, SM h0 h → ok (k31 h x1 x2 x3 (x4 + 1)) (fun a => SM h0 a ∧ True)) : ∀ (n : Nat) (h : HS) (x5 x6 : Int32), SM h0 h → 0 ≤ x5.toInt → (-1 ≤ x6.toInt ∧ x6.toInt < 3) → (x6.toInt + 1 : Int) < (n : Int) → ok (f_X9_triesDoings_46 k31 n h x1 x2 x3 x4 x5 x6) (fun a => SM h0 a ∧ True) := by
  intro n
  induction n with
  | zero => intro h x5 x6 s i0 i6 hm; exact absurd hm (by omega)
  | succ n ih =>
    intro h x5 x6 s i0 i6 hm
    rw [f_X9_triesDoings_46_s]
    have hn := IM_n s.1
    rw [s.2.1] at hn
    have z0 : (0 : Int32).toInt = 0 := rfl; have zm : (-1 : Int32).toInt = -1 := rfl
    refine ok_if (fun c => ?_) (fun c => ?_)
    · refine ok_ob1 (u_X9_asksPlan h x1 x2 s.1 w) (fun h4 k4 => ?_)
      exact hk h4 (SM_trans s k4.1)
    · have d := gi_of_nlt c
      rw [s.2.1]
      have e3 : (3 * eA h0 0 0 0).toInt = 3 * (eA h0 0 0 0).toInt := fb_mulJ rfl (by omega) (by omega)
      have ne : ¬ 3 * eA h0 0 0 0 = 0 := by
        intro e
        rw [e] at e3
        omega
      generalize 3 * eA h0 0 0 0 = y at *
      have rm := fb_rem (x := x5) (y := y) (k := y.toInt) rfl (by omega) i0
      have dv := (fb_divK (x := x5) (y := y) (k := y.toInt) rfl (by omega)).1 i0
      have a6 : (x6 + -1).toInt = x6.toInt - 1 := by rw [fb_addI (by rw [zm]; omega) (by rw [zm]; omega), zm]; rfl
      generalize x6 + -1 = x6' at *
      refine ok_chk ne (ok_chk (by omega) (ok_chk ne ?_))
      exact ih _ (x5 / y) x6' (SM_does s (by omega)) dv.1 (by omega) (by omega)
theorem u_X9_triesDoings_31 {h0 : HS} (x1 x2 x3 : Int32) (w : 1 ≤ x1.toInt ∧ x1.toInt ≤ 3) (a0 : 1 ≤ (eA h0 0 0 0).toInt ∨ x3.toInt ≤ 0) (w3 : x3.toInt ≤ 1728) : ∀ (n : Nat) (h : HS) (x4 : Int32), SM h0 h → 0 ≤ x4.toInt → 0 < n → (1728 - (x4).toInt : Int) < (n : Int) → ok (f_X9_triesDoings_31 n h x1 x2 x3 x4) (fun a => SM h0 a ∧ True) := by
  intro n
  induction n with
  | zero => intro h x4 s i0 hn hm; exact absurd hn (by decide)
  | succ n ih =>
    intro h x4 s i0 hn hm
    rw [f_X9_triesDoings_31_s]
    refine ok_if (fun c => ok_some ⟨s, trivial⟩) (fun c => ?_)
    have d := gi_of_nle c
    have z1 : (1 : Int32).toInt = 1 := rfl
    have a := fb_addI (x := x4) (y := 1) (by omega) (by omega)
    have b := fb_subI (x := x1) (y := 1) (by omega) (by omega)
    exact u_X9_triesDoings_46 x1 x2 x3 x4 w.2 (by omega) (fun h s => ih h (x4 + 1) s (by omega) (by omega) (by omega)) _ h x4 (x1 - 1) s i0 (by omega) (by omega)
theorem u_X9_triesDoings_5 {h0 : HS} (x1 x2 : Int32) (w : 1 ≤ x1.toInt ∧ x1.toInt ≤ 3) : ∀ (n : Nat) (h : HS) (x3 x4 : Int32), SM h0 h → ((x4.toInt = 0 ∧ x3.toInt = 1) ∨ (x4.toInt = 1 ∧ 0 ≤ x3.toInt ∧ x3.toInt ≤ 12) ∨ (x4.toInt = 2 ∧ 0 ≤ x3.toInt ∧ x3.toInt ≤ 144) ∨ (x4.toInt = 3 ∧ 0 ≤ x3.toInt ∧ x3.toInt ≤ 1728)) → (1 ≤ (eA h0 0 0 0).toInt ∨ x4.toInt = 0 ∨ x3.toInt = 0) → 0 < n → (3 - (x4).toInt : Int) < (n : Int) → ok (f_X9_triesDoings_5 n h x1 x2 x3 x4) (fun a => SM h0 a ∧ True) := by
  intro n
  induction n with
  | zero => intro h x3 x4 s i0 i1 hn hm; exact absurd hn (by decide)
  | succ n ih =>
    intro h x3 x4 s i0 i1 hn hm
    rw [f_X9_triesDoings_5_s]
    have hn := IM_n s.1
    rw [s.2.1] at hn
    refine ok_if (fun c => ?_) (fun c => ?_)
    · have d := gi_of_le c
      exact u_X9_triesDoings_31 x1 x2 x3 w (by omega) (by omega) _ h 0 s (by decide) (by decide) (by have : (0 : Int32).toInt = 0 := rfl; omega)
    · have d := gi_of_nle c
      rw [s.2.1]
      have z1 : (1 : Int32).toInt = 1 := rfl
      have a := fb_addI (x := x4) (y := 1) (by omega) (by omega)
      have m : (x3 * 3).toInt = x3.toInt * 3 := fb_mulK rfl (by omega) (by omega)
      have fin : (x3 * 3 * eA h0 0 0 0).toInt = (x3 * 3).toInt * (eA h0 0 0 0).toInt ∧ (0 ≤ (x3 * 3).toInt * (eA h0 0 0 0).toInt) ∧ (x3 * 3).toInt * (eA h0 0 0 0).toInt ≤ 12 * x3.toInt ∧ ((eA h0 0 0 0).toInt = 0 → (x3 * 3).toInt * (eA h0 0 0 0).toInt = 0) := by
        generalize x3 * 3 = y at *
        have e0 : (eA h0 0 0 0).toInt = 0 ∨ (eA h0 0 0 0).toInt = 1 ∨ (eA h0 0 0 0).toInt = 2 ∨ (eA h0 0 0 0).toInt = 3 ∨ (eA h0 0 0 0).toInt = 4 := by omega
        rcases e0 with e | e | e | e | e <;> (rw [fb_mulK e (by omega) (by omega)]; rw [e]; omega)
      generalize x3 * 3 * eA h0 0 0 0 = v at *
      exact ih h v (x4 + 1) s (by omega) (by omega) (by omega) (by omega)
theorem u_X9_triesDoings (h : HS) (p1 p2 : Int32) (hI : IM h) (w : 1 ≤ p1.toInt ∧ p1.toInt ≤ 3) : ok (f_X9_triesDoings h p1 p2) (fun a => SM h a ∧ True) := by
  unfold f_X9_triesDoings
  exact u_X9_triesDoings_5 p1 p2 w _ h 1 0 (SM_refl hI) (Or.inl ⟨rfl, rfl⟩) (Or.inr (Or.inl rfl)) (by decide) (by have : (0 : Int32).toInt = 0 := rfl; omega)
theorem u_X9_plansOf_102 {h0 : HS} (x1 x2 x3 : Int32) {k9 : HS → Int32 → Int32 → Int32 → Option (Int32 × HS)} {k25 : HS → Int32 → Int32 → Int32 → Int32 → Int32 → Int32 → Option (Int32 × HS)} {Q : Int32 × HS → Prop} (x6 : Int32) (w6 : 0 ≤ x6.toInt ∧ x6.toInt ≤ 9) (hk : ∀ (h : HS) (x4 x5 : Int32), SM h0 h → (0 ≤ x4.toInt ∧ x4.toInt ≤ x6.toInt + 1) → ok (k25 h x1 x2 x3 x4 x5 (x6 + 1)) Q) (h : HS) (x4 y0 : Int32) (s : SM h0 h) (i4 : 0 ≤ x4.toInt ∧ x4.toInt ≤ x6.toInt) : ok (f_X9_plansOf_102 k9 k25 h x1 x2 x3 x4 x6 y0) Q := by
  unfold f_X9_plansOf_102 f_X9_plansOf_119 f_X9_plansOf_122
  have z1 : (1 : Int32).toInt = 1 := rfl; have z3 : (3 : Int32).toInt = 3 := rfl
  have a4 := fb_addI (x := x4) (y := 1) (by omega) (by omega)
  refine ok_if (fun c => hk h _ _ s (by omega)) (fun c => ?_)
  have d := gi_of_nle c
  exact ok_chk (by omega) (hk _ _ _ (SM_chosen s w6) (by omega))
theorem u_X9_plansOf_48 {h0 : HS} (x1 x2 x3 x4 x5 : Int32) {k9 : HS → Int32 → Int32 → Int32 → Option (Int32 × HS)} {k25 : HS → Int32 → Int32 → Int32 → Int32 → Int32 → Int32 → Option (Int32 × HS)} {Q : Int32 × HS → Prop} (x6 : Int32) (w6 : 0 ≤ x6.toInt ∧ x6.toInt ≤ 9) (hk : ∀ (h : HS) (x4 x5 : Int32), SM h0 h → (0 ≤ x4.toInt ∧ x4.toInt ≤ x6.toInt + 1) → ok (k25 h x1 x2 x3 x4 x5 (x6 + 1)) Q) (h : HS) (s : SM h0 h) (i4 : 0 ≤ x4.toInt ∧ x4.toInt ≤ x6.toInt) : ∀ (n : Nat) (x7 x8 : Int32), 0 ≤ x8.toInt → 0 < n → (10 - (x8).toInt : Int) < (n : Int) → ok (f_X9_plansOf_48 k9 k25 n h x1 x2 x3 x4 x5 x6 x7 x8) Q := by
  intro n
  induction n with
  | zero => intro x7 x8 i0 hn hm; exact absurd hn (by decide)
  | succ n ih =>
    intro x7 x8 i0 hn hm
    rw [f_X9_plansOf_48_s]
    unfold f_X9_plansOf_101 f_X9_plansOf_74 f_X9_plansOf_79
    have hn := IM_n s.1
    have z1 : (1 : Int32).toInt = 1 := rfl
    refine ok_if (fun c => ?_) (fun c => ?_)
    · exact ok_if (fun c => u_X9_plansOf_102 x1 x2 x3 x6 w6 hk h x4 _ s i4) (fun c => ok_if (fun c => u_X9_plansOf_102 x1 x2 x3 x6 w6 hk h x4 _ s i4) (fun c => u_X9_plansOf_102 x1 x2 x3 x6 w6 hk h x4 _ s i4))
    · have d := gi_of_nle c
      have a := fb_addI (x := x8) (y := 1) (by omega) (by omega)
      refine ok_if (fun c => ok_chk (by omega) (ok_if (fun c => ?_) (fun c => ?_))) (fun c => ?_) <;> exact ih _ (x8 + 1) (by omega) (by omega) (by omega)
theorem u_X9_plansOf_25 {h0 : HS} (x1 x2 x3 : Int32) (w : 1 ≤ x1.toInt ∧ x1.toInt ≤ 3) {k9 : HS → Int32 → Int32 → Int32 → Option (Int32 × HS)} {Q : Int32 × HS → Prop} (hk : ∀ h : HS, SM h0 h → ok (k9 h x1 x2 (x3 + 1)) Q) : ∀ (n : Nat) (h : HS) (x4 x5 x6 : Int32), SM h0 h → (0 ≤ x4.toInt ∧ x4.toInt ≤ x6.toInt) → 0 ≤ x6.toInt → 0 < n → (10 - (x6).toInt : Int) < (n : Int) → ok (f_X9_plansOf_25 k9 n h x1 x2 x3 x4 x5 x6) Q := by
  intro n
  induction n with
  | zero => intro h x4 x5 x6 s i4 i0 hn hm; exact absurd hn (by decide)
  | succ n ih =>
    intro h x4 x5 x6 s i4 i0 hn hm
    rw [f_X9_plansOf_25_s]
    unfold f_X9_plansOf_145 f_X9_plansOf_122
    have z1 : (1 : Int32).toInt = 1 := rfl; have z10 : (10 : Int32).toInt = 10 := rfl
    refine ok_if (fun c => ?_) (fun c => ?_)
    · refine ok_if (fun c => hk h s) (fun c => ok_if (fun c => ?_) (fun c => hk h s))
      exact ok_ob1 (u_X9_triesDoings h x1 x2 s.1 w) (fun h7 k7 => hk h7 (SM_trans s k7.1))
    · have d := gi_of_nle c
      have a := fb_addI (x := x6) (y := 1) (by omega) (by omega)
      refine ok_if (fun c => ?_) (fun c => ih h x4 x5 (x6 + 1) s (by omega) (by omega) (by omega) (by omega))
      exact u_X9_plansOf_48 x1 x2 x3 x4 x5 x6 (by omega) (fun h x4 x5 s i => ih h x4 x5 (x6 + 1) s (by omega) (by omega) (by omega) (by omega)) h s i4 _ 0 0 (by decide) (by decide) (by have : (0 : Int32).toInt = 0 := rfl; omega)
theorem u_X9_plansOf_9 {h0 : HS} (x1 x2 : Int32) (w : 1 ≤ x1.toInt ∧ x1.toInt ≤ 3) : ∀ (n : Nat) (h : HS) (x3 : Int32), SM h0 h → 0 ≤ x3.toInt → 0 < n → (1024 - (x3).toInt : Int) < (n : Int) → ok (f_X9_plansOf_9 n h x1 x2 x3) (fun a => SM h0 a.2 ∧ (a.1 = 0 ∨ a.1 = 1)) := by
  intro n
  induction n with
  | zero => intro h x3 s i0 hn hm; exact absurd hn (by decide)
  | succ n ih =>
    intro h x3 s i0 hn hm
    rw [f_X9_plansOf_9_s]
    unfold f_X9_plansOf_167
    refine ok_if (fun c => ?_) (fun c => ?_)
    · exact ok_if (fun c => ok_chk (Or.inl rfl) (ok_some ⟨s, Or.inl rfl⟩)) (fun c => ok_chk (Or.inr rfl) (ok_some ⟨s, Or.inr rfl⟩))
    · have d := gi_of_nle c
      have z1 : (1 : Int32).toInt = 1 := rfl; have z : (1024 : Int32).toInt = 1024 := rfl
      have a := fb_addI (x := x3) (y := 1) (by omega) (by omega)
      exact u_X9_plansOf_25 x1 x2 x3 w (fun h s => ih h (x3 + 1) s (by omega) (by omega) (by omega)) _ h 0 1 0 s (by decide) (by decide) (by decide) (by have : (0 : Int32).toInt = 0 := rfl; omega)
theorem u_X9_plansOf (h : HS) (p1 p2 : Int32) (hI : IM h) (w : 1 ≤ p1.toInt ∧ p1.toInt ≤ 3) : ok (f_X9_plansOf h p1 p2) (fun a => SM h a.2 ∧ (a.1 = 0 ∨ a.1 = 1)) := by
  unfold f_X9_plansOf
  exact u_X9_plansOf_9 p1 p2 w _ (sL h 0 52 (-1)) 0 (SM_refl hI) (by decide) (by decide) (by have : (0 : Int32).toInt = 0 := rfl; omega)
theorem u_X9_plan_73 (h : HS) (x3 x4 : Int32) (w : x4.toInt ≤ 3) : ∀ (n : Nat) (x5 x6 : Int32), 0 ≤ x6.toInt → 0 < n → (3 - (x6).toInt : Int) < (n : Int) → ok (f_X9_plan_73 n h x3 x4 x5 x6) (fun a => a.2 = h) := by
  intro n
  induction n with
  | zero => intro x5 x6 i0 hn hm; exact absurd hn (by decide)
  | succ n ih =>
    intro x5 x6 i0 hn hm
    rw [f_X9_plan_73_s]
    unfold f_X9_plan_131 f_X9_plan_123
    refine ok_if (fun c => ok_some rfl) (fun c => ?_)
    have d := gi_of_nle c
    have z1 : (1 : Int32).toInt = 1 := rfl
    have a := fb_addI (x := x6) (y := 1) (by omega) (by omega)
    refine ok_if (fun c => ok_some rfl) (fun c => ?_)
    refine ok_chk (by omega) ?_
    refine ok_if (fun c => ?_) (fun c => ih _ (x6 + 1) (by omega) (by omega) (by omega))
    exact ok_chk (by omega) (ok_chk (by omega) (ih _ (x6 + 1) (by omega) (by omega) (by omega)))
theorem u_X9_plan_41 {h0 : HS} (x2 x3 : Int32) : ∀ (n : Nat) (h : HS) (x4 : Int32), SM h0 h → 1 ≤ x4.toInt → 0 < n → (4 - (x4).toInt : Int) < (n : Int) → ok (f_X9_plan_41 n h x2 x3 x4) (fun a => SM h0 a.2 ∧ True) := by
  intro n
  induction n with
  | zero => intro h x4 s i0 hn hm; exact absurd hn (by decide)
  | succ n ih =>
    intro h x4 s i0 hn hm
    rw [f_X9_plan_41_s]
    unfold f_X9_plan_68
    refine ok_if (fun c => ok_some ⟨s, trivial⟩) (fun c => ?_)
    have d := gi_of_nle c
    have z1 : (1 : Int32).toInt = 1 := rfl; have z4 : (4 : Int32).toInt = 4 := rfl
    have a := fb_addI (x := x4) (y := 1) (by omega) (by omega)
    refine ok_ob2 (u_X9_plansOf h x4 x2 s.1 (by omega)) (fun r10 h10 k10 => ?_)
    have s10 := SM_trans s k10.1
    refine ok_if (fun c => ih h10 (x4 + 1) s10 (by omega) (by omega) (by omega)) (fun c => ?_)
    have go : ∀ y : Int32, ok (f_X9_plan_73 8589934592 h10 x3 x4 y 0) (fun a => SM h0 a.2 ∧ True) := fun y => ok_mono (u_X9_plan_73 h10 x3 x4 (by omega) _ y 0 (by decide) (by decide) (by have : (0 : Int32).toInt = 0 := rfl; omega)) (fun a k => by rw [k]; exact ⟨s10, trivial⟩)
    exact ok_if (fun c => go _) (fun c => go _)
theorem u_X9_plan_33 (h : HS) (x1 x2 x3 : Int32) (hI : IM h) : ok (f_X9_plan_33 h x1 x2 x3) (fun a => SF h a.2) := by
  unfold f_X9_plan_33
  refine ok_ob1 (u_X9_laysFlock h x1 hI) (fun h8 k8 => ?_)
  refine ok_mono (u_X9_plan_41 x2 x3 _ h8 1 (SM_refl k8.1) (by decide) (by decide) (by have : (1 : Int32).toInt = 1 := rfl; omega)) (fun a k => ⟨k.1.1, k.1.2.1.trans k8.2⟩)
theorem u_X9_plan (h : HS) (p1 p2 p3 : Int32) (hI : IM h) : ok (f_X9_plan h p1 p2 p3) (fun a => SF h a.2) := by
  unfold f_X9_plan f_X9_plan_30
  refine ok_ob1 (u_X9_isLetterNumber p1) (fun r1 k1 => ok_if (fun c => ok_some ⟨hI, rfl⟩) (fun c1 => ?_))
  refine ok_ob1 (u_X9_in p2 1 100) (fun r3 k3 => ok_if (fun c => ok_some ⟨hI, rfl⟩) (fun c3 => ?_))
  refine ok_if (fun c => u_X9_plan_33 h p1 p2 p3 hI) (fun c => ?_)
  refine ok_ob2 (u_X9_isGoose h p3 hI) (fun r6 h6 k6 => ?_)
  have e6 : h = h6 := k6.1.symm
  subst e6
  exact ok_if (fun c => ok_some ⟨hI, rfl⟩) (fun c => u_X9_plan_33 h p1 p2 p3 hI)
/-! the reference's parser: what stands between two turns -/
def rk (o : Int32) : Int := if o = 407 then 1 else if o = 406 then 2 else if o = 43 ∨ o = 45 then 3 else 4
theorem rk_lo (o : Int32) : 1 ≤ rk o ∧ rk o ≤ 4 := by
  unfold rk
  by_cases c1 : o = 407
  · rw [if_pos c1]; decide
  rw [if_neg c1]
  by_cases c2 : o = 406
  · rw [if_pos c2]; decide
  rw [if_neg c2]
  by_cases c3 : o = 43 ∨ o = 45
  · rw [if_pos c3]; decide
  rw [if_neg c3]; decide
theorem u_rank (p : Int32) : ok (f_X9_rank p) (fun a => a.toInt = rk p) := by
  unfold f_X9_rank f_X9_rank_34 f_X9_rank_39 rk
  refine ok_if (fun c => ok_some (by rw [if_pos c]; rfl)) (fun c1 => ?_)
  refine ok_if (fun c => ok_some (by rw [if_neg c1, if_pos c]; rfl)) (fun c2 => ?_)
  refine ok_if (fun c => ok_some (by rw [if_neg c1, if_neg c2, if_pos (Or.inl c)]; rfl)) (fun c3 => ?_)
  refine ok_if (fun c => ok_some (by rw [if_neg c1, if_neg c2, if_pos (Or.inr c)]; rfl)) (fun c4 => ?_)
  exact ok_some (by rw [if_neg c1, if_neg c2, if_neg (fun e => e.elim c3 c4)]; rfl)
def BN (o : Int32) : Prop := ¬ o = 400 ∧ ¬ o = 401 ∧ ¬ o = 402 ∧ ¬ o = 405 ∧ ¬ o = 408
def WT (F W : Int) (fr wo wf : Nat → Int32) : Prop := ∀ i : Nat, (i : Int) < W → BN (wo i) ∧ (wf i).toInt ≤ F ∧ (i : Int) + 5 ≤ 4 * (wf i).toInt + rk (wo i) ∧ (3 ≤ rk (wo i) ∨ fr ((wf i).toInt.toNat - 1) = 2) ∧ ¬ fr ((wf i).toInt.toNat - 1) = 3 ∧ ¬ fr ((wf i).toInt.toNat - 1) = 7 ∧ ∀ j : Nat, (j : Int) < W → i ≤ j → (wf i).toInt ≤ (wf j).toInt
theorem WT_le {F W : Int} {fr wo wf : Nat → Int32} (h : WT F W fr wo wf) (hF : F ≤ 10) : W ≤ 40 := by
  apply Int.not_lt.mp
  intro c
  have k := h 40 (by omega)
  have r := rk_lo (wo 40)
  omega
theorem WT_pop {F W : Int} {fr wo wf : Nat → Int32} (h : WT F W fr wo wf) {V : Int} (hv : V ≤ W) : WT F V fr wo wf := by
  intro i hi
  obtain ⟨a, b, c, d, e, f, g⟩ := h i (by omega)
  exact ⟨a, b, c, d, e, f, fun j hj hij => g j (by omega) hij⟩
theorem WT_fr {F G W : Int} {fr gr wo wf : Nat → Int32} (h : WT F W fr wo wf) (h1 : ∀ i : Nat, (i : Int) < W → (wf i).toInt ≤ G) (h2 : ∀ i : Nat, (i : Int) < W → gr ((wf i).toInt.toNat - 1) = fr ((wf i).toInt.toNat - 1)) : WT G W gr wo wf := by
  intro i hi
  obtain ⟨a, b, c, d, e, f, g⟩ := h i hi
  rw [h2 i hi]
  exact ⟨a, h1 i hi, c, d, e, f, g⟩
theorem WT_push {F W : Int} {fr wo wf : Nat → Int32} {o f : Int32} (h : WT F W fr wo wf) (h0 : 0 ≤ W) (hf : f.toInt = F) (hF : 1 ≤ F) (hb : BN o) (h1 : 3 ≤ rk o ∨ fr (F.toNat - 1) = 2) (h3 : ¬ fr (F.toNat - 1) = 3) (h7 : ¬ fr (F.toNat - 1) = 7) (ht : W = 0 ∨ ¬ ((wf (W.toNat - 1)).toInt = F ∧ rk o ≤ rk (wo (W.toNat - 1)))) : WT F (W + 1) fr (upd wo W.toNat o) (upd wf W.toNat f) := by
  intro i hi
  have ro := rk_lo o
  by_cases e : i = W.toNat
  · have e1 : upd wo W.toNat o i = o := by unfold upd; rw [if_pos e]
    have e2 : upd wf W.toNat f i = f := by unfold upd; rw [if_pos e]
    rw [e1, e2, hf]
    refine ⟨hb, by omega, ?_, h1, h3, h7, ?_⟩
    · rcases ht with ht | ht
      · omega
      · by_cases w0 : W = 0
        · omega
        obtain ⟨_, k2, k3, _⟩ := h (W.toNat - 1) (by omega)
        have rt := rk_lo (wo (W.toNat - 1))
        by_cases ef : (wf (W.toNat - 1)).toInt = F
        · have : ¬ rk o ≤ rk (wo (W.toNat - 1)) := fun q => ht ⟨ef, q⟩
          omega
        · omega
    · intro j hj hij
      have : j = W.toNat := by omega
      unfold upd
      rw [if_pos this, hf]
      omega
  · have e1 : upd wo W.toNat o i = wo i := by unfold upd; rw [if_neg e]
    have e2 : upd wf W.toNat f i = wf i := by unfold upd; rw [if_neg e]
    obtain ⟨a, b, c, d, e5, f5, g⟩ := h i (by omega)
    rw [e1, e2]
    refine ⟨a, b, c, d, e5, f5, ?_⟩
    intro j hj hij
    by_cases ej : j = W.toNat
    · unfold upd; rw [if_pos ej, hf]; exact b
    · unfold upd; rw [if_neg ej]; exact g j (by omega) hij
def GPs (NC NO : Int) (nw na no nv : Nat → Int32) : Prop := ∀ k : Nat, (k : Int) < NC → (nw k).toInt ≤ 3 → 0 ≤ (na k).toInt ∧ PG no nv (na k).toInt.toNat NO.toNat
def CUR (NO d p : Int) (no nv : Nat → Int32) : Prop := 0 ≤ p ∧ p ≤ NO ∧ PO no nv p.toNat (NO - p).toNat d
theorem PO_keep {o v o2 v2 : Nat → Int32} {p n : Nat} {d : Int} (h : PO o v p n d) (e1 : ∀ j : Nat, j < n → o2 (p + j) = o (p + j)) (e2 : ∀ j : Nat, j < n → v2 (p + j) = v (p + j)) : PO o2 v2 p n d := by
  obtain ⟨dep, d0, dn, hs⟩ := h
  refine ⟨dep, d0, dn, fun j hj => ?_⟩
  rw [e1 j hj, e2 j hj]
  exact hs j hj
theorem PO_snoc {o v : Nat → Int32} {p n : Nat} {d e : Int} (h : PO o v p n d) (hs : ST (o (p + n)) (v (p + n)) d e) : PO o v p (n + 1) e := by
  obtain ⟨dep, d0, dn, hd⟩ := h
  refine ⟨fun j => if j ≤ n then dep j else e, ?_, ?_, ?_⟩
  · show (if 0 ≤ n then dep 0 else e) = 0
    rw [if_pos (Nat.zero_le n)]; exact d0
  · show (if n + 1 ≤ n then dep (n + 1) else e) = e
    rw [if_neg (by omega)]
  · intro j hj
    show ST _ _ (if j ≤ n then dep j else e) (if j + 1 ≤ n then dep (j + 1) else e)
    rw [if_pos (by omega)]
    by_cases c : j + 1 ≤ n
    · rw [if_pos c]; exact hd j (by omega)
    · have : j = n := by omega
      subst this
      rw [if_neg c, dn]; exact hs
theorem upd_at {f : Nat → Int32} {i : Nat} {v : Int32} : upd f i v i = v := by unfold upd; rw [if_pos rfl]
theorem upd_no {f : Nat → Int32} {i j : Nat} {v : Int32} (h : ¬ j = i) : upd f i v j = f j := by unfold upd; rw [if_neg h]
theorem CUR_em {NO d e p : Int} {no nv : Nat → Int32} {x y : Int32} (h : CUR NO d p no nv) (hs : ST x y d e) : CUR (NO + 1) e p (upd no NO.toNat x) (upd nv NO.toNat y) := by
  obtain ⟨h0, h1, h2⟩ := h
  refine ⟨h0, by omega, ?_⟩
  have e1 : (NO + 1 - p).toNat = (NO - p).toNat + 1 := by omega
  have e2 : p.toNat + (NO - p).toNat = NO.toNat := by omega
  rw [e1]
  refine PO_snoc (PO_keep h2 (fun j hj => upd_no (by omega)) (fun j hj => upd_no (by omega))) ?_
  rw [e2, upd_at, upd_at]
  exact hs
theorem PG_keep {o v o2 v2 : Nat → Int32} {p m m2 : Nat} (h : PG o v p m) (hm : m ≤ m2) (e1 : ∀ j : Nat, j < m → o2 j = o j) (e2 : ∀ j : Nat, j < m → v2 j = v j) : PG o2 v2 p m2 := by
  obtain ⟨n, d, hn, he, hp⟩ := h
  exact ⟨n, d, by omega, (e1 _ hn).trans he, PO_keep hp (fun j hj => e1 _ (by omega)) (fun j hj => e2 _ (by omega))⟩
theorem GPs_em {NC NO : Int} {nw na no nv : Nat → Int32} {x y : Int32} (h : GPs NC NO nw na no nv) (h0 : 0 ≤ NO) : GPs NC (NO + 1) nw na (upd no NO.toNat x) (upd nv NO.toNat y) := by
  intro k hk hw
  obtain ⟨a, b⟩ := h k hk hw
  exact ⟨a, PG_keep b (by omega) (fun j hj => upd_no (by omega)) (fun j hj => upd_no (by omega))⟩
def K0 (T W NO NC F b : Int) (fr wo wf nw na no nv : Nat → Int32) : Prop := 0 ≤ W ∧ WT F W fr wo wf ∧ 0 ≤ NO ∧ NO + W + b ≤ T ∧ T ≤ 300 ∧ GPs NC NO nw na no nv ∧ F ≤ 10
def HK (h : HS) (b : Int) : Prop := K0 (eI h 0 16).toInt (eI h 0 25).toInt (eI h 0 36).toInt (eI h 0 29).toInt (eI h 0 22).toInt b (eA h 0 23) (eA h 0 26) (eA h 0 27) (eA h 0 31) (eA h 0 32) (eA h 0 37) (eA h 0 38)
def HC (h : HS) (d : Int) : Prop := CUR (eI h 0 36).toInt ((eI h 0 25).toInt + d) (eA h 0 32 (eI h 0 29).toInt.toNat).toInt (eA h 0 37) (eA h 0 38)
def EM (h : HS) (o v : Int32) : HS := sI (sA (sA h 0 37 (upd (eA h 0 37) (eI h 0 36).toInt.toNat o)) 0 38 (upd (eA h 0 38) (eI h 0 36).toInt.toNat v)) 0 36 (eI h 0 36 + 1)
theorem em_eq {h : HS} {o v : Int32} (h0 : 0 ≤ (eI h 0 36).toInt) (h1 : (eI h 0 36).toInt < 400) : f_X9_emits h o v = some (EM h o v) := by
  unfold f_X9_emits EM
  have e : (eI h 0 36).toNatClampNeg = (eI h 0 36).toInt.toNat := by rw [Int32.toNatClampNeg]
  rw [if_pos ⟨h0, h1⟩, if_pos ⟨h0, h1⟩, e]
theorem em_no {h : HS} (h0 : 0 ≤ (eI h 0 36).toInt) (h1 : (eI h 0 36).toInt < 400) : (eI h 0 36 + 1).toInt = (eI h 0 36).toInt + 1 := by
  have z1 : (1 : Int32).toInt = 1 := rfl
  rw [fb_addI (by omega) (by omega), z1]
theorem HK_em {h : HS} {b : Int} {o v : Int32} (k : HK h (b + 1)) (hb : -1 ≤ b) : HK (EM h o v) b := by
  obtain ⟨k1, k2, k3, k4, k5, k6, k7⟩ := k
  have e := em_no (h := h) k3 (by omega)
  show K0 (eI h 0 16).toInt (eI h 0 25).toInt (eI h 0 36 + 1).toInt (eI h 0 29).toInt (eI h 0 22).toInt b (eA h 0 23) (eA h 0 26) (eA h 0 27) (eA h 0 31) (eA h 0 32) (upd (eA h 0 37) (eI h 0 36).toInt.toNat o) (upd (eA h 0 38) (eI h 0 36).toInt.toNat v)
  rw [e]
  exact ⟨k1, k2, by omega, by omega, k5, GPs_em k6 k3, k7⟩
theorem HC_em {h : HS} {b d e : Int} {o v : Int32} (k : HK h b) (hb : -50 ≤ b) (c : HC h d) (hs : ST o v ((eI h 0 25).toInt + d) ((eI h 0 25).toInt + e)) : HC (EM h o v) e := by
  obtain ⟨k1, k2, k3, k4, k5, k6, k7⟩ := k
  have en := em_no (h := h) k3 (by omega)
  show CUR (eI h 0 36 + 1).toInt ((eI h 0 25).toInt + e) (eA h 0 32 (eI h 0 29).toInt.toNat).toInt (upd (eA h 0 37) (eI h 0 36).toInt.toNat o) (upd (eA h 0 38) (eI h 0 36).toInt.toNat v)
  rw [en]
  exact CUR_em c hs
/-! what a piece of the parser leaves -/
def PF (h c : HS) : Prop := (∀ k : Nat, (k < 14 ∨ (22 < k ∧ k < 25) ∨ (25 < k ∧ k < 28) ∨ (30 < k ∧ k < 36) ∨ 36 < k) → eI c 0 k = eI h 0 k) ∧ ∀ k : Nat, (k < 23 ∨ k = 25 ∨ (27 < k ∧ k < 31) ∨ k = 36 ∨ 38 < k) → eA c 0 k = eA h 0 k
theorem PF_refl (h : HS) : PF h h := ⟨fun _ _ => rfl, fun _ _ => rfl⟩
theorem PF_trans {a b c : HS} (x : PF a b) (y : PF b c) : PF a c := ⟨fun k hk => (y.1 k hk).trans (x.1 k hk), fun k hk => (y.2 k hk).trans (x.2 k hk)⟩
theorem eA_ne {h : HS} {a k : Nat} {x : Nat → Int32} (hk : ¬ k = a) : eA (sA h 0 a x) 0 k = eA h 0 k := by
  show (if (0 : Nat) = 0 then (if k = a then x else h.2.1 0 k) else h.2.1 0 k) = h.2.1 0 k
  rw [if_pos rfl, if_neg hk]
theorem PF_sI {h c : HS} {a : Nat} {x : Int32} (n : PF h c) (ha : (14 ≤ a ∧ a ≤ 22) ∨ a = 25 ∨ (28 ≤ a ∧ a ≤ 30) ∨ a = 36) : PF h (sI c 0 a x) := ⟨fun k hk => (eI_ne (by omega)).trans (n.1 k hk), n.2⟩
theorem PF_sA {h c : HS} {a : Nat} {x : Nat → Int32} (n : PF h c) (ha : (23 ≤ a ∧ a ≤ 24) ∨ (26 ≤ a ∧ a ≤ 27) ∨ (31 ≤ a ∧ a ≤ 35) ∨ a = 37 ∨ a = 38) : PF h (sA c 0 a x) := ⟨n.1, fun k hk => (eA_ne (by omega)).trans (n.2 k hk)⟩
theorem PF_NX {h c d : HS} (n : PF h c) (x : NX c d) : PF h d := ⟨fun k hk => (x.1 k (by omega)).trans (n.1 k hk), fun k hk => (x.2 k).trans (n.2 k hk)⟩
theorem PF_EM {h c : HS} {o v : Int32} (n : PF h c) : PF h (EM c o v) := PF_sI (PF_sA (PF_sA n (by omega)) (by omega)) (by omega)
theorem SM_PF {h0 h c : HS} (s : SM h0 h) (n : PF h c) : SM h0 c := SM_frame s (n.1 3 (by omega)) (n.1 47 (by omega)) (n.2 0 (by omega)) (n.2 1 (by omega)) (n.2 6 (by omega)) (n.2 7 (by omega)) (n.2 8 (by omega)) (n.2 12 (by omega)) (n.2 13 (by omega)) (n.2 48 (by omega)) (n.2 49 (by omega))
theorem HK_NX {h c : HS} {b b2 : Int} (k : HK h b) (x : NX h c) (hT : (eI h 0 16).toInt + (b2 - b) ≤ (eI c 0 16).toInt) (h3 : (eI c 0 16).toInt ≤ 300) : HK c b2 := by
  obtain ⟨k1, k2, k3, k4, k5, k6, k7⟩ := k
  unfold HK K0
  rw [x.1 25 (by omega), x.1 36 (by omega), x.1 29 (by omega), x.1 22 (by omega), x.2 23, x.2 26, x.2 27, x.2 31, x.2 32, x.2 37, x.2 38]
  exact ⟨k1, k2, k3, by omega, h3, k6, k7⟩
theorem HC_NX {h c : HS} {d : Int} (k : HC h d) (x : NX h c) : HC c d := by
  unfold HC at *
  rw [x.1 25 (by omega), x.1 36 (by omega), x.1 29 (by omega), x.2 32, x.2 37, x.2 38]
  exact k
/-! works -/
def FE (h c : HS) : Prop := (∀ k : Nat, ¬ k = 25 → ¬ k = 36 → eI c 0 k = eI h 0 k) ∧ ∀ k : Nat, ¬ k = 37 → ¬ k = 38 → eA c 0 k = eA h 0 k
theorem PF_FE {h c : HS} (x : FE h c) : PF h c := ⟨fun k hk => x.1 k (by omega) (by omega), fun k hk => x.2 k (by omega) (by omega)⟩
theorem FE_EM {h c : HS} {o v : Int32} (n : FE h c) : FE h (EM c o v) := ⟨fun k h1 h2 => (eI_ne h2).trans (n.1 k h1 h2), fun k h1 h2 => (eA_ne (h := sA c 0 37 _) h2).trans ((eA_ne h1).trans (n.2 k h1 h2))⟩
theorem FE_W {h c : HS} {x : Int32} (n : FE h c) : FE h (sI c 0 25 x) := ⟨fun k h1 h2 => (eI_ne h1).trans (n.1 k h1 h2), n.2⟩
theorem u_works_0 {h : HS} {d b : Int} (hd : 1 ≤ d ∧ d ≤ 3) (hb : 0 ≤ b) (x1 : Int32) : ∀ (n : Nat) (c : HS), FE h c → HK c b → HC c d → (eI c 0 25).toInt < n → ok (f_X9_works_0 n c x1) (fun a => FE h a ∧ HK a b ∧ HC a d ∧ ((eI a 0 25).toInt = 0 ∨ ¬ ((eA a 0 27 ((eI a 0 25).toInt.toNat - 1)).toInt = (eI a 0 22).toInt ∧ x1.toInt ≤ rk (eA a 0 26 ((eI a 0 25).toInt.toNat - 1))))) := by
  intro n
  induction n with
  | zero => intro c f k p hm; exact absurd hm (by have := k.1; omega)
  | succ n ih =>
    intro c f k p hm
    rw [f_X9_works_0_s]
    unfold f_X9_works_70
    have k1 := k.1
    have z0 : (0 : Int32).toInt = 0 := rfl; have z1 : (1 : Int32).toInt = 1 := rfl
    have w40 := WT_le k.2.1 k.2.2.2.2.2.2
    refine ok_if (fun c1 => ok_some ⟨f, k, p, Or.inl ?_⟩) (fun c1 => ?_)
    · have := gi_of_le c1; omega
    have d1 := gi_of_nle c1
    have a := fb_subI (x := eI c 0 25) (y := 1) (by omega) (by omega)
    have b1 : (eI c 0 25 - 1).toNatClampNeg = (eI c 0 25).toInt.toNat - 1 := by rw [Int32.toNatClampNeg]; omega
    rw [b1]
    have ck : 0 ≤ (eI c 0 25 - 1).toInt ∧ (eI c 0 25 - 1).toInt < 80 := by omega
    refine ok_chk ck ?_
    refine ok_if (fun c2 => ?_) (fun c2 => ok_some ⟨f, k, p, Or.inr (fun q => c2 (gi_eq q.1))⟩)
    refine ok_chk ck ?_
    refine ok_ob1 (u_rank _) (fun r5 k5 => ?_)
    refine ok_if (fun c3 => ok_some ⟨f, k, p, Or.inr (fun q => ?_)⟩) (fun c3 => ?_)
    · have := gi_of_lt c3
      have q2 := q.2
      rw [← k5] at q2
      omega
    refine ok_chk ck ?_
    obtain ⟨kk1, kk2, kk3, kk4, kk5, kk6, kk7⟩ := k
    have bn := (kk2 ((eI c 0 25).toInt.toNat - 1) (by omega)).1
    have k2 : HK (sI c 0 25 (eI c 0 25 - 1)) (b + 1) := by
      show K0 (eI c 0 16).toInt (eI c 0 25 - 1).toInt (eI c 0 36).toInt (eI c 0 29).toInt (eI c 0 22).toInt (b + 1) (eA c 0 23) (eA c 0 26) (eA c 0 27) (eA c 0 31) (eA c 0 32) (eA c 0 37) (eA c 0 38)
      rw [a, z1]
      exact ⟨by omega, WT_pop kk2 (by omega), kk3, by omega, kk5, kk6, kk7⟩
    have p2 : HC (sI c 0 25 (eI c 0 25 - 1)) (d + 1) := by
      show CUR (eI c 0 36).toInt ((eI c 0 25 - 1).toInt + (d + 1)) (eA c 0 32 (eI c 0 29).toInt.toNat).toInt (eA c 0 37) (eA c 0 38)
      rw [a, z1]
      have e : (eI c 0 25).toInt - 1 + (d + 1) = (eI c 0 25).toInt + d := by omega
      rw [e]; exact p
    have em := em_eq (h := sI c 0 25 (eI c 0 25 - 1)) (o := eA c 0 26 ((eI c 0 25).toInt.toNat - 1)) (v := 0) (show 0 ≤ (eI c 0 36).toInt from kk3) (show (eI c 0 36).toInt < 400 by omega)
    rw [em]
    show ok (f_X9_works_0 n (EM (sI c 0 25 (eI c 0 25 - 1)) _ 0) x1) _
    have st : ST (eA c 0 26 ((eI c 0 25).toInt.toNat - 1)) 0 ((eI (sI c 0 25 (eI c 0 25 - 1)) 0 25).toInt + (d + 1)) ((eI (sI c 0 25 (eI c 0 25 - 1)) 0 25).toInt + d) := by
      show ST _ 0 ((eI c 0 25 - 1).toInt + (d + 1)) ((eI c 0 25 - 1).toInt + d)
      exact Or.inr (Or.inr ⟨bn.1, bn.2.1, bn.2.2.1, bn.2.2.2.1, bn.2.2.2.2, by omega, by omega, by omega⟩)
    refine ih _ (FE_EM (FE_W f)) (HK_em k2 (by omega)) (HC_em k2 (by omega) p2 st) ?_
    show (eI c 0 25 - 1).toInt < n
    omega
theorem u_works {h : HS} {d b : Int} (x1 : Int32) (hd : 1 ≤ d ∧ d ≤ 3) (hb : 0 ≤ b) (k : HK h b) (p : HC h d) : ok (f_X9_works h x1) (fun a => FE h a ∧ HK a b ∧ HC a d ∧ ((eI a 0 25).toInt = 0 ∨ ¬ ((eA a 0 27 ((eI a 0 25).toInt.toNat - 1)).toInt = (eI a 0 22).toInt ∧ x1.toInt ≤ rk (eA a 0 26 ((eI a 0 25).toInt.toNat - 1))))) := by
  unfold f_X9_works
  refine u_works_0 hd hb x1 _ h ⟨fun _ _ _ => rfl, fun _ _ _ => rfl⟩ k p ?_
  have := WT_le k.2.1 k.2.2.2.2.2.2
  omega
theorem works_zero {h : HS} {x1 : Int32} (e : (eI h 0 25).toInt = 0) : f_X9_works h x1 = some h := by
  unfold f_X9_works
  rw [f_X9_works_0_s, if_pos (gi_le (by rw [e]; decide))]
  rfl
/-! the frames that stand open, by the state -/
def OPS (F O r : Int) (fr cm : Nat → Int32) : Prop := ∃ c : Nat, (c : Int) < F ∧ (∀ i : Nat, c < i → (i : Int) < F → fr i = 6 ∨ fr i = 7) ∧ ((c = 0 ∧ fr 0 = 1 ∧ O = F - 1 ∧ r = 0) ∨ (1 ≤ c ∧ fr 0 = 2 ∧ (∀ i : Nat, 1 ≤ i → i < c → fr i = 3) ∧ O = F - 2 ∧ ((fr c = 4 ∧ r = 0) ∨ (fr c = 5 ∧ r = 1 ∧ BN (cm (c + 1))))))
def NOTS (F O : Int) (fr : Nat → Int32) : Prop := 1 ≤ F ∧ O = F - 1 ∧ fr 0 = 2 ∧ ∀ i : Nat, 1 ≤ i → (i : Int) < F → fr i = 3
def HF (h : HS) (r : Int) : Prop := OPS (eI h 0 22).toInt (eI h 0 21).toInt r (eA h 0 23) (eA h 0 24)
def HN (h : HS) : Prop := NOTS (eI h 0 22).toInt (eI h 0 21).toInt (eA h 0 23)
def HB (h : HS) : Prop := eI h 0 19 = 0 ∧ LX h ∧ (0 ≤ (eI h 0 21).toInt ∧ (eI h 0 21).toInt ≤ 8) ∧ (0 ≤ (eI h 0 29).toInt ∧ (eI h 0 29).toInt ≤ 24)
def P0 (h : HS) : Prop := eI h 0 28 = 0 ∧ HN h ∧ HK h (eI h 0 21).toInt ∧ HC h 0 ∧ (eI h 0 29).toInt ≤ 23
def P1 (h : HS) (r : Int) : Prop := HF h r ∧ HK h ((eI h 0 21).toInt + r) ∧ HC h r ∧ (eI h 0 29).toInt ≤ 23
def P2 (h : HS) (r : Int) : Prop := HF h r ∧ HK h ((eI h 0 21).toInt + r) ∧ HC h (r + 1) ∧ (eI h 0 29).toInt ≤ 23
def P3 (h : HS) : Prop := (eI h 0 22).toInt = 1 ∧ (eI h 0 21).toInt = 0 ∧ eA h 0 23 0 = 2 ∧ HK h 0 ∧ HC h 1 ∧ (eI h 0 29).toInt ≤ 23
def P4 (h : HS) : Prop := (eI h 0 22).toInt = 0 ∧ (eI h 0 21).toInt = 0 ∧ (eI h 0 25).toInt = 0 ∧ HK h 0
def PI (h : HS) : Prop := HB h ∧ (P0 h ∨ (eI h 0 28 = 1 ∧ ∃ r, P1 h r) ∨ (eI h 0 28 = 2 ∧ ¬ eA h 0 23 ((eI h 0 22).toInt.toNat - 1) = 7 ∧ ∃ r, P2 h r) ∨ (eI h 0 28 = 3 ∧ P3 h) ∨ (eI h 0 28 = 4 ∧ P4 h))
def MS (h : HS) : Int := 2 * (300 - (eI h 0 16).toInt) + (if eI h 0 28 = 0 ∨ eI h 0 28 = 2 then 1 else 0)
def PQ (h : HS) (a : HS) : Prop := PF h a ∧ (0 < (eI a 0 19).toInt ∨ (PI a ∧ MS a < MS h))
theorem OPS_r {F O r : Int} {fr cm : Nat → Int32} (h : OPS F O r fr cm) : 0 ≤ r ∧ r ≤ 1 ∧ 1 ≤ F ∧ F ≤ O + 2 ∧ O < F ∧ 0 ≤ O := by
  obtain ⟨c, h1, _, h3⟩ := h
  rcases h3 with ⟨a, b, d, e⟩ | ⟨a, b, d, e, f⟩
  · omega
  · rcases f with f | f <;> omega
theorem ms_lt {h a : HS} (s : eI h 0 28 = 1 ∨ eI h 0 28 = 3 ∨ eI h 0 28 = 4 ∨ True) (t : (eI h 0 16).toInt + 1 ≤ (eI a 0 16).toInt) : MS a < MS h := by
  unfold MS
  split <;> split <;> omega
theorem u_errs {h : HS} (p : Int32) (hp : 0 < p.toInt) (h0 : 0 ≤ (eI h 0 19).toInt) : ok (f_X9_errs h p) (fun a => PF h a ∧ 0 < (eI a 0 19).toInt) := by
  unfold f_X9_errs f_X9_errs_20
  refine ok_if (fun c => ok_some ⟨PF_sI (PF_sI (PF_refl h) (by omega)) (by omega), hp⟩) (fun c => ok_some ⟨PF_refl h, ?_⟩)
  have := gi_of_ne c
  have z0 : (0 : Int32).toInt = 0 := rfl
  omega
theorem err_ok {h : HS} (p : Int32) (hp : 0 < p.toInt) (b : HB h) : ok (f_X9_errs h p) (fun a => PQ h a) := ok_mono (u_errs p hp (by rw [b.1]; decide)) (fun a k => ⟨k.1, Or.inl k.2⟩)
theorem top_eq {h : HS} (h1 : 1 ≤ (eI h 0 22).toInt) (h2 : (eI h 0 22).toInt ≤ 40) : f_X9_top h = some (eA h 0 23 ((eI h 0 22).toInt.toNat - 1), h) := by
  unfold f_X9_top
  have z1 : (1 : Int32).toInt = 1 := rfl
  have a := fb_subI (x := eI h 0 22) (y := 1) (by omega) (by omega)
  have b : (eI h 0 22 - 1).toNatClampNeg = (eI h 0 22).toInt.toNat - 1 := by rw [Int32.toNatClampNeg]; omega
  rw [if_pos (by omega), b]
def OF (h : HS) (f : Int32) : HS := sI (sA h 0 23 (upd (eA h 0 23) (eI h 0 22).toInt.toNat f)) 0 22 (eI h 0 22 + 1)
theorem of_eq {h : HS} {f : Int32} (h1 : 0 ≤ (eI h 0 22).toInt) (h2 : (eI h 0 22).toInt < 40) : f_X9_opensFrame h f = some (OF h f) := by
  unfold f_X9_opensFrame OF
  have b : (eI h 0 22).toNatClampNeg = (eI h 0 22).toInt.toNat := by rw [Int32.toNatClampNeg]
  rw [if_pos ⟨h1, h2⟩, b]
theorem PF_OF {h c : HS} {f : Int32} (n : PF h c) : PF h (OF c f) := PF_sI (PF_sA n (by omega)) (by omega)
theorem of_no {h : HS} (h1 : 0 ≤ (eI h 0 22).toInt) (h2 : (eI h 0 22).toInt < 40) : (eI h 0 22 + 1).toInt = (eI h 0 22).toInt + 1 := by
  have z1 : (1 : Int32).toInt = 1 := rfl
  rw [fb_addI (by omega) (by omega), z1]
theorem HK_OF {h : HS} {b : Int} {f : Int32} (k : HK h b) (h1 : 0 ≤ (eI h 0 22).toInt) (h2 : (eI h 0 22).toInt ≤ 9) : HK (OF h f) b := by
  obtain ⟨k1, k2, k3, k4, k5, k6, k7⟩ := k
  have e := of_no (h := h) h1 (by omega)
  show K0 (eI h 0 16).toInt (eI h 0 25).toInt (eI h 0 36).toInt (eI h 0 29).toInt (eI h 0 22 + 1).toInt b (upd (eA h 0 23) (eI h 0 22).toInt.toNat f) (eA h 0 26) (eA h 0 27) (eA h 0 31) (eA h 0 32) (eA h 0 37) (eA h 0 38)
  rw [e]
  refine ⟨k1, WT_fr k2 (fun i hi => ?_) (fun i hi => upd_no ?_), k3, k4, k5, k6, by omega⟩
  · have := (k2 i hi).2.1; omega
  · have q := k2 i hi
    have := rk_lo (eA h 0 26 i)
    omega
/-! a value is over: the open - are worked -/
theorem u_oneIsOver_0 {h : HS} : ∀ (n : Nat) (c : HS) (r : Int), PF h c → HB c → P2 c r → (eI c 0 22).toInt < n → ok (f_X9_oneIsOver_0 n c) (fun a => PF h a ∧ HB a ∧ eI a 0 28 = 2 ∧ ¬ eA a 0 23 ((eI a 0 22).toInt.toNat - 1) = 7 ∧ (∃ r, P2 a r) ∧ eI a 0 16 = eI c 0 16) := by
  intro n
  induction n with
  | zero => intro c r f b p hm; have := OPS_r p.1; exact absurd hm (by omega)
  | succ n ih =>
    intro c r f b p hm
    rw [f_X9_oneIsOver_0_s]
    obtain ⟨hf, k, hc, n23⟩ := p
    have o := OPS_r hf
    rw [top_eq (h := c) o.2.2.1 (by have := b.2.2.1; omega)]
    show ok (if eA c 0 23 ((eI c 0 22).toInt.toNat - 1) = 7 then _ else _) _
    have z1 : (1 : Int32).toInt = 1 := rfl
    refine ok_if (fun c7 => ?_) (fun c7 => ok_some ⟨PF_sI f (by omega), b, rfl, c7, ⟨r, hf, k, hc, n23⟩, rfl⟩)
    have w40 := WT_le k.2.1 k.2.2.2.2.2.2
    have w0 := k.1
    have hb := b.2.2.1
    have a22 := fb_subI (x := eI c 0 22) (y := 1) (by omega) (by omega)
    have a21 := fb_subI (x := eI c 0 21) (y := 1) (by omega) (by omega)
    have nc : OPS ((eI c 0 22).toInt - 1) ((eI c 0 21).toInt - 1) r (eA c 0 23) (eA c 0 24) := by
      obtain ⟨q, h1, h2, h3⟩ := hf
      have hq : ¬ q = (eI c 0 22).toInt.toNat - 1 := by
        intro e
        rw [← e] at c7
        rcases h3 with ⟨e0, e1, _⟩ | ⟨_, _, _, _, e1⟩
        · subst e0; rw [e1] at c7; exact absurd c7 (by decide)
        · rcases e1 with e1 | e1 <;> (rw [e1.1] at c7; exact absurd c7 (by decide))
      refine ⟨q, by omega, fun i hi hi2 => h2 i hi (by omega), ?_⟩
      rcases h3 with ⟨a, b, d, e⟩ | ⟨a, b, d, e, g⟩
      · exact Or.inl ⟨a, b, by omega, e⟩
      · exact Or.inr ⟨a, b, d, by omega, g⟩
    have o2 := OPS_r nc
    have k2 : HK (sI (sI c 0 22 (eI c 0 22 - 1)) 0 21 (eI c 0 21 - 1)) ((eI c 0 21).toInt - 1 + r + 1) := by
      obtain ⟨k1, k2, k3, k4, k5, k6, k7⟩ := k
      show K0 (eI c 0 16).toInt (eI c 0 25).toInt (eI c 0 36).toInt (eI c 0 29).toInt (eI c 0 22 - 1).toInt ((eI c 0 21).toInt - 1 + r + 1) (eA c 0 23) (eA c 0 26) (eA c 0 27) (eA c 0 31) (eA c 0 32) (eA c 0 37) (eA c 0 38)
      rw [a22, z1]
      refine ⟨k1, WT_fr k2 (fun i hi => ?_) (fun i hi => rfl), k3, by omega, k5, k6, by omega⟩
      obtain ⟨_, q1, q2, _, _, q7, _⟩ := k2 i hi
      apply Int.not_lt.mp
      intro cc
      have : (eA c 0 27 i).toInt = (eI c 0 22).toInt := by omega
      rw [this] at q7
      exact q7 c7
    have em := em_eq (h := sI (sI c 0 22 (eI c 0 22 - 1)) 0 21 (eI c 0 21 - 1)) (o := 402) (v := 0) (show 0 ≤ (eI c 0 36).toInt from k.2.2.1) (show (eI c 0 36).toInt < 400 by have := k.2.2.2; omega)
    rw [em]
    show ok (f_X9_oneIsOver_0 n (EM (sI (sI c 0 22 (eI c 0 22 - 1)) 0 21 (eI c 0 21 - 1)) 402 0)) _
    have st : ST 402 0 ((eI c 0 25).toInt + (r + 1)) ((eI c 0 25).toInt + (r + 1)) := Or.inr (Or.inl ⟨Or.inl rfl, by omega, by omega, rfl⟩)
    have ob : (eI c 0 21 - 1).toInt = (eI c 0 21).toInt - 1 := by omega
    refine ih _ r (PF_EM (PF_sI (PF_sI f (by omega)) (by omega))) ⟨b.1, b.2.1, ?_, b.2.2.2⟩ ⟨?_, ?_, ?_, n23⟩ ?_
    · show 0 ≤ (eI c 0 21 - 1).toInt ∧ (eI c 0 21 - 1).toInt ≤ 8
      rw [ob]; omega
    · show OPS (eI c 0 22 - 1).toInt (eI c 0 21 - 1).toInt r (eA c 0 23) (eA c 0 24)
      rw [ob, a22, z1]; exact nc
    · have := HK_em (o := 402) (v := 0) k2 (by omega)
      show HK _ ((eI c 0 21 - 1).toInt + r)
      rw [ob]; exact this
    · exact HC_em (h := sI (sI c 0 22 (eI c 0 22 - 1)) 0 21 (eI c 0 21 - 1)) k2 (by omega) hc st
    · show (eI c 0 22 - 1).toInt < n
      rw [a22, z1]; omega
theorem u_oneIsOver {h : HS} (c : HS) (r : Int) (f : PF h c) (b : HB c) (p : P2 c r) : ok (f_X9_oneIsOver c) (fun a => PF h a ∧ HB a ∧ eI a 0 28 = 2 ∧ ¬ eA a 0 23 ((eI a 0 22).toInt.toNat - 1) = 7 ∧ (∃ r, P2 a r) ∧ eI a 0 16 = eI c 0 16) := by
  unfold f_X9_oneIsOver
  have o := OPS_r p.1
  have := b.2.2.1
  exact u_oneIsOver_0 _ c r f b p (by omega)
theorem u_askIsOver_0 {h : HS} : ∀ (n : Nat) (c : HS), PF h c → HB c → HN c → HK c (eI c 0 21).toInt → HC c 1 → (eI c 0 29).toInt ≤ 23 → (eI c 0 22).toInt < n → ok (f_X9_askIsOver_0 n c) (fun a => PF h a ∧ HB a ∧ eI a 0 28 = 3 ∧ P3 a ∧ eI a 0 16 = eI c 0 16) := by
  intro n
  induction n with
  | zero => intro c f b hn k hc n23 hm; exact absurd hm (by have := hn.1; omega)
  | succ n ih =>
    intro c f b hn k hc n23 hm
    rw [f_X9_askIsOver_0_s]
    obtain ⟨n1, n2, n3, n4⟩ := hn
    have hb := b.2.2.1
    rw [top_eq (h := c) n1 (by omega)]
    show ok (if eA c 0 23 ((eI c 0 22).toInt.toNat - 1) = 3 then _ else _) _
    have z1 : (1 : Int32).toInt = 1 := rfl
    refine ok_if (fun c7 => ?_) (fun c7 => ?_)
    · have f2 : 2 ≤ (eI c 0 22).toInt := by
        apply Int.not_lt.mp
        intro q
        have e : (eI c 0 22).toInt.toNat - 1 = 0 := by omega
        rw [e, n3] at c7
        exact absurd c7 (by decide)
      have w40 := WT_le k.2.1 k.2.2.2.2.2.2
      have w0 := k.1
      have a22 := fb_subI (x := eI c 0 22) (y := 1) (by omega) (by omega)
      have a21 := fb_subI (x := eI c 0 21) (y := 1) (by omega) (by omega)
      have k2 : HK (sI (sI c 0 22 (eI c 0 22 - 1)) 0 21 (eI c 0 21 - 1)) ((eI c 0 21).toInt - 1 + 1) := by
        obtain ⟨k1, k2, k3, k4, k5, k6, k7⟩ := k
        show K0 (eI c 0 16).toInt (eI c 0 25).toInt (eI c 0 36).toInt (eI c 0 29).toInt (eI c 0 22 - 1).toInt ((eI c 0 21).toInt - 1 + 1) (eA c 0 23) (eA c 0 26) (eA c 0 27) (eA c 0 31) (eA c 0 32) (eA c 0 37) (eA c 0 38)
        rw [a22, z1]
        refine ⟨k1, WT_fr k2 (fun i hi => ?_) (fun i hi => rfl), k3, by omega, k5, k6, by omega⟩
        obtain ⟨_, q1, q2, _, q3, _, _⟩ := k2 i hi
        apply Int.not_lt.mp
        intro cc
        have : (eA c 0 27 i).toInt = (eI c 0 22).toInt := by omega
        rw [this] at q3
        exact q3 c7
      have em := em_eq (h := sI (sI c 0 22 (eI c 0 22 - 1)) 0 21 (eI c 0 21 - 1)) (o := 405) (v := 0) (show 0 ≤ (eI c 0 36).toInt from k.2.2.1) (show (eI c 0 36).toInt < 400 by have := k.2.2.2; omega)
      rw [em]
      show ok (f_X9_askIsOver_0 n (EM (sI (sI c 0 22 (eI c 0 22 - 1)) 0 21 (eI c 0 21 - 1)) 405 0)) _
      have st : ST 405 0 ((eI c 0 25).toInt + 1) ((eI c 0 25).toInt + 1) := Or.inr (Or.inl ⟨Or.inr rfl, by omega, by omega, rfl⟩)
      have ob : (eI c 0 21 - 1).toInt = (eI c 0 21).toInt - 1 := by omega
      refine ih _ (PF_EM (PF_sI (PF_sI f (by omega)) (by omega))) ⟨b.1, b.2.1, ?_, b.2.2.2⟩ ?_ ?_ ?_ n23 ?_
      · show 0 ≤ (eI c 0 21 - 1).toInt ∧ (eI c 0 21 - 1).toInt ≤ 8
        rw [ob]; omega
      · show NOTS (eI c 0 22 - 1).toInt (eI c 0 21 - 1).toInt (eA c 0 23)
        rw [ob, a22, z1]
        exact ⟨by omega, by omega, n3, fun i h1 h2 => n4 i h1 (by omega)⟩
      · have := HK_em (o := 405) (v := 0) k2 (by omega)
        show HK _ (eI c 0 21 - 1).toInt
        rw [ob]; exact this
      · exact HC_em (h := sI (sI c 0 22 (eI c 0 22 - 1)) 0 21 (eI c 0 21 - 1)) k2 (by omega) hc st
      · show (eI c 0 22 - 1).toInt < n
        rw [a22, z1]; omega
    · have f1 : (eI c 0 22).toInt = 1 := by
        apply Int.le_antisymm _ n1
        apply Int.not_lt.mp
        intro q
        exact c7 (n4 ((eI c 0 22).toInt.toNat - 1) (by omega) (by omega))
      have o0 : (eI c 0 21).toInt = 0 := by omega
      rw [o0] at k
      exact ok_some ⟨PF_sI f (by omega), b, rfl, ⟨f1, o0, n3, k, hc, n23⟩, rfl⟩
theorem u_askIsOver {h : HS} (c : HS) (f : PF h c) (b : HB c) (hn : HN c) (k : HK c (eI c 0 21).toInt) (hc : HC c 1) (n23 : (eI c 0 29).toInt ≤ 23) : ok (f_X9_askIsOver c) (fun a => PF h a ∧ HB a ∧ eI a 0 28 = 3 ∧ P3 a ∧ eI a 0 16 = eI c 0 16) := by
  unfold f_X9_askIsOver
  have := b.2.2.1; have := hn.2.1
  exact u_askIsOver_0 _ c f b hn k hc n23 (by omega)
/-! next, over what the parser keeps -/
theorem u_nextB (h : HS) (b : HB h) : ok (f_X9_next h) (fun a => NX h a ∧ HB a ∧ (eI h 0 15).toInt ≤ (eI a 0 16).toInt) := by
  obtain ⟨b1, ⟨l1, l2, l3, l4, l5, l6⟩, b3, b4⟩ := b
  refine ok_mono (u_X9_next h ⟨by omega, l3, l4⟩) (fun a k => ⟨k.1, ⟨?_, k.2.1, ?_, ?_⟩, k.2.2⟩)
  · rw [k.1.1 19 (by omega)]; exact b1
  · rw [k.1.1 21 (by omega)]; exact b3
  · rw [k.1.1 29 (by omega)]; exact b4
theorem HK_next {h c : HS} {b : Int} (k : HK h b) (bh : HB h) (x : NX h c) (bc : HB c) (t : (eI h 0 15).toInt ≤ (eI c 0 16).toInt) (s : ¬ eI h 0 17 = 0) : HK c (b + 1) ∧ (eI h 0 16).toInt + 1 ≤ (eI c 0 16).toInt := by
  have l := bh.2.1
  have t1 := l.2.2.2.2.1 s
  obtain ⟨m1, m2, m3, m4, _⟩ := bc.2.1
  exact ⟨HK_NX k x (by omega) (by omega), by omega⟩
