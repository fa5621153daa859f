theorem u_X9_answer (h : HS) (p1 : Int32) (hI : IM h) : ok (f_X9_answer h p1) (fun a => SM h a.2 ∧ True) := by
  unfold f_X9_answer
  refine ok_ob2 (u_X9_led h p1 0 ((SM_refl hI)).1) (fun r1 h1 k1 => ?_)
  have s1 : SM h h1 := SM_trans (b := h) (SM_refl hI) k1.1
  refine ok_if (fun c2 => ?_) (fun c2 => ?_)
  · unfold f_X9_answer_40
    exact ok_some ⟨s1, trivial⟩
  · refine ok_ob2 (u_X9_ofGoose h1 r1 7 (s1).1 (by have : ((r1).toInt = -1 ∨ (0 ≤ (r1).toInt ∧ (r1).toInt ≤ 9)) := k1.2; have := gi_of_ne c2; have : ((-1) : Int32).toInt = -1 := rfl; have := fb_rng (r1); omega) (by have : ((r1).toInt = -1 ∨ (0 ≤ (r1).toInt ∧ (r1).toInt ≤ 9)) := k1.2; have : (7 : Int32).toInt = 7 := rfl; omega)) (fun r3 h3 k3 => ?_)
    have e3 : h1 = h3 := k3.1.symm
    subst e3
    refine ok_ob2 (u_X9_ofGoose h1 r1 5 (s1).1 (by have : ((r1).toInt = -1 ∨ (0 ≤ (r1).toInt ∧ (r1).toInt ≤ 9)) := k1.2; have := gi_of_ne c2; have : ((-1) : Int32).toInt = -1 := rfl; have := fb_rng (r1); omega) (by have : ((r1).toInt = -1 ∨ (0 ≤ (r1).toInt ∧ (r1).toInt ≤ 9)) := k1.2; have : (5 : Int32).toInt = 5 := rfl; omega)) (fun r4 h4 k4 => ?_)
    have e4 : h1 = h4 := k4.1.symm
    subst e4
    refine ok_chk (by have : ((r1).toInt = -1 ∨ (0 ≤ (r1).toInt ∧ (r1).toInt ≤ 9)) := k1.2; have : -1 ≤ r4.toInt ∧ r4.toInt ≤ 3 := k4.2.2.2 rfl; have : (10 : Int32).toInt = 10 := rfl; have : (3 : Int32).toInt = 3 := rfl; have := fb_rng (r4); (try have := fb_mulJ (x := 3) (y := r4) (k := 3) rfl (by omega) (by omega)); (try have := fb_addI (x := 10) (y := (3 * r4)) (by omega) (by omega)); omega) ?_
    unfold f_X9_answer_40
    exact ok_some ⟨s1, trivial⟩
theorem u_X9_plucks_12 {h0 : HS} (x1 : Int32) : ∀ (n : Nat) (h : HS) (x2 : Int32), SM h0 h → 0 ≤ x2.toInt → (0 ≤ x1.toInt ∧ x1.toInt ≤ 9) → 0 < n → (100 - (x2).toInt : Int) < (n : Int) → ok (f_X9_plucks_12  n h x1 x2) (fun a => SM h0 a.2 ∧ True) := by
  intro n
  induction n with
  | zero =>
    intro h x2 hSC i0 i1 hn hm
    exact absurd hn (by decide)
  | succ n ih_X9_plucks_12 =>
    intro h x2 hSC i0 i1 hn hm
    rw [f_X9_plucks_12_s]
    refine ok_ob2 (u_X9_ofGoose h x1 1 (hSC).1 (by have := i0; have := i1; have := hm; have := fb_rng (x1); omega) (by have := i0; have := i1; have := hm; have : (1 : Int32).toInt = 1 := rfl; omega)) (fun r1 h1 k1 => ?_)
    have e1 : h = h1 := k1.1.symm
    subst e1
    refine ok_if (fun c2 => ?_) (fun c2 => ?_)
    · exact ok_some ⟨hSC, trivial⟩
    · refine ok_ob2 (u_X9_ofGoose h x1 2 (hSC).1 (by have := i0; have := i1; have := hm; have : 0 ≤ r1.toInt ∧ r1.toInt ≤ 99 := k1.2.1 rfl; have := fb_rng (x1); omega) (by have := i0; have := i1; have := hm; have : 0 ≤ r1.toInt ∧ r1.toInt ≤ 99 := k1.2.1 rfl; have : (2 : Int32).toInt = 2 := rfl; omega)) (fun r3 h3 k3 => ?_)
      have e3 : h = h3 := k3.1.symm
      subst e3
      refine ok_ob2 (u_X9_ofGoose h x1 3 (hSC).1 (by have := i0; have := i1; have := hm; have : 0 ≤ r1.toInt ∧ r1.toInt ≤ 99 := k1.2.1 rfl; have := fb_rng (x1); omega) (by have := i0; have := i1; have := hm; have : 0 ≤ r1.toInt ∧ r1.toInt ≤ 99 := k1.2.1 rfl; have : (3 : Int32).toInt = 3 := rfl; omega)) (fun r4 h4 k4 => ?_)
      have e4 : h = h4 := k4.1.symm
      subst e4
      refine ok_ob2 (u_X9_ofGoose h x1 1 (hSC).1 (by have := i0; have := i1; have := hm; have : 0 ≤ r1.toInt ∧ r1.toInt ≤ 99 := k1.2.1 rfl; have : -1 ≤ r4.toInt ∧ r4.toInt ≤ 2 := k4.2.2.1 rfl; have := fb_rng (x1); omega) (by have := i0; have := i1; have := hm; have : 0 ≤ r1.toInt ∧ r1.toInt ≤ 99 := k1.2.1 rfl; have : -1 ≤ r4.toInt ∧ r4.toInt ≤ 2 := k4.2.2.1 rfl; have : (1 : Int32).toInt = 1 := rfl; omega)) (fun r5 h5 k5 => ?_)
      have e5 : h = h5 := k5.1.symm
      subst e5
      refine ok_ob2 (u_X9_isTrueBy h x1 r3 r4 (r5 - x2) (hSC).1 (by have := i0; have := i1; have := hm; have : 0 ≤ r1.toInt ∧ r1.toInt ≤ 99 := k1.2.1 rfl; have : -1 ≤ r4.toInt ∧ r4.toInt ≤ 2 := k4.2.2.1 rfl; have : 0 ≤ r5.toInt ∧ r5.toInt ≤ 99 := k5.2.1 rfl; have := fb_rng (x1); omega)) (fun r6 h6 k6 => ?_)
      have s6 : SM h0 h6 := SM_trans (b := h) hSC k6.1
      refine ok_if (fun c7 => ?_) (fun c7 => ?_)
      · exact ih_X9_plucks_12 h6 (x2 + 1) s6 (by have := i0; have := i1; have := hm; have : 0 ≤ r1.toInt ∧ r1.toInt ≤ 99 := k1.2.1 rfl; have : -1 ≤ r4.toInt ∧ r4.toInt ≤ 2 := k4.2.2.1 rfl; have : 0 ≤ r5.toInt ∧ r5.toInt ≤ 99 := k5.2.1 rfl; have := gi_of_nlt c2; have : (1 : Int32).toInt = 1 := rfl; have := fb_rng (r1); have := fb_rng (x2); (try have := fb_addI (x := x2) (y := 1) (by omega) (by omega)); omega) (by have := i0; have := i1; have := hm; have : 0 ≤ r1.toInt ∧ r1.toInt ≤ 99 := k1.2.1 rfl; have : -1 ≤ r4.toInt ∧ r4.toInt ≤ 2 := k4.2.2.1 rfl; have : 0 ≤ r5.toInt ∧ r5.toInt ≤ 99 := k5.2.1 rfl; have := fb_rng (x1); omega) (by have := i0; have := i1; have := hm; have : 0 ≤ r1.toInt ∧ r1.toInt ≤ 99 := k1.2.1 rfl; have : -1 ≤ r4.toInt ∧ r4.toInt ≤ 2 := k4.2.2.1 rfl; have : 0 ≤ r5.toInt ∧ r5.toInt ≤ 99 := k5.2.1 rfl; have := gi_of_nlt c2; have : (1 : Int32).toInt = 1 := rfl; have := fb_rng (r1); have := fb_rng (x2); (try have := fb_addI (x := x2) (y := 1) (by omega) (by omega)); omega) (by have := i0; have := i1; have := hm; have : 0 ≤ r1.toInt ∧ r1.toInt ≤ 99 := k1.2.1 rfl; have : -1 ≤ r4.toInt ∧ r4.toInt ≤ 2 := k4.2.2.1 rfl; have : 0 ≤ r5.toInt ∧ r5.toInt ≤ 99 := k5.2.1 rfl; have := gi_of_nlt c2; have : (1 : Int32).toInt = 1 := rfl; have := fb_rng (r1); have := fb_rng (x2); (try have := fb_addI (x := x2) (y := 1) (by omega) (by omega)); omega)
      · exact ok_some ⟨s6, trivial⟩
theorem u_X9_plucks (h : HS) (p1 : Int32) (hI : IM h) : ok (f_X9_plucks h p1) (fun a => SM h a.2 ∧ True) := by
  unfold f_X9_plucks
  refine ok_ob2 (u_X9_isGoose h p1 ((SM_refl hI)).1) (fun r1 h1 k1 => ?_)
  have e1 : h = h1 := k1.1.symm
  subst e1
  refine ok_if (fun c2 => ?_) (fun c2 => ?_)
  · exact ok_some ⟨(SM_refl hI), trivial⟩
  · exact u_X9_plucks_12 (h0 := h) p1 8589934592 h 0 (SM_refl hI) (by have := IM_n (SM_refl hI).1; have : ((r1).toInt = 0 ∨ (0 ≤ p1.toInt ∧ p1.toInt < ((eA h 0 0) 1).toInt)) := k1.2.2; have : (0 : Int32).toInt = 0 := rfl; omega) (by have := IM_n (SM_refl hI).1; have : ((r1).toInt = 0 ∨ (0 ≤ p1.toInt ∧ p1.toInt < ((eA h 0 0) 1).toInt)) := k1.2.2; have := gi_of_ne c2; have : (0 : Int32).toInt = 0 := rfl; have := fb_rng (r1); have := fb_rng (p1); omega) (by decide) (by have := IM_n (SM_refl hI).1; have : ((r1).toInt = 0 ∨ (0 ≤ p1.toInt ∧ p1.toInt < ((eA h 0 0) 1).toInt)) := k1.2.2; have : (0 : Int32).toInt = 0 := rfl; omega)
theorem u_X9_startsMany_2 {h0 : HS} (x1 : Int32) (x2 : Int32) : ∀ (n : Nat) (h : HS) (x3 : Int32), SM h0 h → 0 ≤ x3.toInt → 0 < n → (16 - (x3).toInt : Int) < (n : Int) → ok (f_X9_startsMany_2  n h x1 x2 x3) (fun a => SM h0 a ∧ True) := by
  intro n
  induction n with
  | zero =>
    intro h x3 hSC i0 hn hm
    exact absurd hn (by decide)
  | succ n ih_X9_startsMany_2 =>
    intro h x3 hSC i0 hn hm
    rw [f_X9_startsMany_2_s]
    refine ok_if (fun c1 => ?_) (fun c1 => ?_)
    · exact ok_some ⟨hSC, trivial⟩
    · refine ok_if (fun c2 => ?_) (fun c2 => ?_)
      · unfold f_X9_startsMany_27
        refine ok_chk (by have := i0; have := hm; have := gi_of_nle c1; have := gi_of_eq c2; have : (16 : Int32).toInt = 16 := rfl; have : (4 : Int32).toInt = 4 := rfl; have := fb_rng (x3); have := fb_rng (x1); have := fb_rng (x2); (try have := fb_mulJ (x := 4) (y := x2) (k := 4) rfl (by omega) (by omega)); (try have := fb_addI (x := x1) (y := (4 * x2)) (by omega) (by omega)); omega) ?_
        exact ih_X9_startsMany_2 (sJ h 0 41 (vp_updL (eJ h 0 41) ((x3).toNatClampNeg) 1)) (x3 + 1) hSC (by have := i0; have := hm; have := gi_of_nle c1; have := gi_of_eq c2; have : (1 : Int32).toInt = 1 := rfl; have : (16 : Int32).toInt = 16 := rfl; have : (4 : Int32).toInt = 4 := rfl; have := fb_rng (x3); have := fb_rng (x1); have := fb_rng (x2); (try have := fb_mulJ (x := 4) (y := x2) (k := 4) rfl (by omega) (by omega)); (try have := fb_addI (x := x1) (y := (4 * x2)) (by omega) (by omega)); (try have := fb_addI (x := x3) (y := 1) (by omega) (by omega)); omega) (by have := i0; have := hm; have := gi_of_nle c1; have := gi_of_eq c2; have : (1 : Int32).toInt = 1 := rfl; have : (16 : Int32).toInt = 16 := rfl; have : (4 : Int32).toInt = 4 := rfl; have := fb_rng (x3); have := fb_rng (x1); have := fb_rng (x2); (try have := fb_mulJ (x := 4) (y := x2) (k := 4) rfl (by omega) (by omega)); (try have := fb_addI (x := x1) (y := (4 * x2)) (by omega) (by omega)); (try have := fb_addI (x := x3) (y := 1) (by omega) (by omega)); omega) (by have := i0; have := hm; have := gi_of_nle c1; have := gi_of_eq c2; have : (1 : Int32).toInt = 1 := rfl; have : (16 : Int32).toInt = 16 := rfl; have : (4 : Int32).toInt = 4 := rfl; have := fb_rng (x3); have := fb_rng (x1); have := fb_rng (x2); (try have := fb_mulJ (x := 4) (y := x2) (k := 4) rfl (by omega) (by omega)); (try have := fb_addI (x := x1) (y := (4 * x2)) (by omega) (by omega)); (try have := fb_addI (x := x3) (y := 1) (by omega) (by omega)); omega)
      · unfold f_X9_startsMany_27
        refine ok_chk (by have := i0; have := hm; have := gi_of_nle c1; have := gi_of_ne c2; have : (16 : Int32).toInt = 16 := rfl; have : (4 : Int32).toInt = 4 := rfl; have := fb_rng (x3); have := fb_rng (x1); have := fb_rng (x2); (try have := fb_mulJ (x := 4) (y := x2) (k := 4) rfl (by omega) (by omega)); (try have := fb_addI (x := x1) (y := (4 * x2)) (by omega) (by omega)); omega) ?_
        exact ih_X9_startsMany_2 (sJ h 0 41 (vp_updL (eJ h 0 41) ((x3).toNatClampNeg) 0)) (x3 + 1) hSC (by have := i0; have := hm; have := gi_of_nle c1; have := gi_of_ne c2; have : (1 : Int32).toInt = 1 := rfl; have : (16 : Int32).toInt = 16 := rfl; have : (4 : Int32).toInt = 4 := rfl; have := fb_rng (x3); have := fb_rng (x1); have := fb_rng (x2); (try have := fb_mulJ (x := 4) (y := x2) (k := 4) rfl (by omega) (by omega)); (try have := fb_addI (x := x1) (y := (4 * x2)) (by omega) (by omega)); (try have := fb_addI (x := x3) (y := 1) (by omega) (by omega)); omega) (by have := i0; have := hm; have := gi_of_nle c1; have := gi_of_ne c2; have : (1 : Int32).toInt = 1 := rfl; have : (16 : Int32).toInt = 16 := rfl; have : (4 : Int32).toInt = 4 := rfl; have := fb_rng (x3); have := fb_rng (x1); have := fb_rng (x2); (try have := fb_mulJ (x := 4) (y := x2) (k := 4) rfl (by omega) (by omega)); (try have := fb_addI (x := x1) (y := (4 * x2)) (by omega) (by omega)); (try have := fb_addI (x := x3) (y := 1) (by omega) (by omega)); omega) (by have := i0; have := hm; have := gi_of_nle c1; have := gi_of_ne c2; have : (1 : Int32).toInt = 1 := rfl; have : (16 : Int32).toInt = 16 := rfl; have : (4 : Int32).toInt = 4 := rfl; have := fb_rng (x3); have := fb_rng (x1); have := fb_rng (x2); (try have := fb_mulJ (x := 4) (y := x2) (k := 4) rfl (by omega) (by omega)); (try have := fb_addI (x := x1) (y := (4 * x2)) (by omega) (by omega)); (try have := fb_addI (x := x3) (y := 1) (by omega) (by omega)); omega)
theorem u_X9_startsMany (h : HS) (p1 : Int32) (p2 : Int32) (hI : IM h) : ok (f_X9_startsMany h p1 p2) (fun a => SM h a ∧ True) := by
  unfold f_X9_startsMany
  exact u_X9_startsMany_2 (h0 := h) p1 p2 8589934592 h 0 (SM_refl hI) (by have : (0 : Int32).toInt = 0 := rfl; omega) (by decide) (by have : (0 : Int32).toInt = 0 := rfl; omega)
theorem u_X9_comesMany_164 {h0 : HS} : ∀ (n : Nat) (h : HS) (x5 : Int32), SM h0 h → 0 ≤ x5.toInt → 0 < n → (16 - (x5).toInt : Int) < (n : Int) → ok (f_X9_comesMany_164  n h x5) (fun a => SM h0 a ∧ True) := by
  intro n
  induction n with
  | zero =>
    intro h x5 hSC i0 hn hm
    exact absurd hn (by decide)
  | succ n ih_X9_comesMany_164 =>
    intro h x5 hSC i0 hn hm
    rw [f_X9_comesMany_164_s]
    refine ok_if (fun c1 => ?_) (fun c1 => ?_)
    · exact ok_some ⟨hSC, trivial⟩
    · refine ok_chk (by have := i0; have := hm; have := gi_of_nle c1; have : (16 : Int32).toInt = 16 := rfl; have := fb_rng (x5); omega) ?_
      refine ok_chk (by have := i0; have := hm; have := gi_of_nle c1; have : (16 : Int32).toInt = 16 := rfl; have := fb_rng (x5); omega) ?_
      exact ih_X9_comesMany_164 (sJ h 0 41 (vp_updL (eJ h 0 41) ((x5).toNatClampNeg) ((eJ h 0 42) ((x5).toNatClampNeg)))) (x5 + 1) hSC (by have := i0; have := hm; have := gi_of_nle c1; have : (1 : Int32).toInt = 1 := rfl; have : (16 : Int32).toInt = 16 := rfl; have := fb_rng (x5); (try have := fb_addI (x := x5) (y := 1) (by omega) (by omega)); omega) (by have := i0; have := hm; have := gi_of_nle c1; have : (1 : Int32).toInt = 1 := rfl; have : (16 : Int32).toInt = 16 := rfl; have := fb_rng (x5); (try have := fb_addI (x := x5) (y := 1) (by omega) (by omega)); omega) (by have := i0; have := hm; have := gi_of_nle c1; have : (1 : Int32).toInt = 1 := rfl; have : (16 : Int32).toInt = 16 := rfl; have := fb_rng (x5); (try have := fb_addI (x := x5) (y := 1) (by omega) (by omega)); omega)
theorem u_X9_comesMany_27 {h0 : HS} (x1 : Int32) (x2 : Int32) (x3 : Int32) (x4 : Int32) : ∀ (n : Nat) (h : HS) (x5 : Int32), SM h0 h → 0 ≤ x5.toInt → (0 ≤ x3.toInt ∧ x3.toInt ≤ 2) → 0 < n → (16 - (x5).toInt : Int) < (n : Int) → ok (f_X9_comesMany_27  n h x1 x2 x3 x4 x5) (fun a => SM h0 a ∧ True) := by
  intro n
  induction n with
  | zero =>
    intro h x5 hSC i0 i1 hn hm
    exact absurd hn (by decide)
  | succ n ih_X9_comesMany_27 =>
    intro h x5 hSC i0 i1 hn hm
    rw [f_X9_comesMany_27_s]
    refine ok_if (fun c1 => ?_) (fun c1 => ?_)
    · exact u_X9_comesMany_164 (h0 := h0) 8589934592 h 0 hSC (by have := i0; have := i1; have := hm; have : (0 : Int32).toInt = 0 := rfl; omega) (by decide) (by have := i0; have := i1; have := hm; have : (0 : Int32).toInt = 0 := rfl; omega)
    · refine ok_if (fun c2 => ?_) (fun c2 => ?_)
      · unfold f_X9_comesMany_51
        refine ok_ob1 (u_X9_halves x3) (fun r3 k3 => ?_)
        refine ok_chk (by have := i0; have := i1; have := hm; have : ((0 ≤ x3.toInt ∧ x3.toInt ≤ 2) → (0 ≤ (r3).toInt ∧ (r3).toInt ≤ 3)) := k3; have := gi_of_nle c1; have : (0 : Int32).toInt = 0 := rfl; have : (16 : Int32).toInt = 16 := rfl; have : (4 : Int32).toInt = 4 := rfl; have := fb_rng (x5); have := fb_divK (x := x5) (y := 4) (k := 4) rfl (by decide); (try have := fb_mulK (x := (x5 / 4)) (y := 4) (k := 4) rfl (by omega) (by omega)); (try have := fb_mulK (x := (x5 / 4)) (y := 4) (k := 4) rfl (by omega) (by omega)); (try have := fb_subI (x := x5) (y := (x5 / 4 * 4)) (by omega) (by omega)); (try have := fb_or2 (x := (x5 - x5 / 4 * 4)) (y := 0) (by omega) (by omega) (by omega) (by omega)); (try have := fb_or4 (x := (x5 - x5 / 4 * 4)) (y := 0) (by omega) (by omega) (by omega) (by omega)); (try have := fb_addI (x := ((x5 / 4) * 4)) (y := ((x5 - x5 / 4 * 4) ||| 0)) (by omega) (by omega)); omega) ?_
        refine ok_chk (by have := i0; have := i1; have := hm; have : ((0 ≤ x3.toInt ∧ x3.toInt ≤ 2) → (0 ≤ (r3).toInt ∧ (r3).toInt ≤ 3)) := k3; have := gi_of_nle c1; have : (16 : Int32).toInt = 16 := rfl; have := fb_rng (x5); omega) ?_
        refine ok_chk (by have := i0; have := i1; have := hm; have : ((0 ≤ x3.toInt ∧ x3.toInt ≤ 2) → (0 ≤ (r3).toInt ∧ (r3).toInt ≤ 3)) := k3; have := gi_of_nle c1; have : (0 : Int32).toInt = 0 := rfl; have : (16 : Int32).toInt = 16 := rfl; have : (4 : Int32).toInt = 4 := rfl; have := fb_rng (x5); have := fb_divK (x := x5) (y := 4) (k := 4) rfl (by decide); (try have := fb_mulK (x := (x5 / 4)) (y := 4) (k := 4) rfl (by omega) (by omega)); (try have := fb_mulK (x := (x5 / 4)) (y := 4) (k := 4) rfl (by omega) (by omega)); (try have := fb_subI (x := x5) (y := (x5 / 4 * 4)) (by omega) (by omega)); (try have := fb_or2 (x := (x5 - x5 / 4 * 4)) (y := 0) (by omega) (by omega) (by omega) (by omega)); (try have := fb_or4 (x := (x5 - x5 / 4 * 4)) (y := 0) (by omega) (by omega) (by omega) (by omega)); (try have := fb_addI (x := ((x5 / 4) * 4)) (y := ((x5 - x5 / 4 * 4) ||| 0)) (by omega) (by omega)); omega) ?_
        refine ok_chk (by have := i0; have := i1; have := hm; have : ((0 ≤ x3.toInt ∧ x3.toInt ≤ 2) → (0 ≤ (r3).toInt ∧ (r3).toInt ≤ 3)) := k3; have := gi_of_nle c1; have : (16 : Int32).toInt = 16 := rfl; have := fb_rng (x5); omega) ?_
        refine ok_chk (by have := i0; have := i1; have := hm; have : ((0 ≤ x3.toInt ∧ x3.toInt ≤ 2) → (0 ≤ (r3).toInt ∧ (r3).toInt ≤ 3)) := k3; have := gi_of_nle c1; have : (16 : Int32).toInt = 16 := rfl; have := fb_rng (x5); omega) ?_
        refine ok_chk (by have := i0; have := i1; have := hm; have : ((0 ≤ x3.toInt ∧ x3.toInt ≤ 2) → (0 ≤ (r3).toInt ∧ (r3).toInt ≤ 3)) := k3; have := gi_of_nle c1; have : (16 : Int32).toInt = 16 := rfl; have := fb_rng (x5); omega) ?_
        refine ok_chk (by have := i0; have := i1; have := hm; have : ((0 ≤ x3.toInt ∧ x3.toInt ≤ 2) → (0 ≤ (r3).toInt ∧ (r3).toInt ≤ 3)) := k3; have := gi_of_nle c1; have : (16 : Int32).toInt = 16 := rfl; have : (4 : Int32).toInt = 4 := rfl; have := fb_rng (x5); have := fb_divK (x := x5) (y := 4) (k := 4) rfl (by decide); have := fb_rng (r3); (try have := fb_or2 (x := (x5 / 4)) (y := r3) (by omega) (by omega) (by omega) (by omega)); (try have := fb_or4 (x := (x5 / 4)) (y := r3) (by omega) (by omega) (by omega) (by omega)); (try have := fb_mulJ (x := 4) (y := ((x5 / 4) ||| r3)) (k := 4) rfl (by omega) (by omega)); (try have := fb_mulK (x := (x5 / 4)) (y := 4) (k := 4) rfl (by omega) (by omega)); (try have := fb_subI (x := x5) (y := (x5 / 4 * 4)) (by omega) (by omega)); (try have := fb_addI (x := (4 * ((x5 / 4) ||| r3))) (y := (x5 - x5 / 4 * 4)) (by omega) (by omega)); omega) ?_
        refine ok_chk (by have := i0; have := i1; have := hm; have : ((0 ≤ x3.toInt ∧ x3.toInt ≤ 2) → (0 ≤ (r3).toInt ∧ (r3).toInt ≤ 3)) := k3; have := gi_of_nle c1; have : (16 : Int32).toInt = 16 := rfl; have := fb_rng (x5); omega) ?_
        refine ok_chk (by have := i0; have := i1; have := hm; have : ((0 ≤ x3.toInt ∧ x3.toInt ≤ 2) → (0 ≤ (r3).toInt ∧ (r3).toInt ≤ 3)) := k3; have := gi_of_nle c1; have : (16 : Int32).toInt = 16 := rfl; have : (4 : Int32).toInt = 4 := rfl; have := fb_rng (x5); have := fb_divK (x := x5) (y := 4) (k := 4) rfl (by decide); have := fb_rng (r3); (try have := fb_or2 (x := (x5 / 4)) (y := r3) (by omega) (by omega) (by omega) (by omega)); (try have := fb_or4 (x := (x5 / 4)) (y := r3) (by omega) (by omega) (by omega) (by omega)); (try have := fb_mulJ (x := 4) (y := ((x5 / 4) ||| r3)) (k := 4) rfl (by omega) (by omega)); (try have := fb_mulK (x := (x5 / 4)) (y := 4) (k := 4) rfl (by omega) (by omega)); (try have := fb_subI (x := x5) (y := (x5 / 4 * 4)) (by omega) (by omega)); (try have := fb_addI (x := (4 * ((x5 / 4) ||| r3))) (y := (x5 - x5 / 4 * 4)) (by omega) (by omega)); omega) ?_
        exact ih_X9_comesMany_27 (sJ (sJ (sJ h 0 42 (vp_updL (eJ h 0 42) (((((x5 / 4) * 4) + ((x5 - x5 / 4 * 4) ||| 0))).toNatClampNeg) (((eJ h 0 42) (((((x5 / 4) * 4) + ((x5 - x5 / 4 * 4) ||| 0))).toNatClampNeg)) + ((((eJ h 0 41) ((x5).toNatClampNeg)) * (((10 - x1)).toInt64)) * 10)))) 0 42 (vp_updL (vp_updL (eJ h 0 42) (((((x5 / 4) * 4) + ((x5 - x5 / 4 * 4) ||| 0))).toNatClampNeg) (((eJ h 0 42) (((((x5 / 4) * 4) + ((x5 - x5 / 4 * 4) ||| 0))).toNatClampNeg)) + ((((eJ h 0 41) ((x5).toNatClampNeg)) * (((10 - x1)).toInt64)) * 10))) ((x5).toNatClampNeg) (((vp_updL (eJ h 0 42) (((((x5 / 4) * 4) + ((x5 - x5 / 4 * 4) ||| 0))).toNatClampNeg) (((eJ h 0 42) (((((x5 / 4) * 4) + ((x5 - x5 / 4 * 4) ||| 0))).toNatClampNeg)) + ((((eJ h 0 41) ((x5).toNatClampNeg)) * (((10 - x1)).toInt64)) * 10))) ((x5).toNatClampNeg)) + ((((eJ h 0 41) ((x5).toNatClampNeg)) * ((x1).toInt64)) * (((10 - x2)).toInt64))))) 0 42 (vp_updL (vp_updL (vp_updL (eJ h 0 42) (((((x5 / 4) * 4) + ((x5 - x5 / 4 * 4) ||| 0))).toNatClampNeg) (((eJ h 0 42) (((((x5 / 4) * 4) + ((x5 - x5 / 4 * 4) ||| 0))).toNatClampNeg)) + ((((eJ h 0 41) ((x5).toNatClampNeg)) * (((10 - x1)).toInt64)) * 10))) ((x5).toNatClampNeg) (((vp_updL (eJ h 0 42) (((((x5 / 4) * 4) + ((x5 - x5 / 4 * 4) ||| 0))).toNatClampNeg) (((eJ h 0 42) (((((x5 / 4) * 4) + ((x5 - x5 / 4 * 4) ||| 0))).toNatClampNeg)) + ((((eJ h 0 41) ((x5).toNatClampNeg)) * (((10 - x1)).toInt64)) * 10))) ((x5).toNatClampNeg)) + ((((eJ h 0 41) ((x5).toNatClampNeg)) * ((x1).toInt64)) * (((10 - x2)).toInt64)))) ((((4 * ((x5 / 4) ||| r3)) + (x5 - x5 / 4 * 4))).toNatClampNeg) (((vp_updL (vp_updL (eJ h 0 42) (((((x5 / 4) * 4) + ((x5 - x5 / 4 * 4) ||| 0))).toNatClampNeg) (((eJ h 0 42) (((((x5 / 4) * 4) + ((x5 - x5 / 4 * 4) ||| 0))).toNatClampNeg)) + ((((eJ h 0 41) ((x5).toNatClampNeg)) * (((10 - x1)).toInt64)) * 10))) ((x5).toNatClampNeg) (((vp_updL (eJ h 0 42) (((((x5 / 4) * 4) + ((x5 - x5 / 4 * 4) ||| 0))).toNatClampNeg) (((eJ h 0 42) (((((x5 / 4) * 4) + ((x5 - x5 / 4 * 4) ||| 0))).toNatClampNeg)) + ((((eJ h 0 41) ((x5).toNatClampNeg)) * (((10 - x1)).toInt64)) * 10))) ((x5).toNatClampNeg)) + ((((eJ h 0 41) ((x5).toNatClampNeg)) * ((x1).toInt64)) * (((10 - x2)).toInt64)))) ((((4 * ((x5 / 4) ||| r3)) + (x5 - x5 / 4 * 4))).toNatClampNeg)) + ((((eJ h 0 41) ((x5).toNatClampNeg)) * ((x1).toInt64)) * ((x2).toInt64))))) (x5 + 1) hSC (by have := i0; have := i1; have := hm; have : ((0 ≤ x3.toInt ∧ x3.toInt ≤ 2) → (0 ≤ (r3).toInt ∧ (r3).toInt ≤ 3)) := k3; have := gi_of_nle c1; have : (1 : Int32).toInt = 1 := rfl; have : (16 : Int32).toInt = 16 := rfl; have := fb_rng (x5); (try have := fb_addI (x := x5) (y := 1) (by omega) (by omega)); omega) (by have := i0; have := i1; have := hm; have : ((0 ≤ x3.toInt ∧ x3.toInt ≤ 2) → (0 ≤ (r3).toInt ∧ (r3).toInt ≤ 3)) := k3; have := fb_rng (x3); omega) (by have := i0; have := i1; have := hm; have : ((0 ≤ x3.toInt ∧ x3.toInt ≤ 2) → (0 ≤ (r3).toInt ∧ (r3).toInt ≤ 3)) := k3; have := gi_of_nle c1; have : (1 : Int32).toInt = 1 := rfl; have : (16 : Int32).toInt = 16 := rfl; have := fb_rng (x5); (try have := fb_addI (x := x5) (y := 1) (by omega) (by omega)); omega) (by have := i0; have := i1; have := hm; have : ((0 ≤ x3.toInt ∧ x3.toInt ≤ 2) → (0 ≤ (r3).toInt ∧ (r3).toInt ≤ 3)) := k3; have := gi_of_nle c1; have : (1 : Int32).toInt = 1 := rfl; have : (16 : Int32).toInt = 16 := rfl; have := fb_rng (x5); (try have := fb_addI (x := x5) (y := 1) (by omega) (by omega)); omega)
      · refine ok_ob1 (u_X9_halves x3) (fun r13 k13 => ?_)
        unfold f_X9_comesMany_51
        refine ok_ob1 (u_X9_halves x3) (fun r14 k14 => ?_)
        refine ok_chk (by have := i0; have := i1; have := hm; have : ((0 ≤ x3.toInt ∧ x3.toInt ≤ 2) → (0 ≤ (r13).toInt ∧ (r13).toInt ≤ 3)) := k13; have : ((0 ≤ x3.toInt ∧ x3.toInt ≤ 2) → (0 ≤ (r14).toInt ∧ (r14).toInt ≤ 3)) := k14; have := gi_of_nle c1; have : (16 : Int32).toInt = 16 := rfl; have : (4 : Int32).toInt = 4 := rfl; have := fb_rng (x5); have := fb_divK (x := x5) (y := 4) (k := 4) rfl (by decide); (try have := fb_mulK (x := (x5 / 4)) (y := 4) (k := 4) rfl (by omega) (by omega)); (try have := fb_mulK (x := (x5 / 4)) (y := 4) (k := 4) rfl (by omega) (by omega)); (try have := fb_subI (x := x5) (y := (x5 / 4 * 4)) (by omega) (by omega)); have := fb_rng (r13); (try have := fb_or2 (x := (x5 - x5 / 4 * 4)) (y := r13) (by omega) (by omega) (by omega) (by omega)); (try have := fb_or4 (x := (x5 - x5 / 4 * 4)) (y := r13) (by omega) (by omega) (by omega) (by omega)); (try have := fb_addI (x := ((x5 / 4) * 4)) (y := ((x5 - x5 / 4 * 4) ||| r13)) (by omega) (by omega)); omega) ?_
        refine ok_chk (by have := i0; have := i1; have := hm; have : ((0 ≤ x3.toInt ∧ x3.toInt ≤ 2) → (0 ≤ (r13).toInt ∧ (r13).toInt ≤ 3)) := k13; have : ((0 ≤ x3.toInt ∧ x3.toInt ≤ 2) → (0 ≤ (r14).toInt ∧ (r14).toInt ≤ 3)) := k14; have := gi_of_nle c1; have : (16 : Int32).toInt = 16 := rfl; have := fb_rng (x5); omega) ?_
        refine ok_chk (by have := i0; have := i1; have := hm; have : ((0 ≤ x3.toInt ∧ x3.toInt ≤ 2) → (0 ≤ (r13).toInt ∧ (r13).toInt ≤ 3)) := k13; have : ((0 ≤ x3.toInt ∧ x3.toInt ≤ 2) → (0 ≤ (r14).toInt ∧ (r14).toInt ≤ 3)) := k14; have := gi_of_nle c1; have : (16 : Int32).toInt = 16 := rfl; have : (4 : Int32).toInt = 4 := rfl; have := fb_rng (x5); have := fb_divK (x := x5) (y := 4) (k := 4) rfl (by decide); (try have := fb_mulK (x := (x5 / 4)) (y := 4) (k := 4) rfl (by omega) (by omega)); (try have := fb_mulK (x := (x5 / 4)) (y := 4) (k := 4) rfl (by omega) (by omega)); (try have := fb_subI (x := x5) (y := (x5 / 4 * 4)) (by omega) (by omega)); have := fb_rng (r13); (try have := fb_or2 (x := (x5 - x5 / 4 * 4)) (y := r13) (by omega) (by omega) (by omega) (by omega)); (try have := fb_or4 (x := (x5 - x5 / 4 * 4)) (y := r13) (by omega) (by omega) (by omega) (by omega)); (try have := fb_addI (x := ((x5 / 4) * 4)) (y := ((x5 - x5 / 4 * 4) ||| r13)) (by omega) (by omega)); omega) ?_
        refine ok_chk (by have := i0; have := i1; have := hm; have : ((0 ≤ x3.toInt ∧ x3.toInt ≤ 2) → (0 ≤ (r13).toInt ∧ (r13).toInt ≤ 3)) := k13; have : ((0 ≤ x3.toInt ∧ x3.toInt ≤ 2) → (0 ≤ (r14).toInt ∧ (r14).toInt ≤ 3)) := k14; have := gi_of_nle c1; have : (16 : Int32).toInt = 16 := rfl; have := fb_rng (x5); omega) ?_
        refine ok_chk (by have := i0; have := i1; have := hm; have : ((0 ≤ x3.toInt ∧ x3.toInt ≤ 2) → (0 ≤ (r13).toInt ∧ (r13).toInt ≤ 3)) := k13; have : ((0 ≤ x3.toInt ∧ x3.toInt ≤ 2) → (0 ≤ (r14).toInt ∧ (r14).toInt ≤ 3)) := k14; have := gi_of_nle c1; have : (16 : Int32).toInt = 16 := rfl; have := fb_rng (x5); omega) ?_
        refine ok_chk (by have := i0; have := i1; have := hm; have : ((0 ≤ x3.toInt ∧ x3.toInt ≤ 2) → (0 ≤ (r13).toInt ∧ (r13).toInt ≤ 3)) := k13; have : ((0 ≤ x3.toInt ∧ x3.toInt ≤ 2) → (0 ≤ (r14).toInt ∧ (r14).toInt ≤ 3)) := k14; have := gi_of_nle c1; have : (16 : Int32).toInt = 16 := rfl; have := fb_rng (x5); omega) ?_
        refine ok_chk (by have := i0; have := i1; have := hm; have : ((0 ≤ x3.toInt ∧ x3.toInt ≤ 2) → (0 ≤ (r13).toInt ∧ (r13).toInt ≤ 3)) := k13; have : ((0 ≤ x3.toInt ∧ x3.toInt ≤ 2) → (0 ≤ (r14).toInt ∧ (r14).toInt ≤ 3)) := k14; have := gi_of_nle c1; have : (16 : Int32).toInt = 16 := rfl; have : (4 : Int32).toInt = 4 := rfl; have := fb_rng (x5); have := fb_divK (x := x5) (y := 4) (k := 4) rfl (by decide); have := fb_rng (r14); (try have := fb_or2 (x := (x5 / 4)) (y := r14) (by omega) (by omega) (by omega) (by omega)); (try have := fb_or4 (x := (x5 / 4)) (y := r14) (by omega) (by omega) (by omega) (by omega)); (try have := fb_mulJ (x := 4) (y := ((x5 / 4) ||| r14)) (k := 4) rfl (by omega) (by omega)); (try have := fb_mulK (x := (x5 / 4)) (y := 4) (k := 4) rfl (by omega) (by omega)); (try have := fb_subI (x := x5) (y := (x5 / 4 * 4)) (by omega) (by omega)); (try have := fb_addI (x := (4 * ((x5 / 4) ||| r14))) (y := (x5 - x5 / 4 * 4)) (by omega) (by omega)); omega) ?_
        refine ok_chk (by have := i0; have := i1; have := hm; have : ((0 ≤ x3.toInt ∧ x3.toInt ≤ 2) → (0 ≤ (r13).toInt ∧ (r13).toInt ≤ 3)) := k13; have : ((0 ≤ x3.toInt ∧ x3.toInt ≤ 2) → (0 ≤ (r14).toInt ∧ (r14).toInt ≤ 3)) := k14; have := gi_of_nle c1; have : (16 : Int32).toInt = 16 := rfl; have := fb_rng (x5); omega) ?_
        refine ok_chk (by have := i0; have := i1; have := hm; have : ((0 ≤ x3.toInt ∧ x3.toInt ≤ 2) → (0 ≤ (r13).toInt ∧ (r13).toInt ≤ 3)) := k13; have : ((0 ≤ x3.toInt ∧ x3.toInt ≤ 2) → (0 ≤ (r14).toInt ∧ (r14).toInt ≤ 3)) := k14; have := gi_of_nle c1; have : (16 : Int32).toInt = 16 := rfl; have : (4 : Int32).toInt = 4 := rfl; have := fb_rng (x5); have := fb_divK (x := x5) (y := 4) (k := 4) rfl (by decide); have := fb_rng (r14); (try have := fb_or2 (x := (x5 / 4)) (y := r14) (by omega) (by omega) (by omega) (by omega)); (try have := fb_or4 (x := (x5 / 4)) (y := r14) (by omega) (by omega) (by omega) (by omega)); (try have := fb_mulJ (x := 4) (y := ((x5 / 4) ||| r14)) (k := 4) rfl (by omega) (by omega)); (try have := fb_mulK (x := (x5 / 4)) (y := 4) (k := 4) rfl (by omega) (by omega)); (try have := fb_subI (x := x5) (y := (x5 / 4 * 4)) (by omega) (by omega)); (try have := fb_addI (x := (4 * ((x5 / 4) ||| r14))) (y := (x5 - x5 / 4 * 4)) (by omega) (by omega)); omega) ?_
        exact ih_X9_comesMany_27 (sJ (sJ (sJ h 0 42 (vp_updL (eJ h 0 42) (((((x5 / 4) * 4) + ((x5 - x5 / 4 * 4) ||| r13))).toNatClampNeg) (((eJ h 0 42) (((((x5 / 4) * 4) + ((x5 - x5 / 4 * 4) ||| r13))).toNatClampNeg)) + ((((eJ h 0 41) ((x5).toNatClampNeg)) * (((10 - x1)).toInt64)) * 10)))) 0 42 (vp_updL (vp_updL (eJ h 0 42) (((((x5 / 4) * 4) + ((x5 - x5 / 4 * 4) ||| r13))).toNatClampNeg) (((eJ h 0 42) (((((x5 / 4) * 4) + ((x5 - x5 / 4 * 4) ||| r13))).toNatClampNeg)) + ((((eJ h 0 41) ((x5).toNatClampNeg)) * (((10 - x1)).toInt64)) * 10))) ((x5).toNatClampNeg) (((vp_updL (eJ h 0 42) (((((x5 / 4) * 4) + ((x5 - x5 / 4 * 4) ||| r13))).toNatClampNeg) (((eJ h 0 42) (((((x5 / 4) * 4) + ((x5 - x5 / 4 * 4) ||| r13))).toNatClampNeg)) + ((((eJ h 0 41) ((x5).toNatClampNeg)) * (((10 - x1)).toInt64)) * 10))) ((x5).toNatClampNeg)) + ((((eJ h 0 41) ((x5).toNatClampNeg)) * ((x1).toInt64)) * (((10 - x2)).toInt64))))) 0 42 (vp_updL (vp_updL (vp_updL (eJ h 0 42) (((((x5 / 4) * 4) + ((x5 - x5 / 4 * 4) ||| r13))).toNatClampNeg) (((eJ h 0 42) (((((x5 / 4) * 4) + ((x5 - x5 / 4 * 4) ||| r13))).toNatClampNeg)) + ((((eJ h 0 41) ((x5).toNatClampNeg)) * (((10 - x1)).toInt64)) * 10))) ((x5).toNatClampNeg) (((vp_updL (eJ h 0 42) (((((x5 / 4) * 4) + ((x5 - x5 / 4 * 4) ||| r13))).toNatClampNeg) (((eJ h 0 42) (((((x5 / 4) * 4) + ((x5 - x5 / 4 * 4) ||| r13))).toNatClampNeg)) + ((((eJ h 0 41) ((x5).toNatClampNeg)) * (((10 - x1)).toInt64)) * 10))) ((x5).toNatClampNeg)) + ((((eJ h 0 41) ((x5).toNatClampNeg)) * ((x1).toInt64)) * (((10 - x2)).toInt64)))) ((((4 * ((x5 / 4) ||| r14)) + (x5 - x5 / 4 * 4))).toNatClampNeg) (((vp_updL (vp_updL (eJ h 0 42) (((((x5 / 4) * 4) + ((x5 - x5 / 4 * 4) ||| r13))).toNatClampNeg) (((eJ h 0 42) (((((x5 / 4) * 4) + ((x5 - x5 / 4 * 4) ||| r13))).toNatClampNeg)) + ((((eJ h 0 41) ((x5).toNatClampNeg)) * (((10 - x1)).toInt64)) * 10))) ((x5).toNatClampNeg) (((vp_updL (eJ h 0 42) (((((x5 / 4) * 4) + ((x5 - x5 / 4 * 4) ||| r13))).toNatClampNeg) (((eJ h 0 42) (((((x5 / 4) * 4) + ((x5 - x5 / 4 * 4) ||| r13))).toNatClampNeg)) + ((((eJ h 0 41) ((x5).toNatClampNeg)) * (((10 - x1)).toInt64)) * 10))) ((x5).toNatClampNeg)) + ((((eJ h 0 41) ((x5).toNatClampNeg)) * ((x1).toInt64)) * (((10 - x2)).toInt64)))) ((((4 * ((x5 / 4) ||| r14)) + (x5 - x5 / 4 * 4))).toNatClampNeg)) + ((((eJ h 0 41) ((x5).toNatClampNeg)) * ((x1).toInt64)) * ((x2).toInt64))))) (x5 + 1) hSC (by have := i0; have := i1; have := hm; have : ((0 ≤ x3.toInt ∧ x3.toInt ≤ 2) → (0 ≤ (r13).toInt ∧ (r13).toInt ≤ 3)) := k13; have : ((0 ≤ x3.toInt ∧ x3.toInt ≤ 2) → (0 ≤ (r14).toInt ∧ (r14).toInt ≤ 3)) := k14; have := gi_of_nle c1; have : (1 : Int32).toInt = 1 := rfl; have : (16 : Int32).toInt = 16 := rfl; have := fb_rng (x5); (try have := fb_addI (x := x5) (y := 1) (by omega) (by omega)); omega) (by have := i0; have := i1; have := hm; have : ((0 ≤ x3.toInt ∧ x3.toInt ≤ 2) → (0 ≤ (r13).toInt ∧ (r13).toInt ≤ 3)) := k13; have : ((0 ≤ x3.toInt ∧ x3.toInt ≤ 2) → (0 ≤ (r14).toInt ∧ (r14).toInt ≤ 3)) := k14; have := fb_rng (x3); omega) (by have := i0; have := i1; have := hm; have : ((0 ≤ x3.toInt ∧ x3.toInt ≤ 2) → (0 ≤ (r13).toInt ∧ (r13).toInt ≤ 3)) := k13; have : ((0 ≤ x3.toInt ∧ x3.toInt ≤ 2) → (0 ≤ (r14).toInt ∧ (r14).toInt ≤ 3)) := k14; have := gi_of_nle c1; have : (1 : Int32).toInt = 1 := rfl; have : (16 : Int32).toInt = 16 := rfl; have := fb_rng (x5); (try have := fb_addI (x := x5) (y := 1) (by omega) (by omega)); omega) (by have := i0; have := i1; have := hm; have : ((0 ≤ x3.toInt ∧ x3.toInt ≤ 2) → (0 ≤ (r13).toInt ∧ (r13).toInt ≤ 3)) := k13; have : ((0 ≤ x3.toInt ∧ x3.toInt ≤ 2) → (0 ≤ (r14).toInt ∧ (r14).toInt ≤ 3)) := k14; have := gi_of_nle c1; have : (1 : Int32).toInt = 1 := rfl; have : (16 : Int32).toInt = 16 := rfl; have := fb_rng (x5); (try have := fb_addI (x := x5) (y := 1) (by omega) (by omega)); omega)
theorem u_X9_comesMany_3 {h0 : HS} (x1 : Int32) (x2 : Int32) (x3 : Int32) (x4 : Int32) : ∀ (n : Nat) (h : HS) (x5 : Int32), SM h0 h → 0 ≤ x5.toInt → (0 ≤ x3.toInt ∧ x3.toInt ≤ 2) → 0 < n → (16 - (x5).toInt : Int) < (n : Int) → ok (f_X9_comesMany_3  n h x1 x2 x3 x4 x5) (fun a => SM h0 a ∧ True) := by
  intro n
  induction n with
  | zero =>
    intro h x5 hSC i0 i1 hn hm
    exact absurd hn (by decide)
  | succ n ih_X9_comesMany_3 =>
    intro h x5 hSC i0 i1 hn hm
    rw [f_X9_comesMany_3_s]
    refine ok_if (fun c1 => ?_) (fun c1 => ?_)
    · exact u_X9_comesMany_27 (h0 := h0) x1 x2 x3 x4 8589934592 h 0 hSC (by have := i0; have := i1; have := hm; have : (0 : Int32).toInt = 0 := rfl; omega) (by have := i0; have := i1; have := hm; have := fb_rng (x3); omega) (by decide) (by have := i0; have := i1; have := hm; have : (0 : Int32).toInt = 0 := rfl; omega)
    · refine ok_chk (by have := i0; have := i1; have := hm; have := gi_of_nle c1; have : (16 : Int32).toInt = 16 := rfl; have := fb_rng (x5); omega) ?_
      exact ih_X9_comesMany_3 (sJ h 0 42 (vp_updL (eJ h 0 42) ((x5).toNatClampNeg) 0)) (x5 + 1) hSC (by have := i0; have := i1; have := hm; have := gi_of_nle c1; have : (1 : Int32).toInt = 1 := rfl; have : (16 : Int32).toInt = 16 := rfl; have := fb_rng (x5); (try have := fb_addI (x := x5) (y := 1) (by omega) (by omega)); omega) (by have := i0; have := i1; have := hm; have := fb_rng (x3); omega) (by have := i0; have := i1; have := hm; have := gi_of_nle c1; have : (1 : Int32).toInt = 1 := rfl; have : (16 : Int32).toInt = 16 := rfl; have := fb_rng (x5); (try have := fb_addI (x := x5) (y := 1) (by omega) (by omega)); omega) (by have := i0; have := i1; have := hm; have := gi_of_nle c1; have : (1 : Int32).toInt = 1 := rfl; have : (16 : Int32).toInt = 16 := rfl; have := fb_rng (x5); (try have := fb_addI (x := x5) (y := 1) (by omega) (by omega)); omega)
theorem u_X9_comesMany (h : HS) (p1 : Int32) (p2 : Int32) (p3 : Int32) (p4 : Int32) (hI : IM h) (w0 : 0 ≤ p3.toInt ∧ p3.toInt ≤ 2) : ok (f_X9_comesMany h p1 p2 p3 p4) (fun a => SM h a ∧ True) := by
  unfold f_X9_comesMany
  exact u_X9_comesMany_3 (h0 := h) p1 p2 p3 p4 8589934592 h 0 (SM_refl hI) (by have := w0; have : (0 : Int32).toInt = 0 := rfl; omega) (by have := w0; have := fb_rng (p3); omega) (by decide) (by have := w0; have : (0 : Int32).toInt = 0 := rfl; omega)
theorem u_X9_manyOf_5 (h : HS) (x1 : Int32) (hI : IM h) : ∀ (n : Nat) (x2 : Int64) (x4 : Int32), 0 ≤ x4.toInt → 0 < n → (16 - (x4).toInt : Int) < (n : Int) → ok (f_X9_manyOf_5  n h x1 x2 x4) (fun a => a.2 = h ∧ True) := by
  intro n
  induction n with
  | zero =>
    intro x2 x4 i0 hn hm
    exact absurd hn (by decide)
  | succ n ih_X9_manyOf_5 =>
    intro x2 x4 i0 hn hm
    rw [f_X9_manyOf_5_s]
    refine ok_if (fun c1 => ?_) (fun c1 => ?_)
    · exact ok_some ⟨rfl, trivial⟩
    · refine ok_if (fun c2 => ?_) (fun c2 => ?_)
      · unfold f_X9_manyOf_25
        refine ok_if (fun c3 => ?_) (fun c3 => ?_)
        · unfold f_X9_manyOf_40
          refine ok_if (fun c4 => ?_) (fun c4 => ?_)
          · refine ok_if (fun c5 => ?_) (fun c5 => ?_)
            · unfold f_X9_manyOf_88
              unfold f_X9_manyOf_89
              exact ih_X9_manyOf_5 (x2 + 0) (x4 + 1) (by have := i0; have := hm; have := gi_of_nle c1; have := gi_of_eq c2; have := gi_of_eq c3; have := gi_of_eq c5; have : (0 : Int32).toInt = 0 := rfl; have : (1 : Int32).toInt = 1 := rfl; have : (16 : Int32).toInt = 16 := rfl; have : (3 : Int32).toInt = 3 := rfl; have : (4 : Int32).toInt = 4 := rfl; have := fb_rng (x4); have := fb_divK (x := x4) (y := 4) (k := 4) rfl (by decide); (try have := fb_mulK (x := (x4 / 4)) (y := 4) (k := 4) rfl (by omega) (by omega)); (try have := fb_subI (x := x4) (y := (x4 / 4 * 4)) (by omega) (by omega)); (try have := fb_addI (x := x4) (y := 1) (by omega) (by omega)); omega) (by have := i0; have := hm; have := gi_of_nle c1; have := gi_of_eq c2; have := gi_of_eq c3; have := gi_of_eq c5; have : (0 : Int32).toInt = 0 := rfl; have : (1 : Int32).toInt = 1 := rfl; have : (16 : Int32).toInt = 16 := rfl; have : (3 : Int32).toInt = 3 := rfl; have : (4 : Int32).toInt = 4 := rfl; have := fb_rng (x4); have := fb_divK (x := x4) (y := 4) (k := 4) rfl (by decide); (try have := fb_mulK (x := (x4 / 4)) (y := 4) (k := 4) rfl (by omega) (by omega)); (try have := fb_subI (x := x4) (y := (x4 / 4 * 4)) (by omega) (by omega)); (try have := fb_addI (x := x4) (y := 1) (by omega) (by omega)); omega) (by have := i0; have := hm; have := gi_of_nle c1; have := gi_of_eq c2; have := gi_of_eq c3; have := gi_of_eq c5; have : (0 : Int32).toInt = 0 := rfl; have : (1 : Int32).toInt = 1 := rfl; have : (16 : Int32).toInt = 16 := rfl; have : (3 : Int32).toInt = 3 := rfl; have : (4 : Int32).toInt = 4 := rfl; have := fb_rng (x4); have := fb_divK (x := x4) (y := 4) (k := 4) rfl (by decide); (try have := fb_mulK (x := (x4 / 4)) (y := 4) (k := 4) rfl (by omega) (by omega)); (try have := fb_subI (x := x4) (y := (x4 / 4 * 4)) (by omega) (by omega)); (try have := fb_addI (x := x4) (y := 1) (by omega) (by omega)); omega)
            · unfold f_X9_manyOf_78
              refine ok_chk (by have := i0; have := hm; have := gi_of_nle c1; have := gi_of_eq c2; have := gi_of_eq c3; have := gi_of_ne c5; have : (0 : Int32).toInt = 0 := rfl; have : (1 : Int32).toInt = 1 := rfl; have : (16 : Int32).toInt = 16 := rfl; have : (3 : Int32).toInt = 3 := rfl; have : (4 : Int32).toInt = 4 := rfl; have := fb_rng (x4); have := fb_divK (x := x4) (y := 4) (k := 4) rfl (by decide); (try have := fb_mulK (x := (x4 / 4)) (y := 4) (k := 4) rfl (by omega) (by omega)); (try have := fb_subI (x := x4) (y := (x4 / 4 * 4)) (by omega) (by omega)); omega) ?_
              unfold f_X9_manyOf_89
              exact ih_X9_manyOf_5 (x2 + ((eJ h 0 41) ((x4).toNatClampNeg))) (x4 + 1) (by have := i0; have := hm; have := gi_of_nle c1; have := gi_of_eq c2; have := gi_of_eq c3; have := gi_of_ne c5; have : (0 : Int32).toInt = 0 := rfl; have : (1 : Int32).toInt = 1 := rfl; have : (16 : Int32).toInt = 16 := rfl; have : (3 : Int32).toInt = 3 := rfl; have : (4 : Int32).toInt = 4 := rfl; have := fb_rng (x4); have := fb_divK (x := x4) (y := 4) (k := 4) rfl (by decide); (try have := fb_mulK (x := (x4 / 4)) (y := 4) (k := 4) rfl (by omega) (by omega)); (try have := fb_subI (x := x4) (y := (x4 / 4 * 4)) (by omega) (by omega)); (try have := fb_addI (x := x4) (y := 1) (by omega) (by omega)); omega) (by have := i0; have := hm; have := gi_of_nle c1; have := gi_of_eq c2; have := gi_of_eq c3; have := gi_of_ne c5; have : (0 : Int32).toInt = 0 := rfl; have : (1 : Int32).toInt = 1 := rfl; have : (16 : Int32).toInt = 16 := rfl; have : (3 : Int32).toInt = 3 := rfl; have : (4 : Int32).toInt = 4 := rfl; have := fb_rng (x4); have := fb_divK (x := x4) (y := 4) (k := 4) rfl (by decide); (try have := fb_mulK (x := (x4 / 4)) (y := 4) (k := 4) rfl (by omega) (by omega)); (try have := fb_subI (x := x4) (y := (x4 / 4 * 4)) (by omega) (by omega)); (try have := fb_addI (x := x4) (y := 1) (by omega) (by omega)); omega) (by have := i0; have := hm; have := gi_of_nle c1; have := gi_of_eq c2; have := gi_of_eq c3; have := gi_of_ne c5; have : (0 : Int32).toInt = 0 := rfl; have : (1 : Int32).toInt = 1 := rfl; have : (16 : Int32).toInt = 16 := rfl; have : (3 : Int32).toInt = 3 := rfl; have : (4 : Int32).toInt = 4 := rfl; have := fb_rng (x4); have := fb_divK (x := x4) (y := 4) (k := 4) rfl (by decide); (try have := fb_mulK (x := (x4 / 4)) (y := 4) (k := 4) rfl (by omega) (by omega)); (try have := fb_subI (x := x4) (y := (x4 / 4 * 4)) (by omega) (by omega)); (try have := fb_addI (x := x4) (y := 1) (by omega) (by omega)); omega)
          · refine ok_if (fun c7 => ?_) (fun c7 => ?_)
            · refine ok_if (fun c8 => ?_) (fun c8 => ?_)
              · unfold f_X9_manyOf_88
                unfold f_X9_manyOf_89
                exact ih_X9_manyOf_5 (x2 + 0) (x4 + 1) (by have := i0; have := hm; have := gi_of_nle c1; have := gi_of_eq c2; have := gi_of_eq c3; have := gi_of_eq c8; have : (0 : Int32).toInt = 0 := rfl; have : (1 : Int32).toInt = 1 := rfl; have : (16 : Int32).toInt = 16 := rfl; have : (3 : Int32).toInt = 3 := rfl; have : (4 : Int32).toInt = 4 := rfl; have := fb_rng (x4); have := fb_divK (x := x4) (y := 4) (k := 4) rfl (by decide); (try have := fb_mulK (x := (x4 / 4)) (y := 4) (k := 4) rfl (by omega) (by omega)); (try have := fb_subI (x := x4) (y := (x4 / 4 * 4)) (by omega) (by omega)); (try have := fb_addI (x := x4) (y := 1) (by omega) (by omega)); omega) (by have := i0; have := hm; have := gi_of_nle c1; have := gi_of_eq c2; have := gi_of_eq c3; have := gi_of_eq c8; have : (0 : Int32).toInt = 0 := rfl; have : (1 : Int32).toInt = 1 := rfl; have : (16 : Int32).toInt = 16 := rfl; have : (3 : Int32).toInt = 3 := rfl; have : (4 : Int32).toInt = 4 := rfl; have := fb_rng (x4); have := fb_divK (x := x4) (y := 4) (k := 4) rfl (by decide); (try have := fb_mulK (x := (x4 / 4)) (y := 4) (k := 4) rfl (by omega) (by omega)); (try have := fb_subI (x := x4) (y := (x4 / 4 * 4)) (by omega) (by omega)); (try have := fb_addI (x := x4) (y := 1) (by omega) (by omega)); omega) (by have := i0; have := hm; have := gi_of_nle c1; have := gi_of_eq c2; have := gi_of_eq c3; have := gi_of_eq c8; have : (0 : Int32).toInt = 0 := rfl; have : (1 : Int32).toInt = 1 := rfl; have : (16 : Int32).toInt = 16 := rfl; have : (3 : Int32).toInt = 3 := rfl; have : (4 : Int32).toInt = 4 := rfl; have := fb_rng (x4); have := fb_divK (x := x4) (y := 4) (k := 4) rfl (by decide); (try have := fb_mulK (x := (x4 / 4)) (y := 4) (k := 4) rfl (by omega) (by omega)); (try have := fb_subI (x := x4) (y := (x4 / 4 * 4)) (by omega) (by omega)); (try have := fb_addI (x := x4) (y := 1) (by omega) (by omega)); omega)
              · unfold f_X9_manyOf_78
                refine ok_chk (by have := i0; have := hm; have := gi_of_nle c1; have := gi_of_eq c2; have := gi_of_eq c3; have := gi_of_ne c8; have : (0 : Int32).toInt = 0 := rfl; have : (1 : Int32).toInt = 1 := rfl; have : (16 : Int32).toInt = 16 := rfl; have : (3 : Int32).toInt = 3 := rfl; have : (4 : Int32).toInt = 4 := rfl; have := fb_rng (x4); have := fb_divK (x := x4) (y := 4) (k := 4) rfl (by decide); (try have := fb_mulK (x := (x4 / 4)) (y := 4) (k := 4) rfl (by omega) (by omega)); (try have := fb_subI (x := x4) (y := (x4 / 4 * 4)) (by omega) (by omega)); omega) ?_
                unfold f_X9_manyOf_89
                exact ih_X9_manyOf_5 (x2 + ((eJ h 0 41) ((x4).toNatClampNeg))) (x4 + 1) (by have := i0; have := hm; have := gi_of_nle c1; have := gi_of_eq c2; have := gi_of_eq c3; have := gi_of_ne c8; have : (0 : Int32).toInt = 0 := rfl; have : (1 : Int32).toInt = 1 := rfl; have : (16 : Int32).toInt = 16 := rfl; have : (3 : Int32).toInt = 3 := rfl; have : (4 : Int32).toInt = 4 := rfl; have := fb_rng (x4); have := fb_divK (x := x4) (y := 4) (k := 4) rfl (by decide); (try have := fb_mulK (x := (x4 / 4)) (y := 4) (k := 4) rfl (by omega) (by omega)); (try have := fb_subI (x := x4) (y := (x4 / 4 * 4)) (by omega) (by omega)); (try have := fb_addI (x := x4) (y := 1) (by omega) (by omega)); omega) (by have := i0; have := hm; have := gi_of_nle c1; have := gi_of_eq c2; have := gi_of_eq c3; have := gi_of_ne c8; have : (0 : Int32).toInt = 0 := rfl; have : (1 : Int32).toInt = 1 := rfl; have : (16 : Int32).toInt = 16 := rfl; have : (3 : Int32).toInt = 3 := rfl; have : (4 : Int32).toInt = 4 := rfl; have := fb_rng (x4); have := fb_divK (x := x4) (y := 4) (k := 4) rfl (by decide); (try have := fb_mulK (x := (x4 / 4)) (y := 4) (k := 4) rfl (by omega) (by omega)); (try have := fb_subI (x := x4) (y := (x4 / 4 * 4)) (by omega) (by omega)); (try have := fb_addI (x := x4) (y := 1) (by omega) (by omega)); omega) (by have := i0; have := hm; have := gi_of_nle c1; have := gi_of_eq c2; have := gi_of_eq c3; have := gi_of_ne c8; have : (0 : Int32).toInt = 0 := rfl; have : (1 : Int32).toInt = 1 := rfl; have : (16 : Int32).toInt = 16 := rfl; have : (3 : Int32).toInt = 3 := rfl; have : (4 : Int32).toInt = 4 := rfl; have := fb_rng (x4); have := fb_divK (x := x4) (y := 4) (k := 4) rfl (by decide); (try have := fb_mulK (x := (x4 / 4)) (y := 4) (k := 4) rfl (by omega) (by omega)); (try have := fb_subI (x := x4) (y := (x4 / 4 * 4)) (by omega) (by omega)); (try have := fb_addI (x := x4) (y := 1) (by omega) (by omega)); omega)
            · refine ok_if (fun c10 => ?_) (fun c10 => ?_)
              · unfold f_X9_manyOf_88
                unfold f_X9_manyOf_89
                exact ih_X9_manyOf_5 (x2 + 0) (x4 + 1) (by have := i0; have := hm; have := gi_of_nle c1; have := gi_of_eq c2; have := gi_of_eq c3; have := gi_of_eq c10; have : (0 : Int32).toInt = 0 := rfl; have : (1 : Int32).toInt = 1 := rfl; have : (16 : Int32).toInt = 16 := rfl; have : (3 : Int32).toInt = 3 := rfl; have : (4 : Int32).toInt = 4 := rfl; have := fb_rng (x4); have := fb_divK (x := x4) (y := 4) (k := 4) rfl (by decide); (try have := fb_mulK (x := (x4 / 4)) (y := 4) (k := 4) rfl (by omega) (by omega)); (try have := fb_subI (x := x4) (y := (x4 / 4 * 4)) (by omega) (by omega)); (try have := fb_addI (x := x4) (y := 1) (by omega) (by omega)); omega) (by have := i0; have := hm; have := gi_of_nle c1; have := gi_of_eq c2; have := gi_of_eq c3; have := gi_of_eq c10; have : (0 : Int32).toInt = 0 := rfl; have : (1 : Int32).toInt = 1 := rfl; have : (16 : Int32).toInt = 16 := rfl; have : (3 : Int32).toInt = 3 := rfl; have : (4 : Int32).toInt = 4 := rfl; have := fb_rng (x4); have := fb_divK (x := x4) (y := 4) (k := 4) rfl (by decide); (try have := fb_mulK (x := (x4 / 4)) (y := 4) (k := 4) rfl (by omega) (by omega)); (try have := fb_subI (x := x4) (y := (x4 / 4 * 4)) (by omega) (by omega)); (try have := fb_addI (x := x4) (y := 1) (by omega) (by omega)); omega) (by have := i0; have := hm; have := gi_of_nle c1; have := gi_of_eq c2; have := gi_of_eq c3; have := gi_of_eq c10; have : (0 : Int32).toInt = 0 := rfl; have : (1 : Int32).toInt = 1 := rfl; have : (16 : Int32).toInt = 16 := rfl; have : (3 : Int32).toInt = 3 := rfl; have : (4 : Int32).toInt = 4 := rfl; have := fb_rng (x4); have := fb_divK (x := x4) (y := 4) (k := 4) rfl (by decide); (try have := fb_mulK (x := (x4 / 4)) (y := 4) (k := 4) rfl (by omega) (by omega)); (try have := fb_subI (x := x4) (y := (x4 / 4 * 4)) (by omega) (by omega)); (try have := fb_addI (x := x4) (y := 1) (by omega) (by omega)); omega)
              · refine ok_if (fun c11 => ?_) (fun c11 => ?_)
                · unfold f_X9_manyOf_78
                  refine ok_chk (by have := i0; have := hm; have := gi_of_nle c1; have := gi_of_eq c2; have := gi_of_eq c3; have := gi_of_ne c10; have := gi_of_eq c11; have : (0 : Int32).toInt = 0 := rfl; have : (1 : Int32).toInt = 1 := rfl; have : (16 : Int32).toInt = 16 := rfl; have : (3 : Int32).toInt = 3 := rfl; have : (4 : Int32).toInt = 4 := rfl; have := fb_rng (x4); have := fb_divK (x := x4) (y := 4) (k := 4) rfl (by decide); (try have := fb_mulK (x := (x4 / 4)) (y := 4) (k := 4) rfl (by omega) (by omega)); (try have := fb_subI (x := x4) (y := (x4 / 4 * 4)) (by omega) (by omega)); omega) ?_
                  unfold f_X9_manyOf_89
                  exact ih_X9_manyOf_5 (x2 + ((eJ h 0 41) ((x4).toNatClampNeg))) (x4 + 1) (by have := i0; have := hm; have := gi_of_nle c1; have := gi_of_eq c2; have := gi_of_eq c3; have := gi_of_ne c10; have := gi_of_eq c11; have : (0 : Int32).toInt = 0 := rfl; have : (1 : Int32).toInt = 1 := rfl; have : (16 : Int32).toInt = 16 := rfl; have : (3 : Int32).toInt = 3 := rfl; have : (4 : Int32).toInt = 4 := rfl; have := fb_rng (x4); have := fb_divK (x := x4) (y := 4) (k := 4) rfl (by decide); (try have := fb_mulK (x := (x4 / 4)) (y := 4) (k := 4) rfl (by omega) (by omega)); (try have := fb_subI (x := x4) (y := (x4 / 4 * 4)) (by omega) (by omega)); (try have := fb_addI (x := x4) (y := 1) (by omega) (by omega)); omega) (by have := i0; have := hm; have := gi_of_nle c1; have := gi_of_eq c2; have := gi_of_eq c3; have := gi_of_ne c10; have := gi_of_eq c11; have : (0 : Int32).toInt = 0 := rfl; have : (1 : Int32).toInt = 1 := rfl; have : (16 : Int32).toInt = 16 := rfl; have : (3 : Int32).toInt = 3 := rfl; have : (4 : Int32).toInt = 4 := rfl; have := fb_rng (x4); have := fb_divK (x := x4) (y := 4) (k := 4) rfl (by decide); (try have := fb_mulK (x := (x4 / 4)) (y := 4) (k := 4) rfl (by omega) (by omega)); (try have := fb_subI (x := x4) (y := (x4 / 4 * 4)) (by omega) (by omega)); (try have := fb_addI (x := x4) (y := 1) (by omega) (by omega)); omega) (by have := i0; have := hm; have := gi_of_nle c1; have := gi_of_eq c2; have := gi_of_eq c3; have := gi_of_ne c10; have := gi_of_eq c11; have : (0 : Int32).toInt = 0 := rfl; have : (1 : Int32).toInt = 1 := rfl; have : (16 : Int32).toInt = 16 := rfl; have : (3 : Int32).toInt = 3 := rfl; have : (4 : Int32).toInt = 4 := rfl; have := fb_rng (x4); have := fb_divK (x := x4) (y := 4) (k := 4) rfl (by decide); (try have := fb_mulK (x := (x4 / 4)) (y := 4) (k := 4) rfl (by omega) (by omega)); (try have := fb_subI (x := x4) (y := (x4 / 4 * 4)) (by omega) (by omega)); (try have := fb_addI (x := x4) (y := 1) (by omega) (by omega)); omega)
                · unfold f_X9_manyOf_88
                  unfold f_X9_manyOf_89
                  exact ih_X9_manyOf_5 (x2 + 0) (x4 + 1) (by have := i0; have := hm; have := gi_of_nle c1; have := gi_of_eq c2; have := gi_of_eq c3; have := gi_of_ne c10; have := gi_of_ne c11; have : (0 : Int32).toInt = 0 := rfl; have : (1 : Int32).toInt = 1 := rfl; have : (16 : Int32).toInt = 16 := rfl; have : (3 : Int32).toInt = 3 := rfl; have : (4 : Int32).toInt = 4 := rfl; have := fb_rng (x4); have := fb_divK (x := x4) (y := 4) (k := 4) rfl (by decide); (try have := fb_mulK (x := (x4 / 4)) (y := 4) (k := 4) rfl (by omega) (by omega)); (try have := fb_subI (x := x4) (y := (x4 / 4 * 4)) (by omega) (by omega)); (try have := fb_addI (x := x4) (y := 1) (by omega) (by omega)); omega) (by have := i0; have := hm; have := gi_of_nle c1; have := gi_of_eq c2; have := gi_of_eq c3; have := gi_of_ne c10; have := gi_of_ne c11; have : (0 : Int32).toInt = 0 := rfl; have : (1 : Int32).toInt = 1 := rfl; have : (16 : Int32).toInt = 16 := rfl; have : (3 : Int32).toInt = 3 := rfl; have : (4 : Int32).toInt = 4 := rfl; have := fb_rng (x4); have := fb_divK (x := x4) (y := 4) (k := 4) rfl (by decide); (try have := fb_mulK (x := (x4 / 4)) (y := 4) (k := 4) rfl (by omega) (by omega)); (try have := fb_subI (x := x4) (y := (x4 / 4 * 4)) (by omega) (by omega)); (try have := fb_addI (x := x4) (y := 1) (by omega) (by omega)); omega) (by have := i0; have := hm; have := gi_of_nle c1; have := gi_of_eq c2; have := gi_of_eq c3; have := gi_of_ne c10; have := gi_of_ne c11; have : (0 : Int32).toInt = 0 := rfl; have : (1 : Int32).toInt = 1 := rfl; have : (16 : Int32).toInt = 16 := rfl; have : (3 : Int32).toInt = 3 := rfl; have : (4 : Int32).toInt = 4 := rfl; have := fb_rng (x4); have := fb_divK (x := x4) (y := 4) (k := 4) rfl (by decide); (try have := fb_mulK (x := (x4 / 4)) (y := 4) (k := 4) rfl (by omega) (by omega)); (try have := fb_subI (x := x4) (y := (x4 / 4 * 4)) (by omega) (by omega)); (try have := fb_addI (x := x4) (y := 1) (by omega) (by omega)); omega)
        · unfold f_X9_manyOf_40
          refine ok_if (fun c13 => ?_) (fun c13 => ?_)
          · refine ok_if (fun c14 => ?_) (fun c14 => ?_)
            · unfold f_X9_manyOf_88
              unfold f_X9_manyOf_89
              exact ih_X9_manyOf_5 (x2 + 0) (x4 + 1) (by have := i0; have := hm; have := gi_of_nle c1; have := gi_of_eq c2; have := gi_of_ne c3; have := gi_of_eq c14; have : (0 : Int32).toInt = 0 := rfl; have : (1 : Int32).toInt = 1 := rfl; have : (16 : Int32).toInt = 16 := rfl; have : (3 : Int32).toInt = 3 := rfl; have : (4 : Int32).toInt = 4 := rfl; have := fb_rng (x4); have := fb_divK (x := x4) (y := 4) (k := 4) rfl (by decide); (try have := fb_mulK (x := (x4 / 4)) (y := 4) (k := 4) rfl (by omega) (by omega)); (try have := fb_subI (x := x4) (y := (x4 / 4 * 4)) (by omega) (by omega)); (try have := fb_addI (x := x4) (y := 1) (by omega) (by omega)); omega) (by have := i0; have := hm; have := gi_of_nle c1; have := gi_of_eq c2; have := gi_of_ne c3; have := gi_of_eq c14; have : (0 : Int32).toInt = 0 := rfl; have : (1 : Int32).toInt = 1 := rfl; have : (16 : Int32).toInt = 16 := rfl; have : (3 : Int32).toInt = 3 := rfl; have : (4 : Int32).toInt = 4 := rfl; have := fb_rng (x4); have := fb_divK (x := x4) (y := 4) (k := 4) rfl (by decide); (try have := fb_mulK (x := (x4 / 4)) (y := 4) (k := 4) rfl (by omega) (by omega)); (try have := fb_subI (x := x4) (y := (x4 / 4 * 4)) (by omega) (by omega)); (try have := fb_addI (x := x4) (y := 1) (by omega) (by omega)); omega) (by have := i0; have := hm; have := gi_of_nle c1; have := gi_of_eq c2; have := gi_of_ne c3; have := gi_of_eq c14; have : (0 : Int32).toInt = 0 := rfl; have : (1 : Int32).toInt = 1 := rfl; have : (16 : Int32).toInt = 16 := rfl; have : (3 : Int32).toInt = 3 := rfl; have : (4 : Int32).toInt = 4 := rfl; have := fb_rng (x4); have := fb_divK (x := x4) (y := 4) (k := 4) rfl (by decide); (try have := fb_mulK (x := (x4 / 4)) (y := 4) (k := 4) rfl (by omega) (by omega)); (try have := fb_subI (x := x4) (y := (x4 / 4 * 4)) (by omega) (by omega)); (try have := fb_addI (x := x4) (y := 1) (by omega) (by omega)); omega)
            · unfold f_X9_manyOf_78
              refine ok_chk (by have := i0; have := hm; have := gi_of_nle c1; have := gi_of_eq c2; have := gi_of_ne c3; have := gi_of_ne c14; have : (0 : Int32).toInt = 0 := rfl; have : (1 : Int32).toInt = 1 := rfl; have : (16 : Int32).toInt = 16 := rfl; have : (3 : Int32).toInt = 3 := rfl; have : (4 : Int32).toInt = 4 := rfl; have := fb_rng (x4); have := fb_divK (x := x4) (y := 4) (k := 4) rfl (by decide); (try have := fb_mulK (x := (x4 / 4)) (y := 4) (k := 4) rfl (by omega) (by omega)); (try have := fb_subI (x := x4) (y := (x4 / 4 * 4)) (by omega) (by omega)); omega) ?_
              unfold f_X9_manyOf_89
              exact ih_X9_manyOf_5 (x2 + ((eJ h 0 41) ((x4).toNatClampNeg))) (x4 + 1) (by have := i0; have := hm; have := gi_of_nle c1; have := gi_of_eq c2; have := gi_of_ne c3; have := gi_of_ne c14; have : (0 : Int32).toInt = 0 := rfl; have : (1 : Int32).toInt = 1 := rfl; have : (16 : Int32).toInt = 16 := rfl; have : (3 : Int32).toInt = 3 := rfl; have : (4 : Int32).toInt = 4 := rfl; have := fb_rng (x4); have := fb_divK (x := x4) (y := 4) (k := 4) rfl (by decide); (try have := fb_mulK (x := (x4 / 4)) (y := 4) (k := 4) rfl (by omega) (by omega)); (try have := fb_subI (x := x4) (y := (x4 / 4 * 4)) (by omega) (by omega)); (try have := fb_addI (x := x4) (y := 1) (by omega) (by omega)); omega) (by have := i0; have := hm; have := gi_of_nle c1; have := gi_of_eq c2; have := gi_of_ne c3; have := gi_of_ne c14; have : (0 : Int32).toInt = 0 := rfl; have : (1 : Int32).toInt = 1 := rfl; have : (16 : Int32).toInt = 16 := rfl; have : (3 : Int32).toInt = 3 := rfl; have : (4 : Int32).toInt = 4 := rfl; have := fb_rng (x4); have := fb_divK (x := x4) (y := 4) (k := 4) rfl (by decide); (try have := fb_mulK (x := (x4 / 4)) (y := 4) (k := 4) rfl (by omega) (by omega)); (try have := fb_subI (x := x4) (y := (x4 / 4 * 4)) (by omega) (by omega)); (try have := fb_addI (x := x4) (y := 1) (by omega) (by omega)); omega) (by have := i0; have := hm; have := gi_of_nle c1; have := gi_of_eq c2; have := gi_of_ne c3; have := gi_of_ne c14; have : (0 : Int32).toInt = 0 := rfl; have : (1 : Int32).toInt = 1 := rfl; have : (16 : Int32).toInt = 16 := rfl; have : (3 : Int32).toInt = 3 := rfl; have : (4 : Int32).toInt = 4 := rfl; have := fb_rng (x4); have := fb_divK (x := x4) (y := 4) (k := 4) rfl (by decide); (try have := fb_mulK (x := (x4 / 4)) (y := 4) (k := 4) rfl (by omega) (by omega)); (try have := fb_subI (x := x4) (y := (x4 / 4 * 4)) (by omega) (by omega)); (try have := fb_addI (x := x4) (y := 1) (by omega) (by omega)); omega)
          · refine ok_if (fun c16 => ?_) (fun c16 => ?_)
            · refine ok_if (fun c17 => ?_) (fun c17 => ?_)
              · unfold f_X9_manyOf_88
                unfold f_X9_manyOf_89
                exact ih_X9_manyOf_5 (x2 + 0) (x4 + 1) (by have := i0; have := hm; have := gi_of_nle c1; have := gi_of_eq c2; have := gi_of_ne c3; have := gi_of_eq c17; have : (0 : Int32).toInt = 0 := rfl; have : (1 : Int32).toInt = 1 := rfl; have : (16 : Int32).toInt = 16 := rfl; have : (3 : Int32).toInt = 3 := rfl; have : (4 : Int32).toInt = 4 := rfl; have := fb_rng (x4); have := fb_divK (x := x4) (y := 4) (k := 4) rfl (by decide); (try have := fb_mulK (x := (x4 / 4)) (y := 4) (k := 4) rfl (by omega) (by omega)); (try have := fb_subI (x := x4) (y := (x4 / 4 * 4)) (by omega) (by omega)); (try have := fb_addI (x := x4) (y := 1) (by omega) (by omega)); omega) (by have := i0; have := hm; have := gi_of_nle c1; have := gi_of_eq c2; have := gi_of_ne c3; have := gi_of_eq c17; have : (0 : Int32).toInt = 0 := rfl; have : (1 : Int32).toInt = 1 := rfl; have : (16 : Int32).toInt = 16 := rfl; have : (3 : Int32).toInt = 3 := rfl; have : (4 : Int32).toInt = 4 := rfl; have := fb_rng (x4); have := fb_divK (x := x4) (y := 4) (k := 4) rfl (by decide); (try have := fb_mulK (x := (x4 / 4)) (y := 4) (k := 4) rfl (by omega) (by omega)); (try have := fb_subI (x := x4) (y := (x4 / 4 * 4)) (by omega) (by omega)); (try have := fb_addI (x := x4) (y := 1) (by omega) (by omega)); omega) (by have := i0; have := hm; have := gi_of_nle c1; have := gi_of_eq c2; have := gi_of_ne c3; have := gi_of_eq c17; have : (0 : Int32).toInt = 0 := rfl; have : (1 : Int32).toInt = 1 := rfl; have : (16 : Int32).toInt = 16 := rfl; have : (3 : Int32).toInt = 3 := rfl; have : (4 : Int32).toInt = 4 := rfl; have := fb_rng (x4); have := fb_divK (x := x4) (y := 4) (k := 4) rfl (by decide); (try have := fb_mulK (x := (x4 / 4)) (y := 4) (k := 4) rfl (by omega) (by omega)); (try have := fb_subI (x := x4) (y := (x4 / 4 * 4)) (by omega) (by omega)); (try have := fb_addI (x := x4) (y := 1) (by omega) (by omega)); omega)
              · unfold f_X9_manyOf_78
                refine ok_chk (by have := i0; have := hm; have := gi_of_nle c1; have := gi_of_eq c2; have := gi_of_ne c3; have := gi_of_ne c17; have : (0 : Int32).toInt = 0 := rfl; have : (16 : Int32).toInt = 16 := rfl; have : (3 : Int32).toInt = 3 := rfl; have : (4 : Int32).toInt = 4 := rfl; have := fb_rng (x4); have := fb_divK (x := x4) (y := 4) (k := 4) rfl (by decide); (try have := fb_mulK (x := (x4 / 4)) (y := 4) (k := 4) rfl (by omega) (by omega)); (try have := fb_subI (x := x4) (y := (x4 / 4 * 4)) (by omega) (by omega)); omega) ?_
                unfold f_X9_manyOf_89
                exact ih_X9_manyOf_5 (x2 + ((eJ h 0 41) ((x4).toNatClampNeg))) (x4 + 1) (by have := i0; have := hm; have := gi_of_nle c1; have := gi_of_eq c2; have := gi_of_ne c3; have := gi_of_ne c17; have : (0 : Int32).toInt = 0 := rfl; have : (1 : Int32).toInt = 1 := rfl; have : (16 : Int32).toInt = 16 := rfl; have : (3 : Int32).toInt = 3 := rfl; have : (4 : Int32).toInt = 4 := rfl; have := fb_rng (x4); have := fb_divK (x := x4) (y := 4) (k := 4) rfl (by decide); (try have := fb_mulK (x := (x4 / 4)) (y := 4) (k := 4) rfl (by omega) (by omega)); (try have := fb_subI (x := x4) (y := (x4 / 4 * 4)) (by omega) (by omega)); (try have := fb_addI (x := x4) (y := 1) (by omega) (by omega)); omega) (by have := i0; have := hm; have := gi_of_nle c1; have := gi_of_eq c2; have := gi_of_ne c3; have := gi_of_ne c17; have : (0 : Int32).toInt = 0 := rfl; have : (1 : Int32).toInt = 1 := rfl; have : (16 : Int32).toInt = 16 := rfl; have : (3 : Int32).toInt = 3 := rfl; have : (4 : Int32).toInt = 4 := rfl; have := fb_rng (x4); have := fb_divK (x := x4) (y := 4) (k := 4) rfl (by decide); (try have := fb_mulK (x := (x4 / 4)) (y := 4) (k := 4) rfl (by omega) (by omega)); (try have := fb_subI (x := x4) (y := (x4 / 4 * 4)) (by omega) (by omega)); (try have := fb_addI (x := x4) (y := 1) (by omega) (by omega)); omega) (by have := i0; have := hm; have := gi_of_nle c1; have := gi_of_eq c2; have := gi_of_ne c3; have := gi_of_ne c17; have : (0 : Int32).toInt = 0 := rfl; have : (1 : Int32).toInt = 1 := rfl; have : (16 : Int32).toInt = 16 := rfl; have : (3 : Int32).toInt = 3 := rfl; have : (4 : Int32).toInt = 4 := rfl; have := fb_rng (x4); have := fb_divK (x := x4) (y := 4) (k := 4) rfl (by decide); (try have := fb_mulK (x := (x4 / 4)) (y := 4) (k := 4) rfl (by omega) (by omega)); (try have := fb_subI (x := x4) (y := (x4 / 4 * 4)) (by omega) (by omega)); (try have := fb_addI (x := x4) (y := 1) (by omega) (by omega)); omega)
            · refine ok_if (fun c19 => ?_) (fun c19 => ?_)
              · unfold f_X9_manyOf_88
                unfold f_X9_manyOf_89
                exact ih_X9_manyOf_5 (x2 + 0) (x4 + 1) (by have := i0; have := hm; have := gi_of_nle c1; have := gi_of_eq c2; have := gi_of_ne c3; have := gi_of_eq c19; have : (0 : Int32).toInt = 0 := rfl; have : (1 : Int32).toInt = 1 := rfl; have : (16 : Int32).toInt = 16 := rfl; have : (3 : Int32).toInt = 3 := rfl; have : (4 : Int32).toInt = 4 := rfl; have := fb_rng (x4); have := fb_divK (x := x4) (y := 4) (k := 4) rfl (by decide); (try have := fb_mulK (x := (x4 / 4)) (y := 4) (k := 4) rfl (by omega) (by omega)); (try have := fb_subI (x := x4) (y := (x4 / 4 * 4)) (by omega) (by omega)); (try have := fb_addI (x := x4) (y := 1) (by omega) (by omega)); omega) (by have := i0; have := hm; have := gi_of_nle c1; have := gi_of_eq c2; have := gi_of_ne c3; have := gi_of_eq c19; have : (0 : Int32).toInt = 0 := rfl; have : (1 : Int32).toInt = 1 := rfl; have : (16 : Int32).toInt = 16 := rfl; have : (3 : Int32).toInt = 3 := rfl; have : (4 : Int32).toInt = 4 := rfl; have := fb_rng (x4); have := fb_divK (x := x4) (y := 4) (k := 4) rfl (by decide); (try have := fb_mulK (x := (x4 / 4)) (y := 4) (k := 4) rfl (by omega) (by omega)); (try have := fb_subI (x := x4) (y := (x4 / 4 * 4)) (by omega) (by omega)); (try have := fb_addI (x := x4) (y := 1) (by omega) (by omega)); omega) (by have := i0; have := hm; have := gi_of_nle c1; have := gi_of_eq c2; have := gi_of_ne c3; have := gi_of_eq c19; have : (0 : Int32).toInt = 0 := rfl; have : (1 : Int32).toInt = 1 := rfl; have : (16 : Int32).toInt = 16 := rfl; have : (3 : Int32).toInt = 3 := rfl; have : (4 : Int32).toInt = 4 := rfl; have := fb_rng (x4); have := fb_divK (x := x4) (y := 4) (k := 4) rfl (by decide); (try have := fb_mulK (x := (x4 / 4)) (y := 4) (k := 4) rfl (by omega) (by omega)); (try have := fb_subI (x := x4) (y := (x4 / 4 * 4)) (by omega) (by omega)); (try have := fb_addI (x := x4) (y := 1) (by omega) (by omega)); omega)
              · refine ok_if (fun c20 => ?_) (fun c20 => ?_)
                · unfold f_X9_manyOf_78
                  refine ok_chk (by have := i0; have := hm; have := gi_of_nle c1; have := gi_of_eq c2; have := gi_of_ne c3; have := gi_of_ne c19; have := gi_of_eq c20; have : (0 : Int32).toInt = 0 := rfl; have : (1 : Int32).toInt = 1 := rfl; have : (16 : Int32).toInt = 16 := rfl; have : (3 : Int32).toInt = 3 := rfl; have : (4 : Int32).toInt = 4 := rfl; have := fb_rng (x4); have := fb_divK (x := x4) (y := 4) (k := 4) rfl (by decide); (try have := fb_mulK (x := (x4 / 4)) (y := 4) (k := 4) rfl (by omega) (by omega)); (try have := fb_subI (x := x4) (y := (x4 / 4 * 4)) (by omega) (by omega)); omega) ?_
                  unfold f_X9_manyOf_89
                  exact ih_X9_manyOf_5 (x2 + ((eJ h 0 41) ((x4).toNatClampNeg))) (x4 + 1) (by have := i0; have := hm; have := gi_of_nle c1; have := gi_of_eq c2; have := gi_of_ne c3; have := gi_of_ne c19; have := gi_of_eq c20; have : (0 : Int32).toInt = 0 := rfl; have : (1 : Int32).toInt = 1 := rfl; have : (16 : Int32).toInt = 16 := rfl; have : (3 : Int32).toInt = 3 := rfl; have : (4 : Int32).toInt = 4 := rfl; have := fb_rng (x4); have := fb_divK (x := x4) (y := 4) (k := 4) rfl (by decide); (try have := fb_mulK (x := (x4 / 4)) (y := 4) (k := 4) rfl (by omega) (by omega)); (try have := fb_subI (x := x4) (y := (x4 / 4 * 4)) (by omega) (by omega)); (try have := fb_addI (x := x4) (y := 1) (by omega) (by omega)); omega) (by have := i0; have := hm; have := gi_of_nle c1; have := gi_of_eq c2; have := gi_of_ne c3; have := gi_of_ne c19; have := gi_of_eq c20; have : (0 : Int32).toInt = 0 := rfl; have : (1 : Int32).toInt = 1 := rfl; have : (16 : Int32).toInt = 16 := rfl; have : (3 : Int32).toInt = 3 := rfl; have : (4 : Int32).toInt = 4 := rfl; have := fb_rng (x4); have := fb_divK (x := x4) (y := 4) (k := 4) rfl (by decide); (try have := fb_mulK (x := (x4 / 4)) (y := 4) (k := 4) rfl (by omega) (by omega)); (try have := fb_subI (x := x4) (y := (x4 / 4 * 4)) (by omega) (by omega)); (try have := fb_addI (x := x4) (y := 1) (by omega) (by omega)); omega) (by have := i0; have := hm; have := gi_of_nle c1; have := gi_of_eq c2; have := gi_of_ne c3; have := gi_of_ne c19; have := gi_of_eq c20; have : (0 : Int32).toInt = 0 := rfl; have : (1 : Int32).toInt = 1 := rfl; have : (16 : Int32).toInt = 16 := rfl; have : (3 : Int32).toInt = 3 := rfl; have : (4 : Int32).toInt = 4 := rfl; have := fb_rng (x4); have := fb_divK (x := x4) (y := 4) (k := 4) rfl (by decide); (try have := fb_mulK (x := (x4 / 4)) (y := 4) (k := 4) rfl (by omega) (by omega)); (try have := fb_subI (x := x4) (y := (x4 / 4 * 4)) (by omega) (by omega)); (try have := fb_addI (x := x4) (y := 1) (by omega) (by omega)); omega)
                · unfold f_X9_manyOf_88
                  unfold f_X9_manyOf_89
                  exact ih_X9_manyOf_5 (x2 + 0) (x4 + 1) (by have := i0; have := hm; have := gi_of_nle c1; have := gi_of_eq c2; have := gi_of_ne c3; have := gi_of_ne c19; have := gi_of_ne c20; have : (0 : Int32).toInt = 0 := rfl; have : (1 : Int32).toInt = 1 := rfl; have : (16 : Int32).toInt = 16 := rfl; have : (3 : Int32).toInt = 3 := rfl; have : (4 : Int32).toInt = 4 := rfl; have := fb_rng (x4); have := fb_divK (x := x4) (y := 4) (k := 4) rfl (by decide); (try have := fb_mulK (x := (x4 / 4)) (y := 4) (k := 4) rfl (by omega) (by omega)); (try have := fb_subI (x := x4) (y := (x4 / 4 * 4)) (by omega) (by omega)); (try have := fb_addI (x := x4) (y := 1) (by omega) (by omega)); omega) (by have := i0; have := hm; have := gi_of_nle c1; have := gi_of_eq c2; have := gi_of_ne c3; have := gi_of_ne c19; have := gi_of_ne c20; have : (0 : Int32).toInt = 0 := rfl; have : (1 : Int32).toInt = 1 := rfl; have : (16 : Int32).toInt = 16 := rfl; have : (3 : Int32).toInt = 3 := rfl; have : (4 : Int32).toInt = 4 := rfl; have := fb_rng (x4); have := fb_divK (x := x4) (y := 4) (k := 4) rfl (by decide); (try have := fb_mulK (x := (x4 / 4)) (y := 4) (k := 4) rfl (by omega) (by omega)); (try have := fb_subI (x := x4) (y := (x4 / 4 * 4)) (by omega) (by omega)); (try have := fb_addI (x := x4) (y := 1) (by omega) (by omega)); omega) (by have := i0; have := hm; have := gi_of_nle c1; have := gi_of_eq c2; have := gi_of_ne c3; have := gi_of_ne c19; have := gi_of_ne c20; have : (0 : Int32).toInt = 0 := rfl; have : (1 : Int32).toInt = 1 := rfl; have : (16 : Int32).toInt = 16 := rfl; have : (3 : Int32).toInt = 3 := rfl; have : (4 : Int32).toInt = 4 := rfl; have := fb_rng (x4); have := fb_divK (x := x4) (y := 4) (k := 4) rfl (by decide); (try have := fb_mulK (x := (x4 / 4)) (y := 4) (k := 4) rfl (by omega) (by omega)); (try have := fb_subI (x := x4) (y := (x4 / 4 * 4)) (by omega) (by omega)); (try have := fb_addI (x := x4) (y := 1) (by omega) (by omega)); omega)
      · unfold f_X9_manyOf_25
        refine ok_if (fun c22 => ?_) (fun c22 => ?_)
        · unfold f_X9_manyOf_40
          refine ok_if (fun c23 => ?_) (fun c23 => ?_)
          · refine ok_if (fun c24 => ?_) (fun c24 => ?_)
            · unfold f_X9_manyOf_88
              unfold f_X9_manyOf_89
              exact ih_X9_manyOf_5 (x2 + 0) (x4 + 1) (by have := i0; have := hm; have := gi_of_nle c1; have := gi_of_ne c2; have := gi_of_eq c22; have := gi_of_eq c24; have : (0 : Int32).toInt = 0 := rfl; have : (1 : Int32).toInt = 1 := rfl; have : (16 : Int32).toInt = 16 := rfl; have : (3 : Int32).toInt = 3 := rfl; have : (4 : Int32).toInt = 4 := rfl; have := fb_rng (x4); have := fb_divK (x := x4) (y := 4) (k := 4) rfl (by decide); (try have := fb_mulK (x := (x4 / 4)) (y := 4) (k := 4) rfl (by omega) (by omega)); (try have := fb_subI (x := x4) (y := (x4 / 4 * 4)) (by omega) (by omega)); (try have := fb_addI (x := x4) (y := 1) (by omega) (by omega)); omega) (by have := i0; have := hm; have := gi_of_nle c1; have := gi_of_ne c2; have := gi_of_eq c22; have := gi_of_eq c24; have : (0 : Int32).toInt = 0 := rfl; have : (1 : Int32).toInt = 1 := rfl; have : (16 : Int32).toInt = 16 := rfl; have : (3 : Int32).toInt = 3 := rfl; have : (4 : Int32).toInt = 4 := rfl; have := fb_rng (x4); have := fb_divK (x := x4) (y := 4) (k := 4) rfl (by decide); (try have := fb_mulK (x := (x4 / 4)) (y := 4) (k := 4) rfl (by omega) (by omega)); (try have := fb_subI (x := x4) (y := (x4 / 4 * 4)) (by omega) (by omega)); (try have := fb_addI (x := x4) (y := 1) (by omega) (by omega)); omega) (by have := i0; have := hm; have := gi_of_nle c1; have := gi_of_ne c2; have := gi_of_eq c22; have := gi_of_eq c24; have : (0 : Int32).toInt = 0 := rfl; have : (1 : Int32).toInt = 1 := rfl; have : (16 : Int32).toInt = 16 := rfl; have : (3 : Int32).toInt = 3 := rfl; have : (4 : Int32).toInt = 4 := rfl; have := fb_rng (x4); have := fb_divK (x := x4) (y := 4) (k := 4) rfl (by decide); (try have := fb_mulK (x := (x4 / 4)) (y := 4) (k := 4) rfl (by omega) (by omega)); (try have := fb_subI (x := x4) (y := (x4 / 4 * 4)) (by omega) (by omega)); (try have := fb_addI (x := x4) (y := 1) (by omega) (by omega)); omega)
            · unfold f_X9_manyOf_78
              refine ok_chk (by have := i0; have := hm; have := gi_of_nle c1; have := gi_of_ne c2; have := gi_of_eq c22; have := gi_of_ne c24; have : (0 : Int32).toInt = 0 := rfl; have : (16 : Int32).toInt = 16 := rfl; have : (3 : Int32).toInt = 3 := rfl; have : (4 : Int32).toInt = 4 := rfl; have := fb_rng (x4); have := fb_divK (x := x4) (y := 4) (k := 4) rfl (by decide); (try have := fb_mulK (x := (x4 / 4)) (y := 4) (k := 4) rfl (by omega) (by omega)); (try have := fb_subI (x := x4) (y := (x4 / 4 * 4)) (by omega) (by omega)); omega) ?_
              unfold f_X9_manyOf_89
              exact ih_X9_manyOf_5 (x2 + ((eJ h 0 41) ((x4).toNatClampNeg))) (x4 + 1) (by have := i0; have := hm; have := gi_of_nle c1; have := gi_of_ne c2; have := gi_of_eq c22; have := gi_of_ne c24; have : (0 : Int32).toInt = 0 := rfl; have : (1 : Int32).toInt = 1 := rfl; have : (16 : Int32).toInt = 16 := rfl; have : (3 : Int32).toInt = 3 := rfl; have : (4 : Int32).toInt = 4 := rfl; have := fb_rng (x4); have := fb_divK (x := x4) (y := 4) (k := 4) rfl (by decide); (try have := fb_mulK (x := (x4 / 4)) (y := 4) (k := 4) rfl (by omega) (by omega)); (try have := fb_subI (x := x4) (y := (x4 / 4 * 4)) (by omega) (by omega)); (try have := fb_addI (x := x4) (y := 1) (by omega) (by omega)); omega) (by have := i0; have := hm; have := gi_of_nle c1; have := gi_of_ne c2; have := gi_of_eq c22; have := gi_of_ne c24; have : (0 : Int32).toInt = 0 := rfl; have : (1 : Int32).toInt = 1 := rfl; have : (16 : Int32).toInt = 16 := rfl; have : (3 : Int32).toInt = 3 := rfl; have : (4 : Int32).toInt = 4 := rfl; have := fb_rng (x4); have := fb_divK (x := x4) (y := 4) (k := 4) rfl (by decide); (try have := fb_mulK (x := (x4 / 4)) (y := 4) (k := 4) rfl (by omega) (by omega)); (try have := fb_subI (x := x4) (y := (x4 / 4 * 4)) (by omega) (by omega)); (try have := fb_addI (x := x4) (y := 1) (by omega) (by omega)); omega) (by have := i0; have := hm; have := gi_of_nle c1; have := gi_of_ne c2; have := gi_of_eq c22; have := gi_of_ne c24; have : (0 : Int32).toInt = 0 := rfl; have : (1 : Int32).toInt = 1 := rfl; have : (16 : Int32).toInt = 16 := rfl; have : (3 : Int32).toInt = 3 := rfl; have : (4 : Int32).toInt = 4 := rfl; have := fb_rng (x4); have := fb_divK (x := x4) (y := 4) (k := 4) rfl (by decide); (try have := fb_mulK (x := (x4 / 4)) (y := 4) (k := 4) rfl (by omega) (by omega)); (try have := fb_subI (x := x4) (y := (x4 / 4 * 4)) (by omega) (by omega)); (try have := fb_addI (x := x4) (y := 1) (by omega) (by omega)); omega)
          · refine ok_if (fun c26 => ?_) (fun c26 => ?_)
            · refine ok_if (fun c27 => ?_) (fun c27 => ?_)
              · unfold f_X9_manyOf_88
                unfold f_X9_manyOf_89
                exact ih_X9_manyOf_5 (x2 + 0) (x4 + 1) (by have := i0; have := hm; have := gi_of_nle c1; have := gi_of_ne c2; have := gi_of_eq c22; have := gi_of_eq c27; have : (0 : Int32).toInt = 0 := rfl; have : (1 : Int32).toInt = 1 := rfl; have : (16 : Int32).toInt = 16 := rfl; have : (3 : Int32).toInt = 3 := rfl; have : (4 : Int32).toInt = 4 := rfl; have := fb_rng (x4); have := fb_divK (x := x4) (y := 4) (k := 4) rfl (by decide); (try have := fb_mulK (x := (x4 / 4)) (y := 4) (k := 4) rfl (by omega) (by omega)); (try have := fb_subI (x := x4) (y := (x4 / 4 * 4)) (by omega) (by omega)); (try have := fb_addI (x := x4) (y := 1) (by omega) (by omega)); omega) (by have := i0; have := hm; have := gi_of_nle c1; have := gi_of_ne c2; have := gi_of_eq c22; have := gi_of_eq c27; have : (0 : Int32).toInt = 0 := rfl; have : (1 : Int32).toInt = 1 := rfl; have : (16 : Int32).toInt = 16 := rfl; have : (3 : Int32).toInt = 3 := rfl; have : (4 : Int32).toInt = 4 := rfl; have := fb_rng (x4); have := fb_divK (x := x4) (y := 4) (k := 4) rfl (by decide); (try have := fb_mulK (x := (x4 / 4)) (y := 4) (k := 4) rfl (by omega) (by omega)); (try have := fb_subI (x := x4) (y := (x4 / 4 * 4)) (by omega) (by omega)); (try have := fb_addI (x := x4) (y := 1) (by omega) (by omega)); omega) (by have := i0; have := hm; have := gi_of_nle c1; have := gi_of_ne c2; have := gi_of_eq c22; have := gi_of_eq c27; have : (0 : Int32).toInt = 0 := rfl; have : (1 : Int32).toInt = 1 := rfl; have : (16 : Int32).toInt = 16 := rfl; have : (3 : Int32).toInt = 3 := rfl; have : (4 : Int32).toInt = 4 := rfl; have := fb_rng (x4); have := fb_divK (x := x4) (y := 4) (k := 4) rfl (by decide); (try have := fb_mulK (x := (x4 / 4)) (y := 4) (k := 4) rfl (by omega) (by omega)); (try have := fb_subI (x := x4) (y := (x4 / 4 * 4)) (by omega) (by omega)); (try have := fb_addI (x := x4) (y := 1) (by omega) (by omega)); omega)
              · unfold f_X9_manyOf_78
                refine ok_chk (by have := i0; have := hm; have := gi_of_nle c1; have := gi_of_ne c2; have := gi_of_eq c22; have := gi_of_ne c27; have : (0 : Int32).toInt = 0 := rfl; have : (1 : Int32).toInt = 1 := rfl; have : (16 : Int32).toInt = 16 := rfl; have : (3 : Int32).toInt = 3 := rfl; have : (4 : Int32).toInt = 4 := rfl; have := fb_rng (x4); have := fb_divK (x := x4) (y := 4) (k := 4) rfl (by decide); (try have := fb_mulK (x := (x4 / 4)) (y := 4) (k := 4) rfl (by omega) (by omega)); (try have := fb_subI (x := x4) (y := (x4 / 4 * 4)) (by omega) (by omega)); omega) ?_
                unfold f_X9_manyOf_89
                exact ih_X9_manyOf_5 (x2 + ((eJ h 0 41) ((x4).toNatClampNeg))) (x4 + 1) (by have := i0; have := hm; have := gi_of_nle c1; have := gi_of_ne c2; have := gi_of_eq c22; have := gi_of_ne c27; have : (0 : Int32).toInt = 0 := rfl; have : (1 : Int32).toInt = 1 := rfl; have : (16 : Int32).toInt = 16 := rfl; have : (3 : Int32).toInt = 3 := rfl; have : (4 : Int32).toInt = 4 := rfl; have := fb_rng (x4); have := fb_divK (x := x4) (y := 4) (k := 4) rfl (by decide); (try have := fb_mulK (x := (x4 / 4)) (y := 4) (k := 4) rfl (by omega) (by omega)); (try have := fb_subI (x := x4) (y := (x4 / 4 * 4)) (by omega) (by omega)); (try have := fb_addI (x := x4) (y := 1) (by omega) (by omega)); omega) (by have := i0; have := hm; have := gi_of_nle c1; have := gi_of_ne c2; have := gi_of_eq c22; have := gi_of_ne c27; have : (0 : Int32).toInt = 0 := rfl; have : (1 : Int32).toInt = 1 := rfl; have : (16 : Int32).toInt = 16 := rfl; have : (3 : Int32).toInt = 3 := rfl; have : (4 : Int32).toInt = 4 := rfl; have := fb_rng (x4); have := fb_divK (x := x4) (y := 4) (k := 4) rfl (by decide); (try have := fb_mulK (x := (x4 / 4)) (y := 4) (k := 4) rfl (by omega) (by omega)); (try have := fb_subI (x := x4) (y := (x4 / 4 * 4)) (by omega) (by omega)); (try have := fb_addI (x := x4) (y := 1) (by omega) (by omega)); omega) (by have := i0; have := hm; have := gi_of_nle c1; have := gi_of_ne c2; have := gi_of_eq c22; have := gi_of_ne c27; have : (0 : Int32).toInt = 0 := rfl; have : (1 : Int32).toInt = 1 := rfl; have : (16 : Int32).toInt = 16 := rfl; have : (3 : Int32).toInt = 3 := rfl; have : (4 : Int32).toInt = 4 := rfl; have := fb_rng (x4); have := fb_divK (x := x4) (y := 4) (k := 4) rfl (by decide); (try have := fb_mulK (x := (x4 / 4)) (y := 4) (k := 4) rfl (by omega) (by omega)); (try have := fb_subI (x := x4) (y := (x4 / 4 * 4)) (by omega) (by omega)); (try have := fb_addI (x := x4) (y := 1) (by omega) (by omega)); omega)
            · refine ok_if (fun c29 => ?_) (fun c29 => ?_)
              · unfold f_X9_manyOf_88
                unfold f_X9_manyOf_89
                exact ih_X9_manyOf_5 (x2 + 0) (x4 + 1) (by have := i0; have := hm; have := gi_of_nle c1; have := gi_of_ne c2; have := gi_of_eq c22; have := gi_of_eq c29; have : (0 : Int32).toInt = 0 := rfl; have : (1 : Int32).toInt = 1 := rfl; have : (16 : Int32).toInt = 16 := rfl; have : (3 : Int32).toInt = 3 := rfl; have : (4 : Int32).toInt = 4 := rfl; have := fb_rng (x4); have := fb_divK (x := x4) (y := 4) (k := 4) rfl (by decide); (try have := fb_mulK (x := (x4 / 4)) (y := 4) (k := 4) rfl (by omega) (by omega)); (try have := fb_subI (x := x4) (y := (x4 / 4 * 4)) (by omega) (by omega)); (try have := fb_addI (x := x4) (y := 1) (by omega) (by omega)); omega) (by have := i0; have := hm; have := gi_of_nle c1; have := gi_of_ne c2; have := gi_of_eq c22; have := gi_of_eq c29; have : (0 : Int32).toInt = 0 := rfl; have : (1 : Int32).toInt = 1 := rfl; have : (16 : Int32).toInt = 16 := rfl; have : (3 : Int32).toInt = 3 := rfl; have : (4 : Int32).toInt = 4 := rfl; have := fb_rng (x4); have := fb_divK (x := x4) (y := 4) (k := 4) rfl (by decide); (try have := fb_mulK (x := (x4 / 4)) (y := 4) (k := 4) rfl (by omega) (by omega)); (try have := fb_subI (x := x4) (y := (x4 / 4 * 4)) (by omega) (by omega)); (try have := fb_addI (x := x4) (y := 1) (by omega) (by omega)); omega) (by have := i0; have := hm; have := gi_of_nle c1; have := gi_of_ne c2; have := gi_of_eq c22; have := gi_of_eq c29; have : (0 : Int32).toInt = 0 := rfl; have : (1 : Int32).toInt = 1 := rfl; have : (16 : Int32).toInt = 16 := rfl; have : (3 : Int32).toInt = 3 := rfl; have : (4 : Int32).toInt = 4 := rfl; have := fb_rng (x4); have := fb_divK (x := x4) (y := 4) (k := 4) rfl (by decide); (try have := fb_mulK (x := (x4 / 4)) (y := 4) (k := 4) rfl (by omega) (by omega)); (try have := fb_subI (x := x4) (y := (x4 / 4 * 4)) (by omega) (by omega)); (try have := fb_addI (x := x4) (y := 1) (by omega) (by omega)); omega)
              · refine ok_if (fun c30 => ?_) (fun c30 => ?_)
                · unfold f_X9_manyOf_78
                  refine ok_chk (by have := i0; have := hm; have := gi_of_nle c1; have := gi_of_ne c2; have := gi_of_eq c22; have := gi_of_ne c29; have := gi_of_eq c30; have : (0 : Int32).toInt = 0 := rfl; have : (1 : Int32).toInt = 1 := rfl; have : (16 : Int32).toInt = 16 := rfl; have : (3 : Int32).toInt = 3 := rfl; have : (4 : Int32).toInt = 4 := rfl; have := fb_rng (x4); have := fb_divK (x := x4) (y := 4) (k := 4) rfl (by decide); (try have := fb_mulK (x := (x4 / 4)) (y := 4) (k := 4) rfl (by omega) (by omega)); (try have := fb_subI (x := x4) (y := (x4 / 4 * 4)) (by omega) (by omega)); omega) ?_
                  unfold f_X9_manyOf_89
                  exact ih_X9_manyOf_5 (x2 + ((eJ h 0 41) ((x4).toNatClampNeg))) (x4 + 1) (by have := i0; have := hm; have := gi_of_nle c1; have := gi_of_ne c2; have := gi_of_eq c22; have := gi_of_ne c29; have := gi_of_eq c30; have : (0 : Int32).toInt = 0 := rfl; have : (1 : Int32).toInt = 1 := rfl; have : (16 : Int32).toInt = 16 := rfl; have : (3 : Int32).toInt = 3 := rfl; have : (4 : Int32).toInt = 4 := rfl; have := fb_rng (x4); have := fb_divK (x := x4) (y := 4) (k := 4) rfl (by decide); (try have := fb_mulK (x := (x4 / 4)) (y := 4) (k := 4) rfl (by omega) (by omega)); (try have := fb_subI (x := x4) (y := (x4 / 4 * 4)) (by omega) (by omega)); (try have := fb_addI (x := x4) (y := 1) (by omega) (by omega)); omega) (by have := i0; have := hm; have := gi_of_nle c1; have := gi_of_ne c2; have := gi_of_eq c22; have := gi_of_ne c29; have := gi_of_eq c30; have : (0 : Int32).toInt = 0 := rfl; have : (1 : Int32).toInt = 1 := rfl; have : (16 : Int32).toInt = 16 := rfl; have : (3 : Int32).toInt = 3 := rfl; have : (4 : Int32).toInt = 4 := rfl; have := fb_rng (x4); have := fb_divK (x := x4) (y := 4) (k := 4) rfl (by decide); (try have := fb_mulK (x := (x4 / 4)) (y := 4) (k := 4) rfl (by omega) (by omega)); (try have := fb_subI (x := x4) (y := (x4 / 4 * 4)) (by omega) (by omega)); (try have := fb_addI (x := x4) (y := 1) (by omega) (by omega)); omega) (by have := i0; have := hm; have := gi_of_nle c1; have := gi_of_ne c2; have := gi_of_eq c22; have := gi_of_ne c29; have := gi_of_eq c30; have : (0 : Int32).toInt = 0 := rfl; have : (1 : Int32).toInt = 1 := rfl; have : (16 : Int32).toInt = 16 := rfl; have : (3 : Int32).toInt = 3 := rfl; have : (4 : Int32).toInt = 4 := rfl; have := fb_rng (x4); have := fb_divK (x := x4) (y := 4) (k := 4) rfl (by decide); (try have := fb_mulK (x := (x4 / 4)) (y := 4) (k := 4) rfl (by omega) (by omega)); (try have := fb_subI (x := x4) (y := (x4 / 4 * 4)) (by omega) (by omega)); (try have := fb_addI (x := x4) (y := 1) (by omega) (by omega)); omega)
                · unfold f_X9_manyOf_88
                  unfold f_X9_manyOf_89
                  exact ih_X9_manyOf_5 (x2 + 0) (x4 + 1) (by have := i0; have := hm; have := gi_of_nle c1; have := gi_of_ne c2; have := gi_of_eq c22; have := gi_of_ne c29; have := gi_of_ne c30; have : (0 : Int32).toInt = 0 := rfl; have : (1 : Int32).toInt = 1 := rfl; have : (16 : Int32).toInt = 16 := rfl; have : (3 : Int32).toInt = 3 := rfl; have : (4 : Int32).toInt = 4 := rfl; have := fb_rng (x4); have := fb_divK (x := x4) (y := 4) (k := 4) rfl (by decide); (try have := fb_mulK (x := (x4 / 4)) (y := 4) (k := 4) rfl (by omega) (by omega)); (try have := fb_subI (x := x4) (y := (x4 / 4 * 4)) (by omega) (by omega)); (try have := fb_addI (x := x4) (y := 1) (by omega) (by omega)); omega) (by have := i0; have := hm; have := gi_of_nle c1; have := gi_of_ne c2; have := gi_of_eq c22; have := gi_of_ne c29; have := gi_of_ne c30; have : (0 : Int32).toInt = 0 := rfl; have : (1 : Int32).toInt = 1 := rfl; have : (16 : Int32).toInt = 16 := rfl; have : (3 : Int32).toInt = 3 := rfl; have : (4 : Int32).toInt = 4 := rfl; have := fb_rng (x4); have := fb_divK (x := x4) (y := 4) (k := 4) rfl (by decide); (try have := fb_mulK (x := (x4 / 4)) (y := 4) (k := 4) rfl (by omega) (by omega)); (try have := fb_subI (x := x4) (y := (x4 / 4 * 4)) (by omega) (by omega)); (try have := fb_addI (x := x4) (y := 1) (by omega) (by omega)); omega) (by have := i0; have := hm; have := gi_of_nle c1; have := gi_of_ne c2; have := gi_of_eq c22; have := gi_of_ne c29; have := gi_of_ne c30; have : (0 : Int32).toInt = 0 := rfl; have : (1 : Int32).toInt = 1 := rfl; have : (16 : Int32).toInt = 16 := rfl; have : (3 : Int32).toInt = 3 := rfl; have : (4 : Int32).toInt = 4 := rfl; have := fb_rng (x4); have := fb_divK (x := x4) (y := 4) (k := 4) rfl (by decide); (try have := fb_mulK (x := (x4 / 4)) (y := 4) (k := 4) rfl (by omega) (by omega)); (try have := fb_subI (x := x4) (y := (x4 / 4 * 4)) (by omega) (by omega)); (try have := fb_addI (x := x4) (y := 1) (by omega) (by omega)); omega)
        · unfold f_X9_manyOf_40
          refine ok_if (fun c32 => ?_) (fun c32 => ?_)
          · refine ok_if (fun c33 => ?_) (fun c33 => ?_)
            · unfold f_X9_manyOf_88
              unfold f_X9_manyOf_89
              exact ih_X9_manyOf_5 (x2 + 0) (x4 + 1) (by have := i0; have := hm; have := gi_of_nle c1; have := gi_of_ne c2; have := gi_of_ne c22; have := gi_of_eq c33; have : (0 : Int32).toInt = 0 := rfl; have : (1 : Int32).toInt = 1 := rfl; have : (16 : Int32).toInt = 16 := rfl; have : (3 : Int32).toInt = 3 := rfl; have : (4 : Int32).toInt = 4 := rfl; have := fb_rng (x4); have := fb_divK (x := x4) (y := 4) (k := 4) rfl (by decide); (try have := fb_mulK (x := (x4 / 4)) (y := 4) (k := 4) rfl (by omega) (by omega)); (try have := fb_subI (x := x4) (y := (x4 / 4 * 4)) (by omega) (by omega)); (try have := fb_addI (x := x4) (y := 1) (by omega) (by omega)); omega) (by have := i0; have := hm; have := gi_of_nle c1; have := gi_of_ne c2; have := gi_of_ne c22; have := gi_of_eq c33; have : (0 : Int32).toInt = 0 := rfl; have : (1 : Int32).toInt = 1 := rfl; have : (16 : Int32).toInt = 16 := rfl; have : (3 : Int32).toInt = 3 := rfl; have : (4 : Int32).toInt = 4 := rfl; have := fb_rng (x4); have := fb_divK (x := x4) (y := 4) (k := 4) rfl (by decide); (try have := fb_mulK (x := (x4 / 4)) (y := 4) (k := 4) rfl (by omega) (by omega)); (try have := fb_subI (x := x4) (y := (x4 / 4 * 4)) (by omega) (by omega)); (try have := fb_addI (x := x4) (y := 1) (by omega) (by omega)); omega) (by have := i0; have := hm; have := gi_of_nle c1; have := gi_of_ne c2; have := gi_of_ne c22; have := gi_of_eq c33; have : (0 : Int32).toInt = 0 := rfl; have : (1 : Int32).toInt = 1 := rfl; have : (16 : Int32).toInt = 16 := rfl; have : (3 : Int32).toInt = 3 := rfl; have : (4 : Int32).toInt = 4 := rfl; have := fb_rng (x4); have := fb_divK (x := x4) (y := 4) (k := 4) rfl (by decide); (try have := fb_mulK (x := (x4 / 4)) (y := 4) (k := 4) rfl (by omega) (by omega)); (try have := fb_subI (x := x4) (y := (x4 / 4 * 4)) (by omega) (by omega)); (try have := fb_addI (x := x4) (y := 1) (by omega) (by omega)); omega)
            · unfold f_X9_manyOf_78
              refine ok_chk (by have := i0; have := hm; have := gi_of_nle c1; have := gi_of_ne c2; have := gi_of_ne c22; have := gi_of_ne c33; have : (0 : Int32).toInt = 0 := rfl; have : (16 : Int32).toInt = 16 := rfl; have : (3 : Int32).toInt = 3 := rfl; have : (4 : Int32).toInt = 4 := rfl; have := fb_rng (x4); have := fb_divK (x := x4) (y := 4) (k := 4) rfl (by decide); (try have := fb_mulK (x := (x4 / 4)) (y := 4) (k := 4) rfl (by omega) (by omega)); (try have := fb_subI (x := x4) (y := (x4 / 4 * 4)) (by omega) (by omega)); omega) ?_
              unfold f_X9_manyOf_89
              exact ih_X9_manyOf_5 (x2 + ((eJ h 0 41) ((x4).toNatClampNeg))) (x4 + 1) (by have := i0; have := hm; have := gi_of_nle c1; have := gi_of_ne c2; have := gi_of_ne c22; have := gi_of_ne c33; have : (0 : Int32).toInt = 0 := rfl; have : (1 : Int32).toInt = 1 := rfl; have : (16 : Int32).toInt = 16 := rfl; have : (3 : Int32).toInt = 3 := rfl; have : (4 : Int32).toInt = 4 := rfl; have := fb_rng (x4); have := fb_divK (x := x4) (y := 4) (k := 4) rfl (by decide); (try have := fb_mulK (x := (x4 / 4)) (y := 4) (k := 4) rfl (by omega) (by omega)); (try have := fb_subI (x := x4) (y := (x4 / 4 * 4)) (by omega) (by omega)); (try have := fb_addI (x := x4) (y := 1) (by omega) (by omega)); omega) (by have := i0; have := hm; have := gi_of_nle c1; have := gi_of_ne c2; have := gi_of_ne c22; have := gi_of_ne c33; have : (0 : Int32).toInt = 0 := rfl; have : (1 : Int32).toInt = 1 := rfl; have : (16 : Int32).toInt = 16 := rfl; have : (3 : Int32).toInt = 3 := rfl; have : (4 : Int32).toInt = 4 := rfl; have := fb_rng (x4); have := fb_divK (x := x4) (y := 4) (k := 4) rfl (by decide); (try have := fb_mulK (x := (x4 / 4)) (y := 4) (k := 4) rfl (by omega) (by omega)); (try have := fb_subI (x := x4) (y := (x4 / 4 * 4)) (by omega) (by omega)); (try have := fb_addI (x := x4) (y := 1) (by omega) (by omega)); omega) (by have := i0; have := hm; have := gi_of_nle c1; have := gi_of_ne c2; have := gi_of_ne c22; have := gi_of_ne c33; have : (0 : Int32).toInt = 0 := rfl; have : (1 : Int32).toInt = 1 := rfl; have : (16 : Int32).toInt = 16 := rfl; have : (3 : Int32).toInt = 3 := rfl; have : (4 : Int32).toInt = 4 := rfl; have := fb_rng (x4); have := fb_divK (x := x4) (y := 4) (k := 4) rfl (by decide); (try have := fb_mulK (x := (x4 / 4)) (y := 4) (k := 4) rfl (by omega) (by omega)); (try have := fb_subI (x := x4) (y := (x4 / 4 * 4)) (by omega) (by omega)); (try have := fb_addI (x := x4) (y := 1) (by omega) (by omega)); omega)
          · refine ok_if (fun c35 => ?_) (fun c35 => ?_)
            · refine ok_if (fun c36 => ?_) (fun c36 => ?_)
              · unfold f_X9_manyOf_88
                unfold f_X9_manyOf_89
                exact ih_X9_manyOf_5 (x2 + 0) (x4 + 1) (by have := i0; have := hm; have := gi_of_nle c1; have := gi_of_ne c2; have := gi_of_ne c22; have := gi_of_eq c36; have : (0 : Int32).toInt = 0 := rfl; have : (1 : Int32).toInt = 1 := rfl; have : (16 : Int32).toInt = 16 := rfl; have : (3 : Int32).toInt = 3 := rfl; have : (4 : Int32).toInt = 4 := rfl; have := fb_rng (x4); have := fb_divK (x := x4) (y := 4) (k := 4) rfl (by decide); (try have := fb_mulK (x := (x4 / 4)) (y := 4) (k := 4) rfl (by omega) (by omega)); (try have := fb_subI (x := x4) (y := (x4 / 4 * 4)) (by omega) (by omega)); (try have := fb_addI (x := x4) (y := 1) (by omega) (by omega)); omega) (by have := i0; have := hm; have := gi_of_nle c1; have := gi_of_ne c2; have := gi_of_ne c22; have := gi_of_eq c36; have : (0 : Int32).toInt = 0 := rfl; have : (1 : Int32).toInt = 1 := rfl; have : (16 : Int32).toInt = 16 := rfl; have : (3 : Int32).toInt = 3 := rfl; have : (4 : Int32).toInt = 4 := rfl; have := fb_rng (x4); have := fb_divK (x := x4) (y := 4) (k := 4) rfl (by decide); (try have := fb_mulK (x := (x4 / 4)) (y := 4) (k := 4) rfl (by omega) (by omega)); (try have := fb_subI (x := x4) (y := (x4 / 4 * 4)) (by omega) (by omega)); (try have := fb_addI (x := x4) (y := 1) (by omega) (by omega)); omega) (by have := i0; have := hm; have := gi_of_nle c1; have := gi_of_ne c2; have := gi_of_ne c22; have := gi_of_eq c36; have : (0 : Int32).toInt = 0 := rfl; have : (1 : Int32).toInt = 1 := rfl; have : (16 : Int32).toInt = 16 := rfl; have : (3 : Int32).toInt = 3 := rfl; have : (4 : Int32).toInt = 4 := rfl; have := fb_rng (x4); have := fb_divK (x := x4) (y := 4) (k := 4) rfl (by decide); (try have := fb_mulK (x := (x4 / 4)) (y := 4) (k := 4) rfl (by omega) (by omega)); (try have := fb_subI (x := x4) (y := (x4 / 4 * 4)) (by omega) (by omega)); (try have := fb_addI (x := x4) (y := 1) (by omega) (by omega)); omega)
              · unfold f_X9_manyOf_78
                refine ok_chk (by have := i0; have := hm; have := gi_of_nle c1; have := gi_of_ne c2; have := gi_of_ne c22; have := gi_of_ne c36; have : (0 : Int32).toInt = 0 := rfl; have : (16 : Int32).toInt = 16 := rfl; have : (3 : Int32).toInt = 3 := rfl; have : (4 : Int32).toInt = 4 := rfl; have := fb_rng (x4); have := fb_divK (x := x4) (y := 4) (k := 4) rfl (by decide); (try have := fb_mulK (x := (x4 / 4)) (y := 4) (k := 4) rfl (by omega) (by omega)); (try have := fb_subI (x := x4) (y := (x4 / 4 * 4)) (by omega) (by omega)); omega) ?_
                unfold f_X9_manyOf_89
                exact ih_X9_manyOf_5 (x2 + ((eJ h 0 41) ((x4).toNatClampNeg))) (x4 + 1) (by have := i0; have := hm; have := gi_of_nle c1; have := gi_of_ne c2; have := gi_of_ne c22; have := gi_of_ne c36; have : (0 : Int32).toInt = 0 := rfl; have : (1 : Int32).toInt = 1 := rfl; have : (16 : Int32).toInt = 16 := rfl; have : (3 : Int32).toInt = 3 := rfl; have : (4 : Int32).toInt = 4 := rfl; have := fb_rng (x4); have := fb_divK (x := x4) (y := 4) (k := 4) rfl (by decide); (try have := fb_mulK (x := (x4 / 4)) (y := 4) (k := 4) rfl (by omega) (by omega)); (try have := fb_subI (x := x4) (y := (x4 / 4 * 4)) (by omega) (by omega)); (try have := fb_addI (x := x4) (y := 1) (by omega) (by omega)); omega) (by have := i0; have := hm; have := gi_of_nle c1; have := gi_of_ne c2; have := gi_of_ne c22; have := gi_of_ne c36; have : (0 : Int32).toInt = 0 := rfl; have : (1 : Int32).toInt = 1 := rfl; have : (16 : Int32).toInt = 16 := rfl; have : (3 : Int32).toInt = 3 := rfl; have : (4 : Int32).toInt = 4 := rfl; have := fb_rng (x4); have := fb_divK (x := x4) (y := 4) (k := 4) rfl (by decide); (try have := fb_mulK (x := (x4 / 4)) (y := 4) (k := 4) rfl (by omega) (by omega)); (try have := fb_subI (x := x4) (y := (x4 / 4 * 4)) (by omega) (by omega)); (try have := fb_addI (x := x4) (y := 1) (by omega) (by omega)); omega) (by have := i0; have := hm; have := gi_of_nle c1; have := gi_of_ne c2; have := gi_of_ne c22; have := gi_of_ne c36; have : (0 : Int32).toInt = 0 := rfl; have : (1 : Int32).toInt = 1 := rfl; have : (16 : Int32).toInt = 16 := rfl; have : (3 : Int32).toInt = 3 := rfl; have : (4 : Int32).toInt = 4 := rfl; have := fb_rng (x4); have := fb_divK (x := x4) (y := 4) (k := 4) rfl (by decide); (try have := fb_mulK (x := (x4 / 4)) (y := 4) (k := 4) rfl (by omega) (by omega)); (try have := fb_subI (x := x4) (y := (x4 / 4 * 4)) (by omega) (by omega)); (try have := fb_addI (x := x4) (y := 1) (by omega) (by omega)); omega)
            · refine ok_if (fun c38 => ?_) (fun c38 => ?_)
              · unfold f_X9_manyOf_88
                unfold f_X9_manyOf_89
                exact ih_X9_manyOf_5 (x2 + 0) (x4 + 1) (by have := i0; have := hm; have := gi_of_nle c1; have := gi_of_ne c2; have := gi_of_ne c22; have := gi_of_eq c38; have : (0 : Int32).toInt = 0 := rfl; have : (1 : Int32).toInt = 1 := rfl; have : (16 : Int32).toInt = 16 := rfl; have : (3 : Int32).toInt = 3 := rfl; have : (4 : Int32).toInt = 4 := rfl; have := fb_rng (x4); have := fb_divK (x := x4) (y := 4) (k := 4) rfl (by decide); (try have := fb_mulK (x := (x4 / 4)) (y := 4) (k := 4) rfl (by omega) (by omega)); (try have := fb_subI (x := x4) (y := (x4 / 4 * 4)) (by omega) (by omega)); (try have := fb_addI (x := x4) (y := 1) (by omega) (by omega)); omega) (by have := i0; have := hm; have := gi_of_nle c1; have := gi_of_ne c2; have := gi_of_ne c22; have := gi_of_eq c38; have : (0 : Int32).toInt = 0 := rfl; have : (1 : Int32).toInt = 1 := rfl; have : (16 : Int32).toInt = 16 := rfl; have : (3 : Int32).toInt = 3 := rfl; have : (4 : Int32).toInt = 4 := rfl; have := fb_rng (x4); have := fb_divK (x := x4) (y := 4) (k := 4) rfl (by decide); (try have := fb_mulK (x := (x4 / 4)) (y := 4) (k := 4) rfl (by omega) (by omega)); (try have := fb_subI (x := x4) (y := (x4 / 4 * 4)) (by omega) (by omega)); (try have := fb_addI (x := x4) (y := 1) (by omega) (by omega)); omega) (by have := i0; have := hm; have := gi_of_nle c1; have := gi_of_ne c2; have := gi_of_ne c22; have := gi_of_eq c38; have : (0 : Int32).toInt = 0 := rfl; have : (1 : Int32).toInt = 1 := rfl; have : (16 : Int32).toInt = 16 := rfl; have : (3 : Int32).toInt = 3 := rfl; have : (4 : Int32).toInt = 4 := rfl; have := fb_rng (x4); have := fb_divK (x := x4) (y := 4) (k := 4) rfl (by decide); (try have := fb_mulK (x := (x4 / 4)) (y := 4) (k := 4) rfl (by omega) (by omega)); (try have := fb_subI (x := x4) (y := (x4 / 4 * 4)) (by omega) (by omega)); (try have := fb_addI (x := x4) (y := 1) (by omega) (by omega)); omega)
              · refine ok_if (fun c39 => ?_) (fun c39 => ?_)
                · unfold f_X9_manyOf_78
                  refine ok_chk (by have := i0; have := hm; have := gi_of_nle c1; have := gi_of_ne c2; have := gi_of_ne c22; have := gi_of_ne c38; have := gi_of_eq c39; have : (0 : Int32).toInt = 0 := rfl; have : (16 : Int32).toInt = 16 := rfl; have : (3 : Int32).toInt = 3 := rfl; have : (4 : Int32).toInt = 4 := rfl; have := fb_rng (x4); have := fb_divK (x := x4) (y := 4) (k := 4) rfl (by decide); (try have := fb_mulK (x := (x4 / 4)) (y := 4) (k := 4) rfl (by omega) (by omega)); (try have := fb_subI (x := x4) (y := (x4 / 4 * 4)) (by omega) (by omega)); omega) ?_
                  unfold f_X9_manyOf_89
                  exact ih_X9_manyOf_5 (x2 + ((eJ h 0 41) ((x4).toNatClampNeg))) (x4 + 1) (by have := i0; have := hm; have := gi_of_nle c1; have := gi_of_ne c2; have := gi_of_ne c22; have := gi_of_ne c38; have := gi_of_eq c39; have : (0 : Int32).toInt = 0 := rfl; have : (1 : Int32).toInt = 1 := rfl; have : (16 : Int32).toInt = 16 := rfl; have : (3 : Int32).toInt = 3 := rfl; have : (4 : Int32).toInt = 4 := rfl; have := fb_rng (x4); have := fb_divK (x := x4) (y := 4) (k := 4) rfl (by decide); (try have := fb_mulK (x := (x4 / 4)) (y := 4) (k := 4) rfl (by omega) (by omega)); (try have := fb_subI (x := x4) (y := (x4 / 4 * 4)) (by omega) (by omega)); (try have := fb_addI (x := x4) (y := 1) (by omega) (by omega)); omega) (by have := i0; have := hm; have := gi_of_nle c1; have := gi_of_ne c2; have := gi_of_ne c22; have := gi_of_ne c38; have := gi_of_eq c39; have : (0 : Int32).toInt = 0 := rfl; have : (1 : Int32).toInt = 1 := rfl; have : (16 : Int32).toInt = 16 := rfl; have : (3 : Int32).toInt = 3 := rfl; have : (4 : Int32).toInt = 4 := rfl; have := fb_rng (x4); have := fb_divK (x := x4) (y := 4) (k := 4) rfl (by decide); (try have := fb_mulK (x := (x4 / 4)) (y := 4) (k := 4) rfl (by omega) (by omega)); (try have := fb_subI (x := x4) (y := (x4 / 4 * 4)) (by omega) (by omega)); (try have := fb_addI (x := x4) (y := 1) (by omega) (by omega)); omega) (by have := i0; have := hm; have := gi_of_nle c1; have := gi_of_ne c2; have := gi_of_ne c22; have := gi_of_ne c38; have := gi_of_eq c39; have : (0 : Int32).toInt = 0 := rfl; have : (1 : Int32).toInt = 1 := rfl; have : (16 : Int32).toInt = 16 := rfl; have : (3 : Int32).toInt = 3 := rfl; have : (4 : Int32).toInt = 4 := rfl; have := fb_rng (x4); have := fb_divK (x := x4) (y := 4) (k := 4) rfl (by decide); (try have := fb_mulK (x := (x4 / 4)) (y := 4) (k := 4) rfl (by omega) (by omega)); (try have := fb_subI (x := x4) (y := (x4 / 4 * 4)) (by omega) (by omega)); (try have := fb_addI (x := x4) (y := 1) (by omega) (by omega)); omega)
                · unfold f_X9_manyOf_88
                  unfold f_X9_manyOf_89
                  exact ih_X9_manyOf_5 (x2 + 0) (x4 + 1) (by have := i0; have := hm; have := gi_of_nle c1; have := gi_of_ne c2; have := gi_of_ne c22; have := gi_of_ne c38; have := gi_of_ne c39; have : (0 : Int32).toInt = 0 := rfl; have : (1 : Int32).toInt = 1 := rfl; have : (16 : Int32).toInt = 16 := rfl; have : (3 : Int32).toInt = 3 := rfl; have : (4 : Int32).toInt = 4 := rfl; have := fb_rng (x4); have := fb_divK (x := x4) (y := 4) (k := 4) rfl (by decide); (try have := fb_mulK (x := (x4 / 4)) (y := 4) (k := 4) rfl (by omega) (by omega)); (try have := fb_subI (x := x4) (y := (x4 / 4 * 4)) (by omega) (by omega)); (try have := fb_addI (x := x4) (y := 1) (by omega) (by omega)); omega) (by have := i0; have := hm; have := gi_of_nle c1; have := gi_of_ne c2; have := gi_of_ne c22; have := gi_of_ne c38; have := gi_of_ne c39; have : (0 : Int32).toInt = 0 := rfl; have : (1 : Int32).toInt = 1 := rfl; have : (16 : Int32).toInt = 16 := rfl; have : (3 : Int32).toInt = 3 := rfl; have : (4 : Int32).toInt = 4 := rfl; have := fb_rng (x4); have := fb_divK (x := x4) (y := 4) (k := 4) rfl (by decide); (try have := fb_mulK (x := (x4 / 4)) (y := 4) (k := 4) rfl (by omega) (by omega)); (try have := fb_subI (x := x4) (y := (x4 / 4 * 4)) (by omega) (by omega)); (try have := fb_addI (x := x4) (y := 1) (by omega) (by omega)); omega) (by have := i0; have := hm; have := gi_of_nle c1; have := gi_of_ne c2; have := gi_of_ne c22; have := gi_of_ne c38; have := gi_of_ne c39; have : (0 : Int32).toInt = 0 := rfl; have : (1 : Int32).toInt = 1 := rfl; have : (16 : Int32).toInt = 16 := rfl; have : (3 : Int32).toInt = 3 := rfl; have : (4 : Int32).toInt = 4 := rfl; have := fb_rng (x4); have := fb_divK (x := x4) (y := 4) (k := 4) rfl (by decide); (try have := fb_mulK (x := (x4 / 4)) (y := 4) (k := 4) rfl (by omega) (by omega)); (try have := fb_subI (x := x4) (y := (x4 / 4 * 4)) (by omega) (by omega)); (try have := fb_addI (x := x4) (y := 1) (by omega) (by omega)); omega)
theorem u_X9_manyOf (h : HS) (p1 : Int32) (hI : IM h) : ok (f_X9_manyOf h p1) (fun a => a.2 = h ∧ True) := by
  unfold f_X9_manyOf
  exact u_X9_manyOf_5 h p1 ((SM_refl hI)).1 8589934592 0 0 (by have : (0 : Int32).toInt = 0 := rfl; omega) (by decide) (by have : (0 : Int32).toInt = 0 := rfl; omega)
theorem l_rng (x : Int64) : -9223372036854775808 ≤ x.toInt ∧ x.toInt < 9223372036854775808 := by
  have h1 := Int64.le_toInt x
  have h2 := Int64.toInt_lt x
  omega
theorem l_bmod {z : Int} (h1 : -9223372036854775808 ≤ z) (h2 : z < 9223372036854775808) : z.bmod (2 ^ 64) = z := by
  rw [Int.bmod_eq_of_le (by omega) (by omega)]
theorem l_rem {x y : Int64} (hy : ¬ y = 0) : (x - x / y * y).toInt.natAbs = x.toInt.natAbs % y.toInt.natAbs := by
  have hy0 : y.toInt ≠ 0 := fun e => hy (Int64.toInt_inj.mp (e.trans rfl))
  by_cases h1 : y = -1
  · subst h1
    have e1 : (-1 : Int64).toInt.natAbs = 1 := rfl
    have e2 : x / -1 * -1 = x := by
      apply Int64.toInt_inj.mp
      rw [Int64.toInt_mul, Int64.toInt_div]
      have e3 : (-1 : Int64).toInt = -1 := rfl
      rw [e3, Int.tdiv_neg, Int.tdiv_one]
      have r := l_rng x
      by_cases c : x.toInt = -9223372036854775808
      · rw [c]; rfl
      · have e4 : (-x.toInt).bmod (2 ^ 64) = -x.toInt := l_bmod (by omega) (by omega)
        rw [e4, l_bmod (by omega) (by omega)]; omega
    rw [e1, e2, Int64.sub_self, Nat.mod_one]; rfl
  · have hd : (x / y).toInt = x.toInt.tdiv y.toInt := Int64.toInt_div_of_ne_right _ _ h1
    have r := l_rng x
    have key : x.toInt.tdiv y.toInt * y.toInt + x.toInt.tmod y.toInt = x.toInt := by rw [Int.mul_comm]; exact Int.mul_tdiv_add_tmod x.toInt y.toInt
    have hb : (x.toInt.tmod y.toInt).natAbs = x.toInt.natAbs % y.toInt.natAbs := Int.natAbs_tmod x.toInt y.toInt
    have hle : x.toInt.natAbs % y.toInt.natAbs ≤ x.toInt.natAbs := Nat.mod_le _ _
    have hsg : (0 ≤ x.toInt → 0 ≤ x.toInt.tmod y.toInt) ∧ (x.toInt ≤ 0 → x.toInt.tmod y.toInt ≤ 0) := by
      refine ⟨fun h => Int.tmod_nonneg _ h, fun h => ?_⟩
      have e : x.toInt = -(-x.toInt) := by omega
      rw [e, Int.neg_tmod]
      have := Int.tmod_nonneg y.toInt (a := -x.toInt) (by omega)
      omega
    have hm : (x / y * y).toInt = x.toInt.tdiv y.toInt * y.toInt := by
      rw [Int64.toInt_mul, hd]
      generalize x.toInt.tdiv y.toInt * y.toInt = q at *
      exact l_bmod (by omega) (by omega)
    have hs : (x - x / y * y).toInt = x.toInt.tmod y.toInt := by
      rw [Int64.toInt_sub, hm]
      generalize x.toInt.tdiv y.toInt * y.toInt = q at *
      rw [l_bmod (by omega) (by omega)]; omega
    rw [hs, hb]
theorem l_nz {x : Int64} (h : ¬ lg_cmp x 0 = 0) : ¬ x = 0 := fb_lgz h
theorem l_z {x : Int64} (h : x.toInt.natAbs < 1) : lg_cmp x 0 = 0 := by
  have : x = 0 := Int64.toInt_inj.mp (by have : x.toInt = 0 := by omega
                                         rw [this]; rfl)
  subst this; decide
theorem odds_end {h : HS} {x3 : Int32} {x5 x7 x9 : Int64} (h9 : ¬ x9 = 0) : ok (if x3 = 0 then (if ¬ x9 = 0 then f_X9_odds_212 h (x7 / x9) else none) else (if ¬ x9 = 0 then f_X9_odds_212 h (x5 / x9) else none)) (fun a => a.2 = h) := by
  unfold f_X9_odds_212
  exact ok_if (fun c => ok_chk h9 (ok_some rfl)) (fun c => ok_chk h9 (ok_some rfl))
theorem u_X9_odds_170 (h : HS) (x3 : Int32) (x5 x7 : Int64) : ∀ (k n : Nat) (x9 x11 : Int64), ¬ x9 = 0 → x11.toInt.natAbs < 2 ^ k → 2 * k + 1 ≤ n → ok (f_X9_odds_170 n h x3 x5 x7 x9 x11) (fun a => a.2 = h) := by
  intro k
  induction k with
  | zero =>
    intro n x9 x11 h9 hb hn
    obtain ⟨m, rfl⟩ : ∃ m, n = m + 1 := ⟨n - 1, by omega⟩
    rw [f_X9_odds_170_s, if_pos (l_z (by simpa using hb))]
    exact odds_end h9
  | succ k ih =>
    intro n x9 x11 h9 hb hn
    obtain ⟨m, rfl⟩ : ∃ m, n = m + 1 + 1 := ⟨n - 2, by omega⟩
    rw [f_X9_odds_170_s]
    refine ok_if (fun c => odds_end h9) (fun c => ?_)
    have n11 := l_nz c
    refine ok_chk n11 ?_
    have e1 := l_rem (x := x9) n11
    generalize x9 - x9 / x11 * x11 = z at *
    rw [f_X9_odds_170_s]
    refine ok_if (fun c => odds_end n11) (fun c2 => ?_)
    have nz := l_nz c2
    refine ok_chk nz ?_
    have e2 := l_rem (x := x11) nz
    generalize x11 - x11 / z * z = z2 at *
    refine ih m z z2 nz ?_ (by omega)
    have p11 : 0 < x11.toInt.natAbs := by
      apply Nat.pos_of_ne_zero
      intro e
      exact n11 (Int64.toInt_inj.mp (by rw [Int.natAbs_eq_zero.mp e]; rfl))
    have pz : 0 < z.toInt.natAbs := by
      apply Nat.pos_of_ne_zero
      intro e
      exact nz (Int64.toInt_inj.mp (by rw [Int.natAbs_eq_zero.mp e]; rfl))
    have l1 : z.toInt.natAbs < x11.toInt.natAbs := by rw [e1]; exact Nat.mod_lt _ p11
    have l2 : z2.toInt.natAbs < z.toInt.natAbs := by rw [e2]; exact Nat.mod_lt _ pz
    have l3 : z2.toInt.natAbs + z.toInt.natAbs ≤ x11.toInt.natAbs := by
      rw [e2]
      generalize x11.toInt.natAbs = a at *
      generalize z.toInt.natAbs = b at *
      have hq : 1 ≤ a / b := (Nat.one_le_div_iff pz).mpr (by omega)
      have hd := Nat.div_add_mod a b
      have : b * 1 ≤ b * (a / b) := Nat.mul_le_mul_left b hq
      omega
    rw [Nat.pow_succ] at hb
    omega
theorem ofG {h : HS} {p c : Int32} (w0 : 0 ≤ p.toInt ∧ p.toInt ≤ 9) (w1 : 0 ≤ c.toInt ∧ c.toInt ≤ 8) : f_X9_ofGoose h p c = some (eA h 0 0 (30 + 9 * p.toInt.toNat + c.toInt.toNat), h) := by
  have ix := ix9 w0 w1
  unfold f_X9_ofGoose
  rw [if_pos (by omega), ix.2]
theorem pow100 {m : Nat} (h : m ≤ 8) : (1 : Int) ≤ 100 ^ m ∧ (100 : Int) ^ m ≤ 10000000000000000 := by
  have key : ∀ m : Fin 9, (1 : Int) ≤ 100 ^ m.val ∧ (100 : Int) ^ m.val ≤ 10000000000000000 := by decide
  exact key ⟨m, by omega⟩
theorem u_X9_odds_51 {h0 : HS} (x1 x2 x3 : Int32) (w1 : 0 ≤ x1.toInt ∧ x1.toInt ≤ 5) : ∀ (n : Nat) (h : HS) (x4 : Int32) (x5 : Int64) (x7 : Int32), SM h0 h → (0 ≤ x4.toInt ∧ x4.toInt ≤ 8) → x5.toInt = 100 ^ x4.toInt.toNat → 0 ≤ x7.toInt → 0 < n → (10 - (x7).toInt : Int) < (n : Int) → ok (f_X9_odds_51 n h x1 x2 x3 x4 x5 x7) (fun a => SM h0 a.2 ∧ True) := by
  intro n
  induction n with
  | zero => intro h x4 x5 x7 s i4 e5 i0 hn hm; exact absurd hn (by decide)
  | succ n ih =>
    intro h x4 x5 x7 s i4 e5 i0 hn hm
    rw [f_X9_odds_51_s]
    unfold f_X9_odds_149
    have hn := IM_n s.1
    have z1 : (1 : Int32).toInt = 1 := rfl; have z2 : (2 : Int32).toInt = 2 := rfl; have z3 : (3 : Int32).toInt = 3 := rfl; have z8 : (8 : Int32).toInt = 8 := rfl
    have p5 := pow100 (m := x4.toInt.toNat) (by omega)
    rw [← e5] at p5
    refine ok_if (fun c => ?_) (fun c => ?_)
    · refine ok_ob2 (u_X9_manyOf h x2 s.1) (fun r9 h9 k9 => ?_)
      have e : h = h9 := k9.1.symm
      subst e
      have n5 : ¬ x5 = 0 := by
        intro e
        rw [e] at p5
        exact absurd p5.1 (by decide)
      have rg := l_rng r9
      refine ok_mono (u_X9_odds_170 h x3 x5 r9 64 _ x5 r9 n5 (by omega) (by decide)) (fun a k => ?_)
      rw [k]; exact ⟨s, trivial⟩
    have d := gi_of_nle c
    have w : 0 ≤ x7.toInt ∧ x7.toInt ≤ 9 := by omega
    have a7 := fb_addI (x := x7) (y := 1) (by omega) (by omega)
    have a4 := fb_addI (x := x4) (y := 1) (by omega) (by omega)
    refine ok_ob2e9 (ofG w (by decide)) ?_
    refine ok_if (fun c1 => ?_) (fun c => ih h x4 x5 (x7 + 1) s i4 e5 (by omega) (by omega) (by omega))
    refine ok_ob2e9 (ofG w (by decide)) ?_
    refine ok_if (fun c2 => ?_) (fun c => ih h x4 x5 (x7 + 1) s i4 e5 (by omega) (by omega) (by omega))
    refine ok_if (fun c3 => ?_) (fun c => ok_some ⟨s, trivial⟩)
    have d3 := gi_of_le c3
    refine ok_ob2 (u_X9_marketOf h 0 x7 s.1 (by decide) w) (fun r15 h15 k15 => ?_)
    have s15 := SM_trans s k15.1
    refine ok_ob2 (u_X9_marketOf h15 1 x7 s15.1 (by decide) w) (fun r16 h16 k16 => ?_)
    have s16 := SM_trans s15 k16.1
    refine ok_ob2 (u_X9_isTrue h16 x7 s16.1 w) (fun r17 h17 k17 => ?_)
    have s17 := SM_trans s16 k17.1
    refine ok_ob2e9 (ofG w (by decide)) ?_
    have gb := s.1.2.1.2.1 x7.toInt.toNat (by omega)
    have er : eA h17 0 0 = eA h 0 0 := by rw [s17.2.1, s.2.1]
    have t2 : (2 : Int32).toInt.toNat = 2 := rfl; have t3 : (3 : Int32).toInt.toNat = 3 := rfl
    rw [t2] at c1
    rw [er, t3]
    have g1 := gi_of_eq c1
    refine ok_ob1 (u_X9_comesMany h17 r15 r16 _ r17 s17.1 (by omega)) (fun h19 k19 => ?_)
    refine ih h19 (x4 + 1) (x5 * 100) (x7 + 1) (SM_trans s17 k19.1) (by omega) ?_ (by omega) (by omega) (by omega)
    have q : (x4 + 1).toInt.toNat = x4.toInt.toNat + 1 := by omega
    rw [q, Int.pow_succ, ← e5, Int64.toInt_mul]
    have z100 : (100 : Int64).toInt = 100 := rfl
    have p4 := pow100 (m := x4.toInt.toNat + 1) (by omega)
    rw [Int.pow_succ, ← e5] at p4
    rw [z100, l_bmod (by omega) (by omega)]
theorem u_X9_odds (h : HS) (p1 p2 p3 : Int32) (hI : IM h) : ok (f_X9_odds h p1 p2 p3) (fun a => SM h a.2 ∧ True) := by
  unfold f_X9_odds f_X9_odds_16
  refine ok_ob1 (u_X9_isLetterNumber p1) (fun r1 k1 => ok_if (fun c => ok_some ⟨SM_refl hI, trivial⟩) (fun c1 => ?_))
  refine ok_ob1 (u_X9_in p2 0 2) (fun r3 k3 => ok_if (fun c => ok_some ⟨SM_refl hI, trivial⟩) (fun c3 => ?_))
  have z0 : (0 : Int32).toInt = 0 := rfl
  have d1 := gi_of_ne c1; have q1 := k1.2
  refine ok_ob2 (u_X9_knownBy h p1 999 0 hI) (fun r5 h5 k5 => ?_)
  refine ok_ob2 (u_X9_knownBy h5 p1 999 1 k5.1.1) (fun r6 h6 k6 => ?_)
  have s6 := SM_trans k5.1 k6.1
  refine ok_ob1 (u_X9_startsMany h6 r5 r6 s6.1) (fun h7 k7 => ?_)
  exact u_X9_odds_51 p1 p2 p3 (by omega) _ h7 0 1 0 (SM_trans s6 k7.1) (by decide) rfl (by decide) (by decide) (by omega)
def SF (h c : HS) : Prop := IM c ∧ eA c 0 0 = eA h 0 0
theorem u_X9_laysFlock_67 {h0 : HS} {T : Int} (x1 x2 : Int32) (w : 0 ≤ x2.toInt ∧ x2.toInt ≤ 9) {k7 : HS → Int32 → Int32 → Option HS} (hk : ∀ h : HS, SF h0 h → (eI h 0 47).toInt = T → ok (k7 h x1 (x2 + 1)) (fun a => SF h0 a)) : ∀ (n : Nat) (h : HS) (x3 : Int32), SF h0 h → (eI h 0 47).toInt = T → 0 ≤ x3.toInt → 0 < n → (12 - (x3).toInt : Int) < (n : Int) → ok (f_X9_laysFlock_67 k7 n h x1 x2 x3) (fun a => SF h0 a) := by
  intro n
  induction n with
  | zero => intro h x3 s eT i0 hn hm; exact absurd hn (by decide)
  | succ n ih =>
    intro h x3 s eT i0 hn hm
    rw [f_X9_laysFlock_67_s]
    unfold f_X9_laysFlock_188
    have hn := IM_n s.1
    have z1 : (1 : Int32).toInt = 1 := rfl; have z10 : (10 : Int32).toInt = 10 := rfl
    have e3 : (3 * eA h 0 0 0).toInt = 3 * (eA h 0 0 0).toInt := fb_mulJ rfl (by omega) (by omega)
    refine ok_if (fun c => hk h s eT) (fun c => ?_)
    have d := gi_of_nle c
    have dv := (fb_divK (x := x3) (y := 3) (k := 3) rfl (by decide)).1 i0
    have m1 : (3 * (x3 / 3)).toInt = 3 * (x3 / 3).toInt := fb_mulJ rfl (by omega) (by omega)
    have m2 : (10 + 3 * (x3 / 3)).toInt = 10 + 3 * (x3 / 3).toInt := by rw [fb_addI (by omega) (by omega)]; omega
    have m3 : (12 * x2).toInt = 12 * x2.toInt := fb_mulJ rfl (by omega) (by omega)
    have m4 : (12 * x2 + x3).toInt = 12 * x2.toInt + x3.toInt := by rw [fb_addI (by omega) (by omega)]; omega
    have m5 := fb_addI (x := x3) (y := 1) (by omega) (by omega)
    refine ok_chk (by omega) ?_
    refine ok_ob2 (u_X9_marketTells h 0 x2 x1 _ (x3 / 3) _ s.1 (by decide) w (by omega)) (fun r11 h11 k11 => ?_)
    refine ok_chk (by omega) ?_
    refine ok_ob2 (u_X9_marketTells (sA h11 0 43 _) 1 x2 x1 _ (x3 / 3) _ (show IM (sA h11 0 43 _) from k11.1.1) (by decide) w (by omega)) (fun r13 h13 k13 => ?_)
    have s13 : SM h h13 := SM_trans (b := sA h11 0 43 _) k11.1 k13.1
    refine ok_chk (by omega) ?_
    refine ok_ob2 (u_X9_ofGoose (sA h13 0 44 _) x2 1 (show IM (sA h13 0 44 _) from s13.1) w (by decide)) (fun r15 h15 k15 => ?_)
    have e15 := k15.1.symm
    subst e15
    refine ok_ob2 (u_X9_isTrueBy (sA h13 0 44 _) x2 x1 _ r15 (show IM (sA h13 0 44 _) from s13.1) w) (fun r16 h16 k16 => ?_)
    have s16 : SM h h16 := SM_trans (b := sA h13 0 44 _) s13 k16.1
    refine ok_chk (by omega) ?_
    exact ih _ (x3 + 1) ⟨s16.1, s16.2.1.trans s.2⟩ (by show (eI h16 0 47).toInt = T; rw [s16.2.2.2.2]; exact eT) (by omega) (by omega) (by omega)
theorem u_X9_laysFlock_7 {h0 : HS} (x1 : Int32) : ∀ (n : Nat) (h : HS) (x2 : Int32), SF h0 h → (eI h 0 47).toInt ≤ x2.toInt → 0 ≤ x2.toInt → 0 < n → (10 - (x2).toInt : Int) < (n : Int) → ok (f_X9_laysFlock_7 n h x1 x2) (fun a => SF h0 a) := by
  intro n
  induction n with
  | zero => intro h x2 s eT i0 hn hm; exact absurd hn (by decide)
  | succ n ih =>
    intro h x2 s eT i0 hn hm
    rw [f_X9_laysFlock_7_s]
    unfold f_X9_laysFlock_188
    have hn := IM_n s.1
    have z1 : (1 : Int32).toInt = 1 := rfl
    refine ok_if (fun c => ok_some s) (fun c => ?_)
    have d := gi_of_nle c
    have a2 := fb_addI (x := x2) (y := 1) (by omega) (by omega)
    have w : 0 ≤ x2.toInt ∧ x2.toInt ≤ 9 := by omega
    refine ok_ob2 (u_X9_isHome h x2 s.1) (fun r2 h2 k2 => ?_)
    have e2 : h = h2 := k2.1.symm
    subst e2
    refine ok_if (fun c => ih h (x2 + 1) s (by omega) (by omega) (by omega) (by omega)) (fun c2 => ?_)
    refine ok_ob2 (u_X9_ofGoose h x2 8 s.1 w (by decide)) (fun r4 h4 k4 => ?_)
    have e4 : h = h4 := k4.1.symm
    subst e4
    refine ok_if (fun c4 => ?_) (fun c => ih h (x2 + 1) s (by omega) (by omega) (by omega) (by omega))
    refine ok_ob2 (u_X9_ofGoose h x2 2 s.1 w (by decide)) (fun r6 h6 k6 => ?_)
    have e6 : h = h6 := k6.1.symm
    subst e6
    refine ok_if (fun c6 => ?_) (fun c => ih h (x2 + 1) s (by omega) (by omega) (by omega) (by omega))
    refine ok_chk (by omega) ?_
    have a47 : (eI h 0 47 + 1).toInt = (eI h 0 47).toInt + 1 := by rw [fb_addI (by omega) (by omega)]; omega
    refine u_X9_laysFlock_67 (T := (eI h 0 47).toInt + 1) x1 x2 w (fun h s e => ih h (x2 + 1) s (by omega) (by omega) (by omega) (by omega)) _ _ 0 ⟨?_, s.2⟩ a47 (by decide) (by decide) (by have : (0 : Int32).toInt = 0 := rfl; omega)
    obtain ⟨⟨⟨n1, _⟩, r⟩, _⟩ := s
    exact ⟨⟨n1, ⟨by show 0 ≤ (eI h 0 47 + 1).toInt; omega, by show (eI h 0 47 + 1).toInt ≤ 10; omega⟩⟩, r⟩
theorem u_X9_laysFlock (h : HS) (p1 : Int32) (hI : IM h) : ok (f_X9_laysFlock h p1) (fun a => SF h a) := by
  unfold f_X9_laysFlock
  refine u_X9_laysFlock_7 p1 _ (sI h 0 47 0) 0 ⟨?_, rfl⟩ (by show (0 : Int32).toInt ≤ (0 : Int32).toInt; decide) (by decide) (by decide) (by have : (0 : Int32).toInt = 0 := rfl; omega)
  obtain ⟨⟨n1, _⟩, r⟩ := hI
  exact ⟨⟨n1, ⟨by show 0 ≤ (0 : Int32).toInt; decide, by show (0 : Int32).toInt ≤ 10; decide⟩⟩, r⟩
theorem u_X9_asksPlan_138 {h0 : HS} (x1 : Int32) (w : x1.toInt ≤ 3) : ∀ (n : Nat) (h : HS) (x7 : Int32), SM h0 h → 0 ≤ x7.toInt → 0 < n → (3 - (x7).toInt : Int) < (n : Int) → ok (f_X9_asksPlan_138 n h x1 x7) (fun a => SM h0 a ∧ True) := by
  intro n
  induction n with
  | zero => intro h x7 s i0 hn hm; exact absurd hn (by decide)
  | succ n ih =>
    intro h x7 s i0 hn hm
    rw [f_X9_asksPlan_138_s]
    refine ok_if (fun c => ok_some ⟨s, trivial⟩) (fun c => ?_)
    have d := gi_of_nle c
    have z1 : (1 : Int32).toInt = 1 := rfl
    have a := fb_addI (x := x7) (y := 1) (by omega) (by omega)
    refine ok_chk (by omega) (ok_chk (by omega) (ok_chk (by omega) (ok_chk (by omega) ?_)))
    exact ih _ (x7 + 1) s (by omega) (by omega) (by omega)
theorem u_X9_asksPlan_11 {h0 : HS} (x1 x2 : Int32) (w : x1.toInt ≤ 3) : ∀ (n : Nat) (h : HS) (x3 : Int64) (x5 : Int32), SM h0 h → 0 ≤ x5.toInt → 0 < n → (3 - (x5).toInt : Int) < (n : Int) → ok (f_X9_asksPlan_11 n h x1 x2 x3 x5) (fun a => SM h0 a ∧ True) := by
  intro n
  induction n with
  | zero => intro h x3 x5 s i0 hn hm; exact absurd hn (by decide)
  | succ n ih =>
    intro h x3 x5 s i0 hn hm
    rw [f_X9_asksPlan_11_s]
    unfold f_X9_asksPlan_128 f_X9_asksPlan_129
    have z1 : (1 : Int32).toInt = 1 := rfl
    refine ok_if (fun c => ?_) (fun c => ?_)
    · refine ok_ob2 (u_X9_manyOf h 1 s.1) (fun r3 h3 k3 => ?_)
      have e3 : h = h3 := k3.1.symm
      subst e3
      refine ok_ob2 (u_X9_manyOf h 0 s.1) (fun r4 h4 k4 => ?_)
      have e4 : h = h4 := k4.1.symm
      subst e4
      have go : ok (f_X9_asksPlan_138 8589934592 (sL h 0 52 r3) x1 0) (fun a => SM h0 a ∧ True) := u_X9_asksPlan_138 x1 w _ (sL h 0 52 r3) 0 s (by decide) (by decide) (by have : (0 : Int32).toInt = 0 := rfl; omega)
      exact ok_if (fun c => ok_some ⟨s, trivial⟩) (fun c => ok_if (fun c => go) (fun c => ok_if (fun c => go) (fun c => ok_some ⟨s, trivial⟩)))
    · have d := gi_of_nle c
      have a := fb_addI (x := x5) (y := 1) (by omega) (by omega)
      have b5 : x5.toNatClampNeg = x5.toInt.toNat := by rw [Int32.toNatClampNeg]
      have ch := s.1.2.2.2.2 x5.toInt.toNat (by omega)
      rw [b5]
      have m3 : (12 * eA h 0 48 x5.toInt.toNat).toInt = 12 * (eA h 0 48 x5.toInt.toNat).toInt := fb_mulJ rfl (by omega) (by omega)
      have m4 : (12 * eA h 0 48 x5.toInt.toNat + eA h 0 49 x5.toInt.toNat).toInt = 12 * (eA h 0 48 x5.toInt.toNat).toInt + (eA h 0 49 x5.toInt.toNat).toInt := by rw [fb_addI (by omega) (by omega)]; omega
      have rm := fb_rem (x := eA h 0 49 x5.toInt.toNat) (y := 3) (k := 3) rfl (by decide) (by omega)
      have q1 : 0 ≤ x5.toInt ∧ x5.toInt < 3 := by omega
      have q2 : 0 ≤ (12 * eA h 0 48 x5.toInt.toNat + eA h 0 49 x5.toInt.toNat).toInt ∧ (12 * eA h 0 48 x5.toInt.toNat + eA h 0 49 x5.toInt.toNat).toInt < 120 := by omega
      refine ok_chk q1 (ok_chk q1 (ok_chk q2 (ok_chk q2 (ok_chk q1 (ok_chk q2 ?_)))))
      refine ok_ob1 (u_X9_comesMany h _ _ _ _ s.1 (by omega)) (fun h14 k14 => ?_)
      exact ih h14 (x3 * 100) (x5 + 1) (SM_trans s k14.1) (by omega) (by omega) (by omega)
theorem u_X9_asksPlan (h : HS) (p1 p2 : Int32) (hI : IM h) (w : p1.toInt ≤ 3) : ok (f_X9_asksPlan h p1 p2) (fun a => SM h a ∧ True) := by
  unfold f_X9_asksPlan
  refine ok_ob1 (u_X9_startsMany h 0 0 hI) (fun h1 k1 => ?_)
  exact u_X9_asksPlan_11 p1 p2 w _ h1 1 0 k1.1 (by decide) (by decide) (by have : (0 : Int32).toInt = 0 := rfl; omega)
theorem SM_does {h0 h : HS} {i : Nat} {v : Int32} (s : SM h0 h) (hv : 0 ≤ v.toInt ∧ v.toInt ≤ 11) : SM h0 (sA h 0 49 (upd (eA h 0 49) i v)) := by
  obtain ⟨⟨n, r0, r1, t, c⟩, e⟩ := s
  refine ⟨⟨n, r0, r1, t, ?_⟩, e⟩
  intro k hk
  refine ⟨(c k hk).1, ?_⟩
  show 0 ≤ (upd (eA h 0 49) i v k).toInt ∧ (upd (eA h 0 49) i v k).toInt ≤ 11
  unfold upd
  by_cases ek : k = i
  · rw [if_pos ek]; exact hv
  · rw [if_neg ek]; exact (c k hk).2
theorem SM_chosen {h0 h : HS} {i : Nat} {v : Int32} (s : SM h0 h) (hv : 0 ≤ v.toInt ∧ v.toInt ≤ 9) : SM h0 (sA h 0 48 (upd (eA h 0 48) i v)) := by
  obtain ⟨⟨n, r0, r1, t, c⟩, e⟩ := s
  refine ⟨⟨n, r0, r1, t, ?_⟩, e⟩
  intro k hk
  refine ⟨?_, (c k hk).2⟩
  show 0 ≤ (upd (eA h 0 48) i v k).toInt ∧ (upd (eA h 0 48) i v k).toInt ≤ 9
  unfold upd
  by_cases ek : k = i
  · rw [if_pos ek]; exact hv
  · rw [if_neg ek]; exact (c k hk).1
theorem u_X9_triesDoings_46 {h0 : HS} (x1 x2 x3 x4 : Int32) (w : x1.toInt ≤ 3) (a0 : 1 ≤ (eA h0 0 0 0).toInt) {k31 : HS → Int32 → Int32 → Int32 → Int32 → Option HS} (hk : ∀ h : HS, SM h0 h → ok (k31 h x1 x2 x3 (x4 + 1)) (fun a => SM h0 a ∧ True)) : ∀ (n : Nat) (h : HS) (x5 x6 : Int32), SM h0 h → 0 ≤ x5.toInt → (-1 ≤ x6.toInt ∧ x6.toInt < 3) → (x6.toInt + 1 : Int) < (n : Int) → ok (f_X9_triesDoings_46 k31 n h x1 x2 x3 x4 x5 x6) (fun a => SM h0 a ∧ True) := by
  intro n
  induction n with
  | zero => intro h x5 x6 s i0 i6 hm; exact absurd hm (by omega)
  | succ n ih =>
    intro h x5 x6 s i0 i6 hm
    rw [f_X9_triesDoings_46_s]
    have hn := IM_n s.1
    rw [s.2.1] at hn
    have z0 : (0 : Int32).toInt = 0 := rfl; have zm : (-1 : Int32).toInt = -1 := rfl
    refine ok_if (fun c => ?_) (fun c => ?_)
    · refine ok_ob1 (u_X9_asksPlan h x1 x2 s.1 w) (fun h4 k4 => ?_)
      exact hk h4 (SM_trans s k4.1)
    · have d := gi_of_nlt c
      rw [s.2.1]
      have e3 : (3 * eA h0 0 0 0).toInt = 3 * (eA h0 0 0 0).toInt := fb_mulJ rfl (by omega) (by omega)
      have ne : ¬ 3 * eA h0 0 0 0 = 0 := by
        intro e
        rw [e] at e3
        omega
      generalize 3 * eA h0 0 0 0 = y at *
      have rm := fb_rem (x := x5) (y := y) (k := y.toInt) rfl (by omega) i0
      have dv := (fb_divK (x := x5) (y := y) (k := y.toInt) rfl (by omega)).1 i0
      have a6 : (x6 + -1).toInt = x6.toInt - 1 := by rw [fb_addI (by rw [zm]; omega) (by rw [zm]; omega), zm]; rfl
      generalize x6 + -1 = x6' at *
      refine ok_chk ne (ok_chk (by omega) (ok_chk ne ?_))
      exact ih _ (x5 / y) x6' (SM_does s (by omega)) dv.1 (by omega) (by omega)
theorem u_X9_triesDoings_31 {h0 : HS} (x1 x2 x3 : Int32) (w : 1 ≤ x1.toInt ∧ x1.toInt ≤ 3) (a0 : 1 ≤ (eA h0 0 0 0).toInt ∨ x3.toInt ≤ 0) (w3 : x3.toInt ≤ 1728) : ∀ (n : Nat) (h : HS) (x4 : Int32), SM h0 h → 0 ≤ x4.toInt → 0 < n → (1728 - (x4).toInt : Int) < (n : Int) → ok (f_X9_triesDoings_31 n h x1 x2 x3 x4) (fun a => SM h0 a ∧ True) := by
  intro n
  induction n with
  | zero => intro h x4 s i0 hn hm; exact absurd hn (by decide)
  | succ n ih =>
    intro h x4 s i0 hn hm
    rw [f_X9_triesDoings_31_s]
    refine ok_if (fun c => ok_some ⟨s, trivial⟩) (fun c => ?_)
    have d := gi_of_nle c
    have z1 : (1 : Int32).toInt = 1 := rfl
    have a := fb_addI (x := x4) (y := 1) (by omega) (by omega)
    have b := fb_subI (x := x1) (y := 1) (by omega) (by omega)
    exact u_X9_triesDoings_46 x1 x2 x3 x4 w.2 (by omega) (fun h s => ih h (x4 + 1) s (by omega) (by omega) (by omega)) _ h x4 (x1 - 1) s i0 (by omega) (by omega)
theorem u_X9_triesDoings_5 {h0 : HS} (x1 x2 : Int32) (w : 1 ≤ x1.toInt ∧ x1.toInt ≤ 3) : ∀ (n : Nat) (h : HS) (x3 x4 : Int32), SM h0 h → ((x4.toInt = 0 ∧ x3.toInt = 1) ∨ (x4.toInt = 1 ∧ 0 ≤ x3.toInt ∧ x3.toInt ≤ 12) ∨ (x4.toInt = 2 ∧ 0 ≤ x3.toInt ∧ x3.toInt ≤ 144) ∨ (x4.toInt = 3 ∧ 0 ≤ x3.toInt ∧ x3.toInt ≤ 1728)) → (1 ≤ (eA h0 0 0 0).toInt ∨ x4.toInt = 0 ∨ x3.toInt = 0) → 0 < n → (3 - (x4).toInt : Int) < (n : Int) → ok (f_X9_triesDoings_5 n h x1 x2 x3 x4) (fun a => SM h0 a ∧ True) := by
  intro n
  induction n with
  | zero => intro h x3 x4 s i0 i1 hn hm; exact absurd hn (by decide)
  | succ n ih =>
    intro h x3 x4 s i0 i1 hn hm
    rw [f_X9_triesDoings_5_s]
    have hn := IM_n s.1
    rw [s.2.1] at hn
    refine ok_if (fun c => ?_) (fun c => ?_)
    · have d := gi_of_le c
      exact u_X9_triesDoings_31 x1 x2 x3 w (by omega) (by omega) _ h 0 s (by decide) (by decide) (by have : (0 : Int32).toInt = 0 := rfl; omega)
    · have d := gi_of_nle c
      rw [s.2.1]
      have z1 : (1 : Int32).toInt = 1 := rfl
      have a := fb_addI (x := x4) (y := 1) (by omega) (by omega)
      have m : (x3 * 3).toInt = x3.toInt * 3 := fb_mulK rfl (by omega) (by omega)
      have fin : (x3 * 3 * eA h0 0 0 0).toInt = (x3 * 3).toInt * (eA h0 0 0 0).toInt ∧ (0 ≤ (x3 * 3).toInt * (eA h0 0 0 0).toInt) ∧ (x3 * 3).toInt * (eA h0 0 0 0).toInt ≤ 12 * x3.toInt ∧ ((eA h0 0 0 0).toInt = 0 → (x3 * 3).toInt * (eA h0 0 0 0).toInt = 0) := by
        generalize x3 * 3 = y at *
        have e0 : (eA h0 0 0 0).toInt = 0 ∨ (eA h0 0 0 0).toInt = 1 ∨ (eA h0 0 0 0).toInt = 2 ∨ (eA h0 0 0 0).toInt = 3 ∨ (eA h0 0 0 0).toInt = 4 := by omega
        rcases e0 with e | e | e | e | e <;> (rw [fb_mulK e (by omega) (by omega)]; rw [e]; omega)
      generalize x3 * 3 * eA h0 0 0 0 = v at *
      exact ih h v (x4 + 1) s (by omega) (by omega) (by omega) (by omega)
theorem u_X9_triesDoings (h : HS) (p1 p2 : Int32) (hI : IM h) (w : 1 ≤ p1.toInt ∧ p1.toInt ≤ 3) : ok (f_X9_triesDoings h p1 p2) (fun a => SM h a ∧ True) := by
  unfold f_X9_triesDoings
  exact u_X9_triesDoings_5 p1 p2 w _ h 1 0 (SM_refl hI) (Or.inl ⟨rfl, rfl⟩) (Or.inr (Or.inl rfl)) (by decide) (by have : (0 : Int32).toInt = 0 := rfl; omega)
theorem u_X9_plansOf_102 {h0 : HS} (x1 x2 x3 : Int32) {k9 : HS → Int32 → Int32 → Int32 → Option (Int32 × HS)} {k25 : HS → Int32 → Int32 → Int32 → Int32 → Int32 → Int32 → Option (Int32 × HS)} {Q : Int32 × HS → Prop} (x6 : Int32) (w6 : 0 ≤ x6.toInt ∧ x6.toInt ≤ 9) (hk : ∀ (h : HS) (x4 x5 : Int32), SM h0 h → (0 ≤ x4.toInt ∧ x4.toInt ≤ x6.toInt + 1) → ok (k25 h x1 x2 x3 x4 x5 (x6 + 1)) Q) (h : HS) (x4 y0 : Int32) (s : SM h0 h) (i4 : 0 ≤ x4.toInt ∧ x4.toInt ≤ x6.toInt) : ok (f_X9_plansOf_102 k9 k25 h x1 x2 x3 x4 x6 y0) Q := by
  unfold f_X9_plansOf_102 f_X9_plansOf_119 f_X9_plansOf_122
  have z1 : (1 : Int32).toInt = 1 := rfl; have z3 : (3 : Int32).toInt = 3 := rfl
  have a4 := fb_addI (x := x4) (y := 1) (by omega) (by omega)
  refine ok_if (fun c => hk h _ _ s (by omega)) (fun c => ?_)
  have d := gi_of_nle c
  exact ok_chk (by omega) (hk _ _ _ (SM_chosen s w6) (by omega))
theorem u_X9_plansOf_48 {h0 : HS} (x1 x2 x3 x4 x5 : Int32) {k9 : HS → Int32 → Int32 → Int32 → Option (Int32 × HS)} {k25 : HS → Int32 → Int32 → Int32 → Int32 → Int32 → Int32 → Option (Int32 × HS)} {Q : Int32 × HS → Prop} (x6 : Int32) (w6 : 0 ≤ x6.toInt ∧ x6.toInt ≤ 9) (hk : ∀ (h : HS) (x4 x5 : Int32), SM h0 h → (0 ≤ x4.toInt ∧ x4.toInt ≤ x6.toInt + 1) → ok (k25 h x1 x2 x3 x4 x5 (x6 + 1)) Q) (h : HS) (s : SM h0 h) (i4 : 0 ≤ x4.toInt ∧ x4.toInt ≤ x6.toInt) : ∀ (n : Nat) (x7 x8 : Int32), 0 ≤ x8.toInt → 0 < n → (10 - (x8).toInt : Int) < (n : Int) → ok (f_X9_plansOf_48 k9 k25 n h x1 x2 x3 x4 x5 x6 x7 x8) Q := by
  intro n
  induction n with
  | zero => intro x7 x8 i0 hn hm; exact absurd hn (by decide)
  | succ n ih =>
    intro x7 x8 i0 hn hm
    rw [f_X9_plansOf_48_s]
    unfold f_X9_plansOf_101 f_X9_plansOf_74 f_X9_plansOf_79
    have hn := IM_n s.1
    have z1 : (1 : Int32).toInt = 1 := rfl
    refine ok_if (fun c => ?_) (fun c => ?_)
    · exact ok_if (fun c => u_X9_plansOf_102 x1 x2 x3 x6 w6 hk h x4 _ s i4) (fun c => ok_if (fun c => u_X9_plansOf_102 x1 x2 x3 x6 w6 hk h x4 _ s i4) (fun c => u_X9_plansOf_102 x1 x2 x3 x6 w6 hk h x4 _ s i4))
    · have d := gi_of_nle c
      have a := fb_addI (x := x8) (y := 1) (by omega) (by omega)
      refine ok_if (fun c => ok_chk (by omega) (ok_if (fun c => ?_) (fun c => ?_))) (fun c => ?_) <;> exact ih _ (x8 + 1) (by omega) (by omega) (by omega)
theorem u_X9_plansOf_25 {h0 : HS} (x1 x2 x3 : Int32) (w : 1 ≤ x1.toInt ∧ x1.toInt ≤ 3) {k9 : HS → Int32 → Int32 → Int32 → Option (Int32 × HS)} {Q : Int32 × HS → Prop} (hk : ∀ h : HS, SM h0 h → ok (k9 h x1 x2 (x3 + 1)) Q) : ∀ (n : Nat) (h : HS) (x4 x5 x6 : Int32), SM h0 h → (0 ≤ x4.toInt ∧ x4.toInt ≤ x6.toInt) → 0 ≤ x6.toInt → 0 < n → (10 - (x6).toInt : Int) < (n : Int) → ok (f_X9_plansOf_25 k9 n h x1 x2 x3 x4 x5 x6) Q := by
  intro n
  induction n with
  | zero => intro h x4 x5 x6 s i4 i0 hn hm; exact absurd hn (by decide)
  | succ n ih =>
    intro h x4 x5 x6 s i4 i0 hn hm
    rw [f_X9_plansOf_25_s]
    unfold f_X9_plansOf_145 f_X9_plansOf_122
    have z1 : (1 : Int32).toInt = 1 := rfl; have z10 : (10 : Int32).toInt = 10 := rfl
    refine ok_if (fun c => ?_) (fun c => ?_)
    · refine ok_if (fun c => hk h s) (fun c => ok_if (fun c => ?_) (fun c => hk h s))
      exact ok_ob1 (u_X9_triesDoings h x1 x2 s.1 w) (fun h7 k7 => hk h7 (SM_trans s k7.1))
    · have d := gi_of_nle c
      have a := fb_addI (x := x6) (y := 1) (by omega) (by omega)
      refine ok_if (fun c => ?_) (fun c => ih h x4 x5 (x6 + 1) s (by omega) (by omega) (by omega) (by omega))
      exact u_X9_plansOf_48 x1 x2 x3 x4 x5 x6 (by omega) (fun h x4 x5 s i => ih h x4 x5 (x6 + 1) s (by omega) (by omega) (by omega) (by omega)) h s i4 _ 0 0 (by decide) (by decide) (by have : (0 : Int32).toInt = 0 := rfl; omega)
theorem u_X9_plansOf_9 {h0 : HS} (x1 x2 : Int32) (w : 1 ≤ x1.toInt ∧ x1.toInt ≤ 3) : ∀ (n : Nat) (h : HS) (x3 : Int32), SM h0 h → 0 ≤ x3.toInt → 0 < n → (1024 - (x3).toInt : Int) < (n : Int) → ok (f_X9_plansOf_9 n h x1 x2 x3) (fun a => SM h0 a.2 ∧ (a.1 = 0 ∨ a.1 = 1)) := by
  intro n
  induction n with
  | zero => intro h x3 s i0 hn hm; exact absurd hn (by decide)
  | succ n ih =>
    intro h x3 s i0 hn hm
    rw [f_X9_plansOf_9_s]
    unfold f_X9_plansOf_167
    refine ok_if (fun c => ?_) (fun c => ?_)
    · exact ok_if (fun c => ok_chk (Or.inl rfl) (ok_some ⟨s, Or.inl rfl⟩)) (fun c => ok_chk (Or.inr rfl) (ok_some ⟨s, Or.inr rfl⟩))
    · have d := gi_of_nle c
      have z1 : (1 : Int32).toInt = 1 := rfl; have z : (1024 : Int32).toInt = 1024 := rfl
      have a := fb_addI (x := x3) (y := 1) (by omega) (by omega)
      exact u_X9_plansOf_25 x1 x2 x3 w (fun h s => ih h (x3 + 1) s (by omega) (by omega) (by omega)) _ h 0 1 0 s (by decide) (by decide) (by decide) (by have : (0 : Int32).toInt = 0 := rfl; omega)
theorem u_X9_plansOf (h : HS) (p1 p2 : Int32) (hI : IM h) (w : 1 ≤ p1.toInt ∧ p1.toInt ≤ 3) : ok (f_X9_plansOf h p1 p2) (fun a => SM h a.2 ∧ (a.1 = 0 ∨ a.1 = 1)) := by
  unfold f_X9_plansOf
  exact u_X9_plansOf_9 p1 p2 w _ (sL h 0 52 (-1)) 0 (SM_refl hI) (by decide) (by decide) (by have : (0 : Int32).toInt = 0 := rfl; omega)
