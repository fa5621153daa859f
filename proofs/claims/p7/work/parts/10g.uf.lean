theorem u_X1_rule_46 {h0 : HS} (x2 : Int32) (x4 : Int32) : ∀ (n : Nat) (h : HS) (x5 : Int32), SC h0 h → 0 < n → (x4.toInt - x5.toInt : Int) < (n : Int) → ok (f_X1_rule_46  n h x2 x4 x5) (fun a => SC h0 a.2 ∧ True) := by
  intro n
  induction n with
  | zero =>
    intro h x5 hSC hn hm
    exact absurd hn (by decide)
  | succ n ih_X1_rule_46 =>
    intro h x5 hSC hn hm
    rw [f_X1_rule_46_s]
    refine ok_if (fun c1 => ?_) (fun c1 => ?_)
    · refine ok_if (fun c2 => ?_) (fun c2 => ?_)
      · unfold f_X1_rule_82
        refine ok_ob2 (u_X1_pop h (hSC).1) (fun r3 h3 k3 => ?_)
        have s3 : SC h0 h3 := SC_trans (b := h) hSC k3.1
        exact ok_some ⟨s3, trivial⟩
      · unfold f_X1_rule_82
        refine ok_ob2 (u_X1_pop h (hSC).1) (fun r4 h4 k4 => ?_)
        have s4 : SC h0 h4 := SC_trans (b := h) hSC k4.1
        exact ok_some ⟨s4, trivial⟩
    · refine ok_ob2 (u_X6_stepAt_0 h x5 (hSC).1) (fun r5 h5 k5 => ?_)
      have e5 : h = h5 := k5.1.symm
      subst e5
      refine ok_ob1 (u_X1_take h r5 (hSC).1) (fun h6 k6 => ?_)
      have s6 : SC h0 h6 := SC_trans (b := h) hSC k6.1
      exact ih_X1_rule_46 h6 (x5 + 1) s6 (by have := hm; have := gi_of_nle c1; have : (1 : Int32).toInt = 1 := rfl; have := fb_rng (x4); have := fb_rng (x5); (try have := fb_addI (x := x5) (y := 1) (by omega) (by omega)); omega) (by have := hm; have := gi_of_nle c1; have : (1 : Int32).toInt = 1 := rfl; have := fb_rng (x4); have := fb_rng (x5); (try have := fb_addI (x := x5) (y := 1) (by omega) (by omega)); omega)
theorem u_X1_rule_46b {h0 : HS} (x2 : Int32) (x4 : Int32) : ∀ (n : Nat) (h : HS) (x5 : Int32), SC h0 h → 0 < n → (x4.toInt - x5.toInt : Int) < (n : Int) → ok (f_X1_rule_46b  n h x2 x4 x5) (fun a => SC h0 a.2 ∧ True) := by
  intro n
  induction n with
  | zero =>
    intro h x5 hSC hn hm
    exact absurd hn (by decide)
  | succ n ih_X1_rule_46b =>
    intro h x5 hSC hn hm
    rw [f_X1_rule_46b_s]
    refine ok_if (fun c1 => ?_) (fun c1 => ?_)
    · refine ok_if (fun c2 => ?_) (fun c2 => ?_)
      · unfold f_X1_rule_82
        refine ok_ob2 (u_X1_pop h (hSC).1) (fun r3 h3 k3 => ?_)
        have s3 : SC h0 h3 := SC_trans (b := h) hSC k3.1
        exact ok_some ⟨s3, trivial⟩
      · unfold f_X1_rule_82
        refine ok_ob2 (u_X1_pop h (hSC).1) (fun r4 h4 k4 => ?_)
        have s4 : SC h0 h4 := SC_trans (b := h) hSC k4.1
        exact ok_some ⟨s4, trivial⟩
    · refine ok_ob2 (u_X6_stepAt_1 h x5 (hSC).1) (fun r5 h5 k5 => ?_)
      have e5 : h = h5 := k5.1.symm
      subst e5
      refine ok_ob1 (u_X1_take h r5 (hSC).1) (fun h6 k6 => ?_)
      have s6 : SC h0 h6 := SC_trans (b := h) hSC k6.1
      exact ih_X1_rule_46b h6 (x5 + 1) s6 (by have := hm; have := gi_of_nle c1; have : (1 : Int32).toInt = 1 := rfl; have := fb_rng (x4); have := fb_rng (x5); (try have := fb_addI (x := x5) (y := 1) (by omega) (by omega)); omega) (by have := hm; have := gi_of_nle c1; have : (1 : Int32).toInt = 1 := rfl; have := fb_rng (x4); have := fb_rng (x5); (try have := fb_addI (x := x5) (y := 1) (by omega) (by omega)); omega)
theorem u_X1_rule_46c {h0 : HS} (x2 : Int32) (x4 : Int32) : ∀ (n : Nat) (h : HS) (x5 : Int32), SC h0 h → 0 < n → (x4.toInt - x5.toInt : Int) < (n : Int) → ok (f_X1_rule_46c  n h x2 x4 x5) (fun a => SC h0 a.2 ∧ True) := by
  intro n
  induction n with
  | zero =>
    intro h x5 hSC hn hm
    exact absurd hn (by decide)
  | succ n ih_X1_rule_46c =>
    intro h x5 hSC hn hm
    rw [f_X1_rule_46c_s]
    refine ok_if (fun c1 => ?_) (fun c1 => ?_)
    · refine ok_if (fun c2 => ?_) (fun c2 => ?_)
      · unfold f_X1_rule_82
        refine ok_ob2 (u_X1_pop h (hSC).1) (fun r3 h3 k3 => ?_)
        have s3 : SC h0 h3 := SC_trans (b := h) hSC k3.1
        exact ok_some ⟨s3, trivial⟩
      · unfold f_X1_rule_82
        refine ok_ob2 (u_X1_pop h (hSC).1) (fun r4 h4 k4 => ?_)
        have s4 : SC h0 h4 := SC_trans (b := h) hSC k4.1
        exact ok_some ⟨s4, trivial⟩
    · refine ok_ob2 (u_X6_stepAt_2 h x5 (hSC).1) (fun r5 h5 k5 => ?_)
      have e5 : h = h5 := k5.1.symm
      subst e5
      refine ok_ob1 (u_X1_take h r5 (hSC).1) (fun h6 k6 => ?_)
      have s6 : SC h0 h6 := SC_trans (b := h) hSC k6.1
      exact ih_X1_rule_46c h6 (x5 + 1) s6 (by have := hm; have := gi_of_nle c1; have : (1 : Int32).toInt = 1 := rfl; have := fb_rng (x4); have := fb_rng (x5); (try have := fb_addI (x := x5) (y := 1) (by omega) (by omega)); omega) (by have := hm; have := gi_of_nle c1; have : (1 : Int32).toInt = 1 := rfl; have := fb_rng (x4); have := fb_rng (x5); (try have := fb_addI (x := x5) (y := 1) (by omega) (by omega)); omega)
theorem u_X1_rule_46d {h0 : HS} (x2 : Int32) (x4 : Int32) : ∀ (n : Nat) (h : HS) (x5 : Int32), SC h0 h → 0 < n → (x4.toInt - x5.toInt : Int) < (n : Int) → ok (f_X1_rule_46d  n h x2 x4 x5) (fun a => SC h0 a.2 ∧ True) := by
  intro n
  induction n with
  | zero =>
    intro h x5 hSC hn hm
    exact absurd hn (by decide)
  | succ n ih_X1_rule_46d =>
    intro h x5 hSC hn hm
    rw [f_X1_rule_46d_s]
    refine ok_if (fun c1 => ?_) (fun c1 => ?_)
    · refine ok_if (fun c2 => ?_) (fun c2 => ?_)
      · unfold f_X1_rule_82
        refine ok_ob2 (u_X1_pop h (hSC).1) (fun r3 h3 k3 => ?_)
        have s3 : SC h0 h3 := SC_trans (b := h) hSC k3.1
        exact ok_some ⟨s3, trivial⟩
      · unfold f_X1_rule_82
        refine ok_ob2 (u_X1_pop h (hSC).1) (fun r4 h4 k4 => ?_)
        have s4 : SC h0 h4 := SC_trans (b := h) hSC k4.1
        exact ok_some ⟨s4, trivial⟩
    · refine ok_ob2 (u_X6_stepAt_3 h x5 (hSC).1) (fun r5 h5 k5 => ?_)
      have e5 : h = h5 := k5.1.symm
      subst e5
      refine ok_ob1 (u_X1_take h r5 (hSC).1) (fun h6 k6 => ?_)
      have s6 : SC h0 h6 := SC_trans (b := h) hSC k6.1
      exact ih_X1_rule_46d h6 (x5 + 1) s6 (by have := hm; have := gi_of_nle c1; have : (1 : Int32).toInt = 1 := rfl; have := fb_rng (x4); have := fb_rng (x5); (try have := fb_addI (x := x5) (y := 1) (by omega) (by omega)); omega) (by have := hm; have := gi_of_nle c1; have : (1 : Int32).toInt = 1 := rfl; have := fb_rng (x4); have := fb_rng (x5); (try have := fb_addI (x := x5) (y := 1) (by omega) (by omega)); omega)
theorem u_X1_rule (h : HS) (p1 : Int32) (hI : IC h) : ok (f_X1_rule h p1) (fun a => SC h a.2 ∧ True) := by
  unfold f_X1_rule
  refine ok_if (fun c1 => ?_) (fun c1 => ?_)
  · refine ok_ob2 (u_X6_hasLaw_0 h p1 ((SC_refl hI)).1) (fun r2 h2 k2 => ?_)
    have e2 : h = h2 := k2.1.symm
    subst e2
    refine ok_if (fun c3 => ?_) (fun c3 => ?_)
    · unfold f_X1_rule_21
      refine ok_ob2 (u_X1_without h p1 ((SC_refl hI)).1) (fun r4 h4 k4 => ?_)
      have e4 : h = h4 := k4.1.symm
      subst e4
      exact ok_some ⟨(SC_refl hI), trivial⟩
    · refine ok_ob2 (u_X6_stepsEnd_0 (sI h 6 3 0) p1 ((SC_refl hI)).1) (fun r5 h5 k5 => ?_)
      have e5 : (sI h 6 3 0) = h5 := k5.1.symm
      subst e5
      refine ok_ob2 (u_X6_firstStep_0 (sI h 6 3 0) p1 ((SC_refl hI)).1) (fun r6 h6 k6 => ?_)
      have e6 : (sI h 6 3 0) = h6 := k6.1.symm
      subst e6
      exact u_X1_rule_46 (h0 := h) p1 r5 8589934592 (sI h 6 3 0) r6 (SC_refl hI) (by decide) (by have := fb_rng (r5); have := fb_rng (r6); omega)
  · refine ok_if (fun c7 => ?_) (fun c7 => ?_)
    · refine ok_ob2 (u_X6_hasLaw_1 h p1 ((SC_refl hI)).1) (fun r8 h8 k8 => ?_)
      have e8 : h = h8 := k8.1.symm
      subst e8
      refine ok_if (fun c9 => ?_) (fun c9 => ?_)
      · unfold f_X1_rule_21
        refine ok_ob2 (u_X1_without h p1 ((SC_refl hI)).1) (fun r10 h10 k10 => ?_)
        have e10 : h = h10 := k10.1.symm
        subst e10
        exact ok_some ⟨(SC_refl hI), trivial⟩
      · refine ok_ob2 (u_X6_stepsEnd_1 (sI h 6 3 0) p1 ((SC_refl hI)).1) (fun r11 h11 k11 => ?_)
        have e11 : (sI h 6 3 0) = h11 := k11.1.symm
        subst e11
        refine ok_ob2 (u_X6_firstStep_1 (sI h 6 3 0) p1 ((SC_refl hI)).1) (fun r12 h12 k12 => ?_)
        have e12 : (sI h 6 3 0) = h12 := k12.1.symm
        subst e12
        exact u_X1_rule_46b (h0 := h) p1 r11 8589934592 (sI h 6 3 0) r12 (SC_refl hI) (by decide) (by have := fb_rng (r11); have := fb_rng (r12); omega)
    · refine ok_if (fun c13 => ?_) (fun c13 => ?_)
      · refine ok_ob2 (u_X6_hasLaw_2 h p1 ((SC_refl hI)).1) (fun r14 h14 k14 => ?_)
        have e14 : h = h14 := k14.1.symm
        subst e14
        refine ok_if (fun c15 => ?_) (fun c15 => ?_)
        · unfold f_X1_rule_21
          refine ok_ob2 (u_X1_without h p1 ((SC_refl hI)).1) (fun r16 h16 k16 => ?_)
          have e16 : h = h16 := k16.1.symm
          subst e16
          exact ok_some ⟨(SC_refl hI), trivial⟩
        · refine ok_ob2 (u_X6_stepsEnd_2 (sI h 6 3 0) p1 ((SC_refl hI)).1) (fun r17 h17 k17 => ?_)
          have e17 : (sI h 6 3 0) = h17 := k17.1.symm
          subst e17
          refine ok_ob2 (u_X6_firstStep_2 (sI h 6 3 0) p1 ((SC_refl hI)).1) (fun r18 h18 k18 => ?_)
          have e18 : (sI h 6 3 0) = h18 := k18.1.symm
          subst e18
          exact u_X1_rule_46c (h0 := h) p1 r17 8589934592 (sI h 6 3 0) r18 (SC_refl hI) (by decide) (by have := fb_rng (r17); have := fb_rng (r18); omega)
      · refine ok_if (fun c19 => ?_) (fun c19 => ?_)
        · refine ok_ob2 (u_X6_hasLaw_3 h p1 ((SC_refl hI)).1) (fun r20 h20 k20 => ?_)
          have e20 : h = h20 := k20.1.symm
          subst e20
          refine ok_if (fun c21 => ?_) (fun c21 => ?_)
          · unfold f_X1_rule_21
            refine ok_ob2 (u_X1_without h p1 ((SC_refl hI)).1) (fun r22 h22 k22 => ?_)
            have e22 : h = h22 := k22.1.symm
            subst e22
            exact ok_some ⟨(SC_refl hI), trivial⟩
          · refine ok_ob2 (u_X6_stepsEnd_3 (sI h 6 3 0) p1 ((SC_refl hI)).1) (fun r23 h23 k23 => ?_)
            have e23 : (sI h 6 3 0) = h23 := k23.1.symm
            subst e23
            refine ok_ob2 (u_X6_firstStep_3 (sI h 6 3 0) p1 ((SC_refl hI)).1) (fun r24 h24 k24 => ?_)
            have e24 : (sI h 6 3 0) = h24 := k24.1.symm
            subst e24
            exact u_X1_rule_46d (h0 := h) p1 r23 8589934592 (sI h 6 3 0) r24 (SC_refl hI) (by decide) (by have := fb_rng (r23); have := fb_rng (r24); omega)
        · unfold f_X1_rule_21
          refine ok_ob2 (u_X1_without h p1 ((SC_refl hI)).1) (fun r25 h25 k25 => ?_)
          have e25 : h = h25 := k25.1.symm
          subst e25
          exact ok_some ⟨(SC_refl hI), trivial⟩
theorem u_X1_inkCost (h : HS) (p1 : Int32) (p2 : Int32) (p3 : Int32) (hI : IC h) : ok (f_X1_inkCost h p1 p2 p3) (fun a => SC h a.2 ∧ True) := by
  unfold f_X1_inkCost
  refine ok_ob1 (u_X1_lookAtFilled h p1 p2 p3 ((SC_refl hI)).1) (fun h1 k1 => ?_)
  have s1 : SC h h1 := SC_trans (b := h) (SC_refl hI) k1.1
  refine ok_ob2 (u_X1_rule h1 2 (s1).1) (fun r2 h2 k2 => ?_)
  have s2 : SC h h2 := SC_trans (b := h1) s1 k2.1
  exact ok_some ⟨s2, trivial⟩
theorem u_X1_isTrue (h : HS) (p1 : Int32) (hI : IC h) : ok (f_X1_isTrue h p1) (fun a => SC h a.2 ∧ (a.1 = 0 ∨ a.1 = 1)) := by
  unfold f_X1_isTrue
  refine ok_ob1 (u_X1_lookAt h p1 ((SC_refl hI)).1) (fun h1 k1 => ?_)
  have s1 : SC h h1 := SC_trans (b := h) (SC_refl hI) k1.1
  refine ok_ob2 (u_X1_rule h1 3 (s1).1) (fun r2 h2 k2 => ?_)
  have s2 : SC h h2 := SC_trans (b := h1) s1 k2.1
  refine ok_if (fun c3 => ?_) (fun c3 => ?_)
  · unfold f_X1_isTrue_20
    refine ok_chk (Or.inl rfl) ?_
    exact ok_some ⟨s2, (Or.inl rfl)⟩
  · unfold f_X1_isTrue_20
    refine ok_chk (Or.inr rfl) ?_
    exact ok_some ⟨s2, (Or.inr rfl)⟩
theorem u_X1_isTrueWith (h : HS) (p1 : Int32) (p2 : Int32) (hI : IC h) : ok (f_X1_isTrueWith h p1 p2) (fun a => SC h a.2 ∧ (a.1 = 0 ∨ a.1 = 1)) := by
  unfold f_X1_isTrueWith
  refine ok_ob1 (u_X1_lookAt h p1 ((SC_refl hI)).1) (fun h1 k1 => ?_)
  have s1 : SC h h1 := SC_trans (b := h) (SC_refl hI) k1.1
  refine ok_ob2 (u_X1_rule (sA h1 6 1 (upd (eA h1 6 1) 2 p2)) 3 (s1).1) (fun r2 h2 k2 => ?_)
  have s2 : SC h h2 := SC_trans (b := (sA h1 6 1 (upd (eA h1 6 1) 2 p2))) s1 k2.1
  refine ok_if (fun c3 => ?_) (fun c3 => ?_)
  · unfold f_X1_isTrueWith_27
    refine ok_chk (Or.inl rfl) ?_
    exact ok_some ⟨s2, (Or.inl rfl)⟩
  · unfold f_X1_isTrueWith_27
    refine ok_chk (Or.inr rfl) ?_
    exact ok_some ⟨s2, (Or.inr rfl)⟩
