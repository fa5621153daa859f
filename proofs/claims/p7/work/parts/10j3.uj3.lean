theorem u_X2_readValue_3 (h : HS) (hI : IC h) : ok (f_X2_readValue_3 h) (fun a => SC h a ∧ True) := by
  unfold f_X2_readValue_3
  refine ok_ob2 (u_X7_value h ((SC_refl hI)).1) (fun r1 h1 k1 => ?_)
  have e1 : h = h1 := k1.1.symm
  subst e1
  refine ok_if (fun c2 => ?_) (fun c2 => ?_)
  · refine ok_ob2 (u_X7_value h ((SC_refl hI)).1) (fun r3 h3 k3 => ?_)
    have e3 : h = h3 := k3.1.symm
    subst e3
    refine ok_ob1 (u_X6_addStep_3 h r3 ((SC_refl hI)).1) (fun h4 k4 => ?_)
    have s4 : SC h h4 := SC_trans (b := h) (SC_refl hI) k4.1
    refine ok_ob1 (u_X7_advance h4 (s4).1) (fun h5 k5 => ?_)
    have s5 : SC h h5 := SC_trans (b := h4) s4 k5.1
    exact ok_some ⟨s5, trivial⟩
  · refine ok_ob1 (u_X2_fail h 2 ((SC_refl hI)).1) (fun h6 k6 => ?_)
    have s6 : SC h h6 := SC_trans (b := h) (SC_refl hI) k6.1
    exact ok_some ⟨s6, trivial⟩
theorem u_X2_readName_3 (h : HS) (hI : IC h) : ok (f_X2_readName_3 h) (fun a => SC h a ∧ True) := by
  unfold f_X2_readName_3
  refine ok_ob2 (u_X7_kind h ((SC_refl hI)).1) (fun r1 h1 k1 => ?_)
  have e1 : h = h1 := k1.1.symm
  subst e1
  refine ok_if (fun c2 => ?_) (fun c2 => ?_)
  · unfold f_X2_readName_3_31
    refine ok_ob2 (u_X7_kind h ((SC_refl hI)).1) (fun r3 h3 k3 => ?_)
    have e3 : h = h3 := k3.1.symm
    subst e3
    refine ok_ob1 (u_X6_addStep_3 h ((10000 + r3) - 29) ((SC_refl hI)).1) (fun h4 k4 => ?_)
    have s4 : SC h h4 := SC_trans (b := h) (SC_refl hI) k4.1
    refine ok_ob1 (u_X7_advance h4 (s4).1) (fun h5 k5 => ?_)
    have s5 : SC h h5 := SC_trans (b := h4) s4 k5.1
    exact ok_some ⟨s5, trivial⟩
  · refine ok_if (fun c6 => ?_) (fun c6 => ?_)
    · unfold f_X2_readName_3_31
      refine ok_ob2 (u_X7_kind h ((SC_refl hI)).1) (fun r7 h7 k7 => ?_)
      have e7 : h = h7 := k7.1.symm
      subst e7
      refine ok_ob1 (u_X6_addStep_3 h ((10000 + r7) - 29) ((SC_refl hI)).1) (fun h8 k8 => ?_)
      have s8 : SC h h8 := SC_trans (b := h) (SC_refl hI) k8.1
      refine ok_ob1 (u_X7_advance h8 (s8).1) (fun h9 k9 => ?_)
      have s9 : SC h h9 := SC_trans (b := h8) s8 k9.1
      exact ok_some ⟨s9, trivial⟩
    · refine ok_if (fun c10 => ?_) (fun c10 => ?_)
      · unfold f_X2_readName_3_31
        refine ok_ob2 (u_X7_kind h ((SC_refl hI)).1) (fun r11 h11 k11 => ?_)
        have e11 : h = h11 := k11.1.symm
        subst e11
        refine ok_ob1 (u_X6_addStep_3 h ((10000 + r11) - 29) ((SC_refl hI)).1) (fun h12 k12 => ?_)
        have s12 : SC h h12 := SC_trans (b := h) (SC_refl hI) k12.1
        refine ok_ob1 (u_X7_advance h12 (s12).1) (fun h13 k13 => ?_)
        have s13 : SC h h13 := SC_trans (b := h12) s12 k13.1
        exact ok_some ⟨s13, trivial⟩
      · refine ok_ob1 (u_X2_fail h 5 ((SC_refl hI)).1) (fun h14 k14 => ?_)
        have s14 : SC h h14 := SC_trans (b := h) (SC_refl hI) k14.1
        exact ok_some ⟨s14, trivial⟩
theorem u_X2_readNumber_3 (h : HS) (p1 : Int32) (p2 : Int32) (p3 : Int32) (hI : IC h) : ok (f_X2_readNumber_3 h p1 p2 p3) (fun a => SC h a ∧ True) := by
  unfold f_X2_readNumber_3
  refine ok_if (fun c1 => ?_) (fun c1 => ?_)
  · refine ok_ob2 (u_X7_kind h ((SC_refl hI)).1) (fun r2 h2 k2 => ?_)
    have e2 : h = h2 := k2.1.symm
    subst e2
    refine ok_if (fun c3 => ?_) (fun c3 => ?_)
    · refine ok_ob2 (u_X7_value h ((SC_refl hI)).1) (fun r4 h4 k4 => ?_)
      have e4 : h = h4 := k4.1.symm
      subst e4
      refine ok_if (fun c5 => ?_) (fun c5 => ?_)
      · unfold f_X2_readNumber_3_43
        refine ok_ob1 (u_X2_fail h 2 ((SC_refl hI)).1) (fun h6 k6 => ?_)
        have s6 : SC h h6 := SC_trans (b := h) (SC_refl hI) k6.1
        unfold f_X2_readNumber_3_69
        exact ok_some ⟨s6, trivial⟩
      · refine ok_ob2 (u_X7_value h ((SC_refl hI)).1) (fun r7 h7 k7 => ?_)
        have e7 : h = h7 := k7.1.symm
        subst e7
        refine ok_if (fun c8 => ?_) (fun c8 => ?_)
        · refine ok_ob2 (u_X7_value h ((SC_refl hI)).1) (fun r9 h9 k9 => ?_)
          have e9 : h = h9 := k9.1.symm
          subst e9
          refine ok_ob1 (u_X6_setClause_3 h (eI h 12 1) p1 r9 ((SC_refl hI)).1) (fun h10 k10 => ?_)
          have s10 : SC h h10 := SC_trans (b := h) (SC_refl hI) k10.1
          refine ok_ob1 (u_X7_advance h10 (s10).1) (fun h11 k11 => ?_)
          have s11 : SC h h11 := SC_trans (b := h10) s10 k11.1
          unfold f_X2_readNumber_3_69
          exact ok_some ⟨s11, trivial⟩
        · unfold f_X2_readNumber_3_43
          refine ok_ob1 (u_X2_fail h 2 ((SC_refl hI)).1) (fun h12 k12 => ?_)
          have s12 : SC h h12 := SC_trans (b := h) (SC_refl hI) k12.1
          unfold f_X2_readNumber_3_69
          exact ok_some ⟨s12, trivial⟩
    · refine ok_ob1 (u_X2_fail h 1 ((SC_refl hI)).1) (fun h13 k13 => ?_)
      have s13 : SC h h13 := SC_trans (b := h) (SC_refl hI) k13.1
      unfold f_X2_readNumber_3_69
      exact ok_some ⟨s13, trivial⟩
  · exact ok_some ⟨(SC_refl hI), trivial⟩
theorem u_X2_readDeed_3 (h : HS) (p1 : Int32) (hI : IC h) : ok (f_X2_readDeed_3 h p1) (fun a => SC h a ∧ True) := by
  unfold f_X2_readDeed_3
  refine ok_if (fun c1 => ?_) (fun c1 => ?_)
  · refine ok_ob1 (u_X2_readNumber_3 h 1 1 99 ((SC_refl hI)).1) (fun h2 k2 => ?_)
    have s2 : SC h h2 := SC_trans (b := h) (SC_refl hI) k2.1
    exact ok_some ⟨s2, trivial⟩
  · refine ok_ob1 (u_X2_readNumber_3 h 1 0 9 ((SC_refl hI)).1) (fun h3 k3 => ?_)
    have s3 : SC h h3 := SC_trans (b := h) (SC_refl hI) k3.1
    refine ok_if (fun c4 => ?_) (fun c4 => ?_)
    · refine ok_ob1 (u_X2_expect h3 24 (s3).1) (fun h5 k5 => ?_)
      have s5 : SC h h5 := SC_trans (b := h3) s3 k5.1
      refine ok_ob1 (u_X2_readNumber_3 h5 2 0 5 (s5).1) (fun h6 k6 => ?_)
      have s6 : SC h h6 := SC_trans (b := h5) s5 k6.1
      refine ok_ob1 (u_X2_expect h6 33 (s6).1) (fun h7 k7 => ?_)
      have s7 : SC h h7 := SC_trans (b := h6) s6 k7.1
      refine ok_ob1 (u_X2_readNumber_3 h7 3 0 2 (s7).1) (fun h8 k8 => ?_)
      have s8 : SC h h8 := SC_trans (b := h7) s7 k8.1
      unfold f_X2_readDeed_3_90
      exact ok_some ⟨s8, trivial⟩
    · refine ok_if (fun c9 => ?_) (fun c9 => ?_)
      · refine ok_ob1 (u_X2_expect h3 25 (s3).1) (fun h10 k10 => ?_)
        have s10 : SC h h10 := SC_trans (b := h3) s3 k10.1
        refine ok_ob1 (u_X2_readNumber_3 h10 2 0 3 (s10).1) (fun h11 k11 => ?_)
        have s11 : SC h h11 := SC_trans (b := h10) s10 k11.1
        unfold f_X2_readDeed_3_90
        exact ok_some ⟨s11, trivial⟩
      · unfold f_X2_readDeed_3_90
        exact ok_some ⟨s3, trivial⟩
theorem u_X2_readLevel_3_42 {h0 : HS} (x3 : Int32) (x4 : Int32) {kR_X2_readLevel : HS → Int32 → Int32 → Option HS} {kR_X2_readAsk : HS → Int32 → Option HS} {kR_X2_readOne : HS → Int32 → Option HS} (m : Int) (hR_X2_readLevel : ∀ (h : HS) (p1 p2 : Int32), IC h → (0 ≤ p1.toInt ∧ p1.toInt ≤ 5) → (0 ≤ p2.toInt ∧ p2.toInt ≤ 8) → 20 * (8 - p2.toInt) + 22 - 2 * p1.toInt < m → ok (kR_X2_readLevel h p1 p2) (fun a => SC h a ∧ True)) (hR_X2_readAsk : ∀ (h : HS) (p1 : Int32), IC h → (0 ≤ p1.toInt ∧ p1.toInt ≤ 8) → 20 * (8 - p1.toInt) + 17 < m → ok (kR_X2_readAsk h p1) (fun a => SC h a ∧ True)) (hR_X2_readOne : ∀ (h : HS) (p1 : Int32), IC h → (0 ≤ p1.toInt ∧ p1.toInt ≤ 8) → 20 * (8 - p1.toInt) + 5 < m → ok (kR_X2_readOne h p1) (fun a => SC h a ∧ True))   : ∀ (n : Nat) (h : HS) (x5 : Int32), SC h0 h → (0 ≤ x3.toInt ∧ x3.toInt ≤ 4) → (0 ≤ x4.toInt ∧ x4.toInt ≤ 8) → 20 * (8 - x4.toInt) + 22 - 2 * x3.toInt ≤ m → 0 < n → (300 - (x5).toInt : Int) < (n : Int) → ok (f_X2_readLevel_3_42 kR_X2_readLevel kR_X2_readAsk kR_X2_readOne n h x3 x4 x5) (fun a => SC h0 a ∧ True) := by
  intro n
  induction n with
  | zero =>
    intro h x5 hSC i0 i1 i2 hn hm
    exact absurd hn (by decide)
  | succ n ih_X2_readLevel_3_42 =>
    intro h x5 hSC i0 i1 i2 hn hm
    rw [f_X2_readLevel_3_42_s]
    refine ok_if (fun c1 => ?_) (fun c1 => ?_)
    · unfold f_X2_readLevel_3_105
      exact ok_some ⟨hSC, trivial⟩
    · refine ok_if (fun c2 => ?_) (fun c2 => ?_)
      · refine ok_ob2 (u_X7_kind h (hSC).1) (fun r3 h3 k3 => ?_)
        have e3 : h = h3 := k3.1.symm
        subst e3
        refine ok_ob1 (u_X2_levelOf r3) (fun r4 k4 => ?_)
        refine ok_if (fun c5 => ?_) (fun c5 => ?_)
        · refine ok_ob2 (u_X7_kind h (hSC).1) (fun r6 h6 k6 => ?_)
          have e6 : h = h6 := k6.1.symm
          subst e6
          refine ok_ob1 (u_X7_advance h (hSC).1) (fun h7 k7 => ?_)
          have s7 : SC h0 h7 := SC_trans (b := h) hSC k7.1
          refine ok_ob1 (hR_X2_readLevel h7 (x3 + 1) x4 (s7).1 (by have := i0; have := i1; have := i2; have := hm; have := gi_of_nle c1; have := gi_of_eq c5; have : (1 : Int32).toInt = 1 := rfl; have : (300 : Int32).toInt = 300 := rfl; have := fb_rng (x5); have := fb_rng (r4); have := fb_rng (x3); (try have := fb_addI (x := x3) (y := 1) (by omega) (by omega)); have := fb_rng (x4); omega) (by have := i0; have := i1; have := i2; have := hm; have := gi_of_nle c1; have := gi_of_eq c5; have : (1 : Int32).toInt = 1 := rfl; have : (300 : Int32).toInt = 300 := rfl; have := fb_rng (x5); have := fb_rng (r4); have := fb_rng (x3); (try have := fb_addI (x := x3) (y := 1) (by omega) (by omega)); have := fb_rng (x4); omega) (by have := i0; have := i1; have := i2; have := hm; have := gi_of_nle c1; have := gi_of_eq c5; have : (1 : Int32).toInt = 1 := rfl; have : (300 : Int32).toInt = 300 := rfl; have := fb_rng (x5); have := fb_rng (r4); have := fb_rng (x3); (try have := fb_addI (x := x3) (y := 1) (by omega) (by omega)); have := fb_rng (x4); omega)) (fun h8 k8 => ?_)
          have s8 : SC h0 h8 := SC_trans (b := h7) s7 k8.1
          refine ok_ob1 (u_X6_addStep_3 h8 (20000 + r6) (s8).1) (fun h9 k9 => ?_)
          have s9 : SC h0 h9 := SC_trans (b := h8) s8 k9.1
          exact ih_X2_readLevel_3_42 h9 (x5 + 1) s9 (by have := i0; have := i1; have := i2; have := hm; have := gi_of_eq c5; have := fb_rng (r4); have := fb_rng (x3); omega) (by have := i0; have := i1; have := i2; have := hm; have := fb_rng (x4); omega) (by have := i0; have := i1; have := i2; have := hm; have := gi_of_eq c5; have := fb_rng (r4); have := fb_rng (x3); have := fb_rng (x4); omega) (by have := i0; have := i1; have := i2; have := hm; have := gi_of_nle c1; have : (1 : Int32).toInt = 1 := rfl; have : (300 : Int32).toInt = 300 := rfl; have := fb_rng (x5); (try have := fb_addI (x := x5) (y := 1) (by omega) (by omega)); omega) (by have := i0; have := i1; have := i2; have := hm; have := gi_of_nle c1; have : (1 : Int32).toInt = 1 := rfl; have : (300 : Int32).toInt = 300 := rfl; have := fb_rng (x5); (try have := fb_addI (x := x5) (y := 1) (by omega) (by omega)); omega)
        · unfold f_X2_readLevel_3_105
          exact ok_some ⟨hSC, trivial⟩
      · unfold f_X2_readLevel_3_105
        exact ok_some ⟨hSC, trivial⟩
theorem u_X2_readLevel_3_b   {kR_X2_readLevel : HS → Int32 → Int32 → Option HS} {kR_X2_readAsk : HS → Int32 → Option HS} {kR_X2_readOne : HS → Int32 → Option HS} (m : Int) (hR_X2_readLevel : ∀ (h : HS) (p1 p2 : Int32), IC h → (0 ≤ p1.toInt ∧ p1.toInt ≤ 5) → (0 ≤ p2.toInt ∧ p2.toInt ≤ 8) → 20 * (8 - p2.toInt) + 22 - 2 * p1.toInt < m → ok (kR_X2_readLevel h p1 p2) (fun a => SC h a ∧ True)) (hR_X2_readAsk : ∀ (h : HS) (p1 : Int32), IC h → (0 ≤ p1.toInt ∧ p1.toInt ≤ 8) → 20 * (8 - p1.toInt) + 17 < m → ok (kR_X2_readAsk h p1) (fun a => SC h a ∧ True)) (hR_X2_readOne : ∀ (h : HS) (p1 : Int32), IC h → (0 ≤ p1.toInt ∧ p1.toInt ≤ 8) → 20 * (8 - p1.toInt) + 5 < m → ok (kR_X2_readOne h p1) (fun a => SC h a ∧ True)) (h : HS) (p1 : Int32) (p2 : Int32) (hI : IC h) (w0 : 0 ≤ p1.toInt ∧ p1.toInt ≤ 5) (w2 : 0 ≤ p2.toInt ∧ p2.toInt ≤ 8) (w1 : 20 * (8 - p2.toInt) + 22 - 2 * p1.toInt ≤ m) : ok (f_X2_readLevel_3_b kR_X2_readLevel kR_X2_readAsk kR_X2_readOne h p1 p2) (fun a => SC h a ∧ True) := by
  unfold f_X2_readLevel_3_b
  refine ok_if (fun c1 => ?_) (fun c1 => ?_)
  · refine ok_ob1 (hR_X2_readAsk h p2 ((SC_refl hI)).1 (by have := w0; have := w2; have := w1; have := gi_of_eq c1; have : (2 : Int32).toInt = 2 := rfl; have := fb_rng (p1); have := fb_rng (p2); omega) (by have := w0; have := w2; have := w1; have := gi_of_eq c1; have : (2 : Int32).toInt = 2 := rfl; have := fb_rng (p1); have := fb_rng (p2); omega)) (fun h2 k2 => ?_)
    have s2 : SC h h2 := SC_trans (b := h) (SC_refl hI) k2.1
    exact ok_some ⟨s2, trivial⟩
  · refine ok_if (fun c3 => ?_) (fun c3 => ?_)
    · refine ok_ob1 (hR_X2_readOne h p2 ((SC_refl hI)).1 (by have := w0; have := w2; have := w1; have := gi_of_ne c1; have := gi_of_eq c3; have : (2 : Int32).toInt = 2 := rfl; have : (5 : Int32).toInt = 5 := rfl; have := fb_rng (p1); have := fb_rng (p2); omega) (by have := w0; have := w2; have := w1; have := gi_of_ne c1; have := gi_of_eq c3; have : (2 : Int32).toInt = 2 := rfl; have : (5 : Int32).toInt = 5 := rfl; have := fb_rng (p1); have := fb_rng (p2); omega)) (fun h4 k4 => ?_)
      have s4 : SC h h4 := SC_trans (b := h) (SC_refl hI) k4.1
      exact ok_some ⟨s4, trivial⟩
    · refine ok_ob1 (hR_X2_readLevel h (p1 + 1) p2 ((SC_refl hI)).1 (by have := w0; have := w2; have := w1; have := gi_of_ne c1; have := gi_of_ne c3; have : (1 : Int32).toInt = 1 := rfl; have : (2 : Int32).toInt = 2 := rfl; have : (5 : Int32).toInt = 5 := rfl; have := fb_rng (p1); (try have := fb_addI (x := p1) (y := 1) (by omega) (by omega)); have := fb_rng (p2); omega) (by have := w0; have := w2; have := w1; have := gi_of_ne c1; have := gi_of_ne c3; have : (1 : Int32).toInt = 1 := rfl; have : (2 : Int32).toInt = 2 := rfl; have : (5 : Int32).toInt = 5 := rfl; have := fb_rng (p1); (try have := fb_addI (x := p1) (y := 1) (by omega) (by omega)); have := fb_rng (p2); omega) (by have := w0; have := w2; have := w1; have := gi_of_ne c1; have := gi_of_ne c3; have : (1 : Int32).toInt = 1 := rfl; have : (2 : Int32).toInt = 2 := rfl; have : (5 : Int32).toInt = 5 := rfl; have := fb_rng (p1); (try have := fb_addI (x := p1) (y := 1) (by omega) (by omega)); have := fb_rng (p2); omega)) (fun h5 k5 => ?_)
      have s5 : SC h h5 := SC_trans (b := h) (SC_refl hI) k5.1
      exact u_X2_readLevel_3_42 (h0 := h) p1 p2 (m := m) hR_X2_readLevel hR_X2_readAsk hR_X2_readOne 8589934592 h5 0 s5 (by have := w0; have := w2; have := w1; have := gi_of_ne c1; have := gi_of_ne c3; have : (2 : Int32).toInt = 2 := rfl; have : (5 : Int32).toInt = 5 := rfl; have := fb_rng (p1); omega) (by have := w0; have := w2; have := w1; have := fb_rng (p2); omega) (by have := w0; have := w2; have := w1; have := gi_of_ne c1; have := gi_of_ne c3; have : (2 : Int32).toInt = 2 := rfl; have : (5 : Int32).toInt = 5 := rfl; have := fb_rng (p1); have := fb_rng (p2); omega) (by decide) (by have := w0; have := w2; have := w1; have : (0 : Int32).toInt = 0 := rfl; omega)
theorem u_X2_readAsk_3_b   {kR_X2_readLevel : HS → Int32 → Int32 → Option HS} {kR_X2_readAsk : HS → Int32 → Option HS} {kR_X2_readOne : HS → Int32 → Option HS} (m : Int) (hR_X2_readLevel : ∀ (h : HS) (p1 p2 : Int32), IC h → (0 ≤ p1.toInt ∧ p1.toInt ≤ 5) → (0 ≤ p2.toInt ∧ p2.toInt ≤ 8) → 20 * (8 - p2.toInt) + 22 - 2 * p1.toInt < m → ok (kR_X2_readLevel h p1 p2) (fun a => SC h a ∧ True)) (hR_X2_readAsk : ∀ (h : HS) (p1 : Int32), IC h → (0 ≤ p1.toInt ∧ p1.toInt ≤ 8) → 20 * (8 - p1.toInt) + 17 < m → ok (kR_X2_readAsk h p1) (fun a => SC h a ∧ True)) (hR_X2_readOne : ∀ (h : HS) (p1 : Int32), IC h → (0 ≤ p1.toInt ∧ p1.toInt ≤ 8) → 20 * (8 - p1.toInt) + 5 < m → ok (kR_X2_readOne h p1) (fun a => SC h a ∧ True)) (h : HS) (p1 : Int32) (hI : IC h) (w0 : 0 ≤ p1.toInt ∧ p1.toInt ≤ 8) (w1 : 20 * (8 - p1.toInt) + 17 ≤ m) : ok (f_X2_readAsk_3_b kR_X2_readLevel kR_X2_readAsk kR_X2_readOne h p1) (fun a => SC h a ∧ True) := by
  unfold f_X2_readAsk_3_b
  refine ok_ob2 (u_X7_kind h ((SC_refl hI)).1) (fun r1 h1 k1 => ?_)
  have e1 : h = h1 := k1.1.symm
  subst e1
  refine ok_if (fun c2 => ?_) (fun c2 => ?_)
  · refine ok_ob2 (u_X2_opens h p1 ((SC_refl hI)).1) (fun r3 h3 k3 => ?_)
    have s3 : SC h h3 := SC_trans (b := h) (SC_refl hI) k3.1
    refine ok_if (fun c4 => ?_) (fun c4 => ?_)
    · unfold f_X2_readAsk_3_34
      exact ok_some ⟨s3, trivial⟩
    · refine ok_ob1 (hR_X2_readAsk h3 (p1 + 1) (s3).1 (by have := w0; have := w1; have : ((r3).toInt = 0 ∨ (p1).toInt < 8) := k3.2; have := gi_of_ne c4; have : (0 : Int32).toInt = 0 := rfl; have : (1 : Int32).toInt = 1 := rfl; have := fb_rng (r3); have := fb_rng (p1); (try have := fb_addI (x := p1) (y := 1) (by omega) (by omega)); omega) (by have := w0; have := w1; have : ((r3).toInt = 0 ∨ (p1).toInt < 8) := k3.2; have := gi_of_ne c4; have : (0 : Int32).toInt = 0 := rfl; have : (1 : Int32).toInt = 1 := rfl; have := fb_rng (r3); have := fb_rng (p1); (try have := fb_addI (x := p1) (y := 1) (by omega) (by omega)); omega)) (fun h5 k5 => ?_)
      have s5 : SC h h5 := SC_trans (b := h3) s3 k5.1
      refine ok_ob1 (u_X6_addStep_3 h5 20028 (s5).1) (fun h6 k6 => ?_)
      have s6 : SC h h6 := SC_trans (b := h5) s5 k6.1
      unfold f_X2_readAsk_3_34
      exact ok_some ⟨s6, trivial⟩
  · refine ok_ob1 (hR_X2_readLevel h 3 p1 ((SC_refl hI)).1 (by have := w0; have := w1; have : (3 : Int32).toInt = 3 := rfl; have := fb_rng (p1); omega) (by have := w0; have := w1; have : (3 : Int32).toInt = 3 := rfl; have := fb_rng (p1); omega) (by have := w0; have := w1; have : (3 : Int32).toInt = 3 := rfl; have := fb_rng (p1); omega)) (fun h7 k7 => ?_)
    have s7 : SC h h7 := SC_trans (b := h) (SC_refl hI) k7.1
    refine ok_ob2 (u_X7_kind h7 (s7).1) (fun r8 h8 k8 => ?_)
    have e8 : h7 = h8 := k8.1.symm
    subst e8
    refine ok_if (fun c9 => ?_) (fun c9 => ?_)
    · unfold f_X2_readAsk_3_62
      refine ok_ob1 (u_X2_fail h7 1 (s7).1) (fun h10 k10 => ?_)
      have s10 : SC h h10 := SC_trans (b := h7) s7 k10.1
      unfold f_X2_readAsk_3_68
      refine ok_if (fun c11 => ?_) (fun c11 => ?_)
      · refine ok_ob1 (u_X7_advance h10 (s10).1) (fun h12 k12 => ?_)
        have s12 : SC h h12 := SC_trans (b := h10) s10 k12.1
        refine ok_ob1 (hR_X2_readLevel h12 3 p1 (s12).1 (by have := w0; have := w1; have : (3 : Int32).toInt = 3 := rfl; have := fb_rng (p1); omega) (by have := w0; have := w1; have : (3 : Int32).toInt = 3 := rfl; have := fb_rng (p1); omega) (by have := w0; have := w1; have : (3 : Int32).toInt = 3 := rfl; have := fb_rng (p1); omega)) (fun h13 k13 => ?_)
        have s13 : SC h h13 := SC_trans (b := h12) s12 k13.1
        refine ok_ob1 (u_X6_addStep_3 h13 (20000 + r8) (s13).1) (fun h14 k14 => ?_)
        have s14 : SC h h14 := SC_trans (b := h13) s13 k14.1
        unfold f_X2_readAsk_3_97
        exact ok_some ⟨s14, trivial⟩
      · unfold f_X2_readAsk_3_97
        exact ok_some ⟨s10, trivial⟩
    · refine ok_if (fun c15 => ?_) (fun c15 => ?_)
      · unfold f_X2_readAsk_3_68
        refine ok_if (fun c16 => ?_) (fun c16 => ?_)
        · refine ok_ob1 (u_X7_advance h7 (s7).1) (fun h17 k17 => ?_)
          have s17 : SC h h17 := SC_trans (b := h7) s7 k17.1
          refine ok_ob1 (hR_X2_readLevel h17 3 p1 (s17).1 (by have := w0; have := w1; have : (3 : Int32).toInt = 3 := rfl; have := fb_rng (p1); omega) (by have := w0; have := w1; have : (3 : Int32).toInt = 3 := rfl; have := fb_rng (p1); omega) (by have := w0; have := w1; have : (3 : Int32).toInt = 3 := rfl; have := fb_rng (p1); omega)) (fun h18 k18 => ?_)
          have s18 : SC h h18 := SC_trans (b := h17) s17 k18.1
          refine ok_ob1 (u_X6_addStep_3 h18 (20000 + r8) (s18).1) (fun h19 k19 => ?_)
          have s19 : SC h h19 := SC_trans (b := h18) s18 k19.1
          unfold f_X2_readAsk_3_97
          exact ok_some ⟨s19, trivial⟩
        · unfold f_X2_readAsk_3_97
          exact ok_some ⟨s7, trivial⟩
      · unfold f_X2_readAsk_3_62
        refine ok_ob1 (u_X2_fail h7 1 (s7).1) (fun h20 k20 => ?_)
        have s20 : SC h h20 := SC_trans (b := h7) s7 k20.1
        unfold f_X2_readAsk_3_68
        refine ok_if (fun c21 => ?_) (fun c21 => ?_)
        · refine ok_ob1 (u_X7_advance h20 (s20).1) (fun h22 k22 => ?_)
          have s22 : SC h h22 := SC_trans (b := h20) s20 k22.1
          refine ok_ob1 (hR_X2_readLevel h22 3 p1 (s22).1 (by have := w0; have := w1; have : (3 : Int32).toInt = 3 := rfl; have := fb_rng (p1); omega) (by have := w0; have := w1; have : (3 : Int32).toInt = 3 := rfl; have := fb_rng (p1); omega) (by have := w0; have := w1; have : (3 : Int32).toInt = 3 := rfl; have := fb_rng (p1); omega)) (fun h23 k23 => ?_)
          have s23 : SC h h23 := SC_trans (b := h22) s22 k23.1
          refine ok_ob1 (u_X6_addStep_3 h23 (20000 + r8) (s23).1) (fun h24 k24 => ?_)
          have s24 : SC h h24 := SC_trans (b := h23) s23 k24.1
          unfold f_X2_readAsk_3_97
          exact ok_some ⟨s24, trivial⟩
        · unfold f_X2_readAsk_3_97
          exact ok_some ⟨s20, trivial⟩
theorem u_X2_readOne_3_b   {kR_X2_readLevel : HS → Int32 → Int32 → Option HS} {kR_X2_readAsk : HS → Int32 → Option HS} {kR_X2_readOne : HS → Int32 → Option HS} (m : Int) (hR_X2_readLevel : ∀ (h : HS) (p1 p2 : Int32), IC h → (0 ≤ p1.toInt ∧ p1.toInt ≤ 5) → (0 ≤ p2.toInt ∧ p2.toInt ≤ 8) → 20 * (8 - p2.toInt) + 22 - 2 * p1.toInt < m → ok (kR_X2_readLevel h p1 p2) (fun a => SC h a ∧ True)) (hR_X2_readAsk : ∀ (h : HS) (p1 : Int32), IC h → (0 ≤ p1.toInt ∧ p1.toInt ≤ 8) → 20 * (8 - p1.toInt) + 17 < m → ok (kR_X2_readAsk h p1) (fun a => SC h a ∧ True)) (hR_X2_readOne : ∀ (h : HS) (p1 : Int32), IC h → (0 ≤ p1.toInt ∧ p1.toInt ≤ 8) → 20 * (8 - p1.toInt) + 5 < m → ok (kR_X2_readOne h p1) (fun a => SC h a ∧ True)) (h : HS) (p1 : Int32) (hI : IC h) (w0 : 0 ≤ p1.toInt ∧ p1.toInt ≤ 8) (w1 : 20 * (8 - p1.toInt) + 5 ≤ m) : ok (f_X2_readOne_3_b kR_X2_readLevel kR_X2_readAsk kR_X2_readOne h p1) (fun a => SC h a ∧ True) := by
  unfold f_X2_readOne_3_b
  refine ok_ob2 (u_X7_kind h ((SC_refl hI)).1) (fun r1 h1 k1 => ?_)
  have e1 : h = h1 := k1.1.symm
  subst e1
  refine ok_if (fun c2 => ?_) (fun c2 => ?_)
  · refine ok_ob1 (u_X2_readValue_3 h ((SC_refl hI)).1) (fun h3 k3 => ?_)
    have s3 : SC h h3 := SC_trans (b := h) (SC_refl hI) k3.1
    unfold f_X2_readOne_3_121
    exact ok_some ⟨s3, trivial⟩
  · refine ok_if (fun c4 => ?_) (fun c4 => ?_)
    · unfold f_X2_readOne_3_44
      refine ok_if (fun c5 => ?_) (fun c5 => ?_)
      · refine ok_ob2 (u_X2_opens h p1 ((SC_refl hI)).1) (fun r6 h6 k6 => ?_)
        have s6 : SC h h6 := SC_trans (b := h) (SC_refl hI) k6.1
        refine ok_if (fun c7 => ?_) (fun c7 => ?_)
        · unfold f_X2_readOne_3_121
          exact ok_some ⟨s6, trivial⟩
        · refine ok_ob1 (hR_X2_readLevel h6 3 (p1 + 1) (s6).1 (by have := w0; have := w1; have : ((r6).toInt = 0 ∨ (p1).toInt < 8) := k6.2; have := gi_of_ne c7; have : (0 : Int32).toInt = 0 := rfl; have : (1 : Int32).toInt = 1 := rfl; have : (3 : Int32).toInt = 3 := rfl; have := fb_rng (r6); have := fb_rng (p1); (try have := fb_addI (x := p1) (y := 1) (by omega) (by omega)); omega) (by have := w0; have := w1; have : ((r6).toInt = 0 ∨ (p1).toInt < 8) := k6.2; have := gi_of_ne c7; have : (0 : Int32).toInt = 0 := rfl; have : (1 : Int32).toInt = 1 := rfl; have : (3 : Int32).toInt = 3 := rfl; have := fb_rng (r6); have := fb_rng (p1); (try have := fb_addI (x := p1) (y := 1) (by omega) (by omega)); omega) (by have := w0; have := w1; have : ((r6).toInt = 0 ∨ (p1).toInt < 8) := k6.2; have := gi_of_ne c7; have : (0 : Int32).toInt = 0 := rfl; have : (1 : Int32).toInt = 1 := rfl; have : (3 : Int32).toInt = 3 := rfl; have := fb_rng (r6); have := fb_rng (p1); (try have := fb_addI (x := p1) (y := 1) (by omega) (by omega)); omega)) (fun h8 k8 => ?_)
          have s8 : SC h h8 := SC_trans (b := h6) s6 k8.1
          refine ok_ob1 (u_X2_expect h8 14 (s8).1) (fun h9 k9 => ?_)
          have s9 : SC h h9 := SC_trans (b := h8) s8 k9.1
          unfold f_X2_readOne_3_121
          exact ok_some ⟨s9, trivial⟩
      · refine ok_if (fun c10 => ?_) (fun c10 => ?_)
        · refine ok_ob2 (u_X2_opens h p1 ((SC_refl hI)).1) (fun r11 h11 k11 => ?_)
          have s11 : SC h h11 := SC_trans (b := h) (SC_refl hI) k11.1
          refine ok_if (fun c12 => ?_) (fun c12 => ?_)
          · unfold f_X2_readOne_3_121
            exact ok_some ⟨s11, trivial⟩
          · refine ok_ob1 (hR_X2_readOne h11 (p1 + 1) (s11).1 (by have := w0; have := w1; have : ((r11).toInt = 0 ∨ (p1).toInt < 8) := k11.2; have := gi_of_ne c12; have : (0 : Int32).toInt = 0 := rfl; have : (1 : Int32).toInt = 1 := rfl; have := fb_rng (r11); have := fb_rng (p1); (try have := fb_addI (x := p1) (y := 1) (by omega) (by omega)); omega) (by have := w0; have := w1; have : ((r11).toInt = 0 ∨ (p1).toInt < 8) := k11.2; have := gi_of_ne c12; have : (0 : Int32).toInt = 0 := rfl; have : (1 : Int32).toInt = 1 := rfl; have := fb_rng (r11); have := fb_rng (p1); (try have := fb_addI (x := p1) (y := 1) (by omega) (by omega)); omega)) (fun h13 k13 => ?_)
            have s13 : SC h h13 := SC_trans (b := h11) s11 k13.1
            refine ok_ob1 (u_X6_addStep_3 h13 20038 (s13).1) (fun h14 k14 => ?_)
            have s14 : SC h h14 := SC_trans (b := h13) s13 k14.1
            unfold f_X2_readOne_3_121
            exact ok_some ⟨s14, trivial⟩
        · refine ok_ob1 (u_X2_fail h 1 ((SC_refl hI)).1) (fun h15 k15 => ?_)
          have s15 : SC h h15 := SC_trans (b := h) (SC_refl hI) k15.1
          unfold f_X2_readOne_3_121
          exact ok_some ⟨s15, trivial⟩
    · refine ok_if (fun c16 => ?_) (fun c16 => ?_)
      · unfold f_X2_readOne_3_44
        refine ok_if (fun c17 => ?_) (fun c17 => ?_)
        · refine ok_ob2 (u_X2_opens h p1 ((SC_refl hI)).1) (fun r18 h18 k18 => ?_)
          have s18 : SC h h18 := SC_trans (b := h) (SC_refl hI) k18.1
          refine ok_if (fun c19 => ?_) (fun c19 => ?_)
          · unfold f_X2_readOne_3_121
            exact ok_some ⟨s18, trivial⟩
          · refine ok_ob1 (hR_X2_readLevel h18 3 (p1 + 1) (s18).1 (by have := w0; have := w1; have : ((r18).toInt = 0 ∨ (p1).toInt < 8) := k18.2; have := gi_of_ne c19; have : (0 : Int32).toInt = 0 := rfl; have : (1 : Int32).toInt = 1 := rfl; have : (3 : Int32).toInt = 3 := rfl; have := fb_rng (r18); have := fb_rng (p1); (try have := fb_addI (x := p1) (y := 1) (by omega) (by omega)); omega) (by have := w0; have := w1; have : ((r18).toInt = 0 ∨ (p1).toInt < 8) := k18.2; have := gi_of_ne c19; have : (0 : Int32).toInt = 0 := rfl; have : (1 : Int32).toInt = 1 := rfl; have : (3 : Int32).toInt = 3 := rfl; have := fb_rng (r18); have := fb_rng (p1); (try have := fb_addI (x := p1) (y := 1) (by omega) (by omega)); omega) (by have := w0; have := w1; have : ((r18).toInt = 0 ∨ (p1).toInt < 8) := k18.2; have := gi_of_ne c19; have : (0 : Int32).toInt = 0 := rfl; have : (1 : Int32).toInt = 1 := rfl; have : (3 : Int32).toInt = 3 := rfl; have := fb_rng (r18); have := fb_rng (p1); (try have := fb_addI (x := p1) (y := 1) (by omega) (by omega)); omega)) (fun h20 k20 => ?_)
            have s20 : SC h h20 := SC_trans (b := h18) s18 k20.1
            refine ok_ob1 (u_X2_expect h20 14 (s20).1) (fun h21 k21 => ?_)
            have s21 : SC h h21 := SC_trans (b := h20) s20 k21.1
            unfold f_X2_readOne_3_121
            exact ok_some ⟨s21, trivial⟩
        · refine ok_if (fun c22 => ?_) (fun c22 => ?_)
          · refine ok_ob2 (u_X2_opens h p1 ((SC_refl hI)).1) (fun r23 h23 k23 => ?_)
            have s23 : SC h h23 := SC_trans (b := h) (SC_refl hI) k23.1
            refine ok_if (fun c24 => ?_) (fun c24 => ?_)
            · unfold f_X2_readOne_3_121
              exact ok_some ⟨s23, trivial⟩
            · refine ok_ob1 (hR_X2_readOne h23 (p1 + 1) (s23).1 (by have := w0; have := w1; have : ((r23).toInt = 0 ∨ (p1).toInt < 8) := k23.2; have := gi_of_ne c24; have : (0 : Int32).toInt = 0 := rfl; have : (1 : Int32).toInt = 1 := rfl; have := fb_rng (r23); have := fb_rng (p1); (try have := fb_addI (x := p1) (y := 1) (by omega) (by omega)); omega) (by have := w0; have := w1; have : ((r23).toInt = 0 ∨ (p1).toInt < 8) := k23.2; have := gi_of_ne c24; have : (0 : Int32).toInt = 0 := rfl; have : (1 : Int32).toInt = 1 := rfl; have := fb_rng (r23); have := fb_rng (p1); (try have := fb_addI (x := p1) (y := 1) (by omega) (by omega)); omega)) (fun h25 k25 => ?_)
              have s25 : SC h h25 := SC_trans (b := h23) s23 k25.1
              refine ok_ob1 (u_X6_addStep_3 h25 20038 (s25).1) (fun h26 k26 => ?_)
              have s26 : SC h h26 := SC_trans (b := h25) s25 k26.1
              unfold f_X2_readOne_3_121
              exact ok_some ⟨s26, trivial⟩
          · refine ok_ob1 (u_X2_fail h 1 ((SC_refl hI)).1) (fun h27 k27 => ?_)
            have s27 : SC h h27 := SC_trans (b := h) (SC_refl hI) k27.1
            unfold f_X2_readOne_3_121
            exact ok_some ⟨s27, trivial⟩
      · refine ok_ob1 (u_X2_readName_3 h ((SC_refl hI)).1) (fun h28 k28 => ?_)
        have s28 : SC h h28 := SC_trans (b := h) (SC_refl hI) k28.1
        unfold f_X2_readOne_3_121
        exact ok_some ⟨s28, trivial⟩
theorem u_G_read_3 : ∀ (n : Nat), (∀ (h : HS) (p1 p2 : Int32), IC h → (0 ≤ p1.toInt ∧ p1.toInt ≤ 5) → (0 ≤ p2.toInt ∧ p2.toInt ≤ 8) → 20 * (8 - p2.toInt) + 22 - 2 * p1.toInt < (n : Int) → ok (G_read_3 n 0 h p1 p2) (fun a => SC h a ∧ True)) ∧ (∀ (h : HS) (p1 : Int32), IC h → (0 ≤ p1.toInt ∧ p1.toInt ≤ 8) → 20 * (8 - p1.toInt) + 17 < (n : Int) → ok (G_read_3 n 1 h p1 0) (fun a => SC h a ∧ True)) ∧ (∀ (h : HS) (p1 : Int32), IC h → (0 ≤ p1.toInt ∧ p1.toInt ≤ 8) → 20 * (8 - p1.toInt) + 5 < (n : Int) → ok (G_read_3 n 2 h p1 0) (fun a => SC h a ∧ True)) := by
  intro n
  induction n with
  | zero => exact ⟨fun h p1 p2 hI h0 h2 hm => absurd hm (by omega), fun h p1 hI h0 hm => absurd hm (by omega), fun h p1 hI h0 hm => absurd hm (by omega)⟩
  | succ n ih =>
    obtain ⟨i0, i1, i2⟩ := ih
    refine ⟨fun h p1 p2 hI h0 h2 hm => ?_, fun h p1 hI h0 hm => ?_, fun h p1 hI h0 hm => ?_⟩
    · exact u_X2_readLevel_3_b (m := n) i0 i1 i2 h p1 p2 hI h0 h2 (by omega)
    · exact u_X2_readAsk_3_b (m := n) i0 i1 i2 h p1 hI h0 (by omega)
    · exact u_X2_readOne_3_b (m := n) i0 i1 i2 h p1 hI h0 (by omega)
theorem u_X2_readClause_3 (h : HS) (hI : IC h) : ok (f_X2_readClause_3 h) (fun a => SC h a ∧ True) := by
  unfold f_X2_readClause_3
  refine ok_ob2 (u_X7_kind h ((SC_refl hI)).1) (fun r1 h1 k1 => ?_)
  have e1 : h = h1 := k1.1.symm
  subst e1
  refine ok_if (fun c2 => ?_) (fun c2 => ?_)
  · unfold f_X2_readClause_3_25
    refine ok_ob1 (u_X2_fail (sI h 5 2 (r1 - 16)) 1 ((SC_refl hI)).1) (fun h3 k3 => ?_)
    have s3 : SC h h3 := SC_trans (b := (sI h 5 2 (r1 - 16))) (SC_refl hI) k3.1
    unfold f_X2_readClause_3_158
    exact ok_some ⟨s3, trivial⟩
  · refine ok_if (fun c4 => ?_) (fun c4 => ?_)
    · refine ok_ob2 (u_X6_hasLaw_3 (sI h 5 2 (r1 - 16)) (r1 - 16) ((SC_refl hI)).1) (fun r5 h5 k5 => ?_)
      have e5 : (sI h 5 2 (r1 - 16)) = h5 := k5.1.symm
      subst e5
      refine ok_if (fun c6 => ?_) (fun c6 => ?_)
      · refine ok_if (fun c7 => ?_) (fun c7 => ?_)
        · refine ok_ob1 (u_X6_setClause_3 (sI h 5 2 (r1 - 16)) (eI (sI h 5 2 (r1 - 16)) 12 1) 0 r1 ((SC_refl hI)).1) (fun h8 k8 => ?_)
          have s8 : SC h h8 := SC_trans (b := (sI h 5 2 (r1 - 16))) (SC_refl hI) k8.1
          refine ok_ob1 (u_X7_advance h8 (s8).1) (fun h9 k9 => ?_)
          have s9 : SC h h9 := SC_trans (b := h8) s8 k9.1
          refine ok_if (fun c10 => ?_) (fun c10 => ?_)
          · refine ok_ob1 (u_X2_readDeed_3 h9 r1 (s9).1) (fun h11 k11 => ?_)
            have s11 : SC h h11 := SC_trans (b := h9) s9 k11.1
            unfold f_X2_readClause_3_141
            refine ok_ob1 (u_X2_expect h11 15 (s11).1) (fun h12 k12 => ?_)
            have s12 : SC h h12 := SC_trans (b := h11) s11 k12.1
            unfold f_X2_readClause_3_158
            exact ok_some ⟨s12, trivial⟩
          · refine ok_ob1 (u_X6_beginLaw_3 h9 (eI h9 5 2) (s9).1) (fun h13 k13 => ?_)
            have s13 : SC h h13 := SC_trans (b := h9) s9 k13.1
            refine ok_if (fun c14 => ?_) (fun c14 => ?_)
            · unfold f_X2_readClause_3_119
              refine ok_ob1 ((u_G_read_3 200).1 h13 0 0 (s13).1 (by have : (0 : Int32).toInt = 0 := rfl; omega) (by have : (0 : Int32).toInt = 0 := rfl; omega) (by have : (0 : Int32).toInt = 0 := rfl; omega)) (fun h15 k15 => ?_)
              have s15 : SC h h15 := SC_trans (b := h13) s13 k15.1
              refine ok_ob1 (u_X6_closeLaw_3 h15 (eI h15 5 2) (s15).1) (fun h16 k16 => ?_)
              have s16 : SC h h16 := SC_trans (b := h15) s15 k16.1
              unfold f_X2_readClause_3_141
              refine ok_ob1 (u_X2_expect h16 15 (s16).1) (fun h17 k17 => ?_)
              have s17 : SC h h17 := SC_trans (b := h16) s16 k17.1
              unfold f_X2_readClause_3_158
              exact ok_some ⟨s17, trivial⟩
            · unfold f_X2_readClause_3_119
              refine ok_ob1 ((u_G_read_3 200).1 h13 3 0 (s13).1 (by have : (0 : Int32).toInt = 0 := rfl; have : (3 : Int32).toInt = 3 := rfl; omega) (by have : (0 : Int32).toInt = 0 := rfl; have : (3 : Int32).toInt = 3 := rfl; omega) (by have : (0 : Int32).toInt = 0 := rfl; have : (3 : Int32).toInt = 3 := rfl; omega)) (fun h18 k18 => ?_)
              have s18 : SC h h18 := SC_trans (b := h13) s13 k18.1
              refine ok_ob1 (u_X6_closeLaw_3 h18 (eI h18 5 2) (s18).1) (fun h19 k19 => ?_)
              have s19 : SC h h19 := SC_trans (b := h18) s18 k19.1
              unfold f_X2_readClause_3_141
              refine ok_ob1 (u_X2_expect h19 15 (s19).1) (fun h20 k20 => ?_)
              have s20 : SC h h20 := SC_trans (b := h19) s19 k20.1
              unfold f_X2_readClause_3_158
              exact ok_some ⟨s20, trivial⟩
        · refine ok_ob1 (u_X2_fail (sI h 5 2 (r1 - 16)) 6 ((SC_refl hI)).1) (fun h21 k21 => ?_)
          have s21 : SC h h21 := SC_trans (b := (sI h 5 2 (r1 - 16))) (SC_refl hI) k21.1
          unfold f_X2_readClause_3_158
          exact ok_some ⟨s21, trivial⟩
      · refine ok_ob1 (u_X2_fail (sI h 5 2 (r1 - 16)) 4 ((SC_refl hI)).1) (fun h22 k22 => ?_)
        have s22 : SC h h22 := SC_trans (b := (sI h 5 2 (r1 - 16))) (SC_refl hI) k22.1
        unfold f_X2_readClause_3_158
        exact ok_some ⟨s22, trivial⟩
    · unfold f_X2_readClause_3_25
      refine ok_ob1 (u_X2_fail (sI h 5 2 (r1 - 16)) 1 ((SC_refl hI)).1) (fun h23 k23 => ?_)
      have s23 : SC h h23 := SC_trans (b := (sI h 5 2 (r1 - 16))) (SC_refl hI) k23.1
      unfold f_X2_readClause_3_158
      exact ok_some ⟨s23, trivial⟩
theorem u_X2_parse_3_16 {h0 : HS} : ∀ (n : Nat) (h : HS) (x3 : Int32), SC h0 h → 0 < n → (25 - x3.toInt : Int) < (n : Int) → ok (f_X2_parse_3_16  n h x3) (fun a => SC h0 a ∧ True) := by
  intro n
  induction n with
  | zero =>
    intro h x3 hSC hn hm
    exact absurd hn (by decide)
  | succ n ih_X2_parse_3_16 =>
    intro h x3 hSC hn hm
    rw [f_X2_parse_3_16_s]
    refine ok_if (fun c1 => ?_) (fun c1 => ?_)
    · unfold f_X2_parse_3_48
      exact ok_some ⟨hSC, trivial⟩
    · refine ok_if (fun c2 => ?_) (fun c2 => ?_)
      · refine ok_ob2 (u_X7_kind h (hSC).1) (fun r3 h3 k3 => ?_)
        have e3 : h = h3 := k3.1.symm
        subst e3
        refine ok_if (fun c4 => ?_) (fun c4 => ?_)
        · unfold f_X2_parse_3_48
          exact ok_some ⟨hSC, trivial⟩
        · refine ok_ob1 (u_X2_readClause_3 h (hSC).1) (fun h5 k5 => ?_)
          have s5 : SC h0 h5 := SC_trans (b := h) hSC k5.1
          exact ih_X2_parse_3_16 h5 (x3 + 1) s5 (by have := hm; have := gi_of_nlt c1; have : (1 : Int32).toInt = 1 := rfl; have : (24 : Int32).toInt = 24 := rfl; have := fb_rng (x3); (try have := fb_addI (x := x3) (y := 1) (by omega) (by omega)); omega) (by have := hm; have := gi_of_nlt c1; have : (1 : Int32).toInt = 1 := rfl; have : (24 : Int32).toInt = 24 := rfl; have := fb_rng (x3); (try have := fb_addI (x := x3) (y := 1) (by omega) (by omega)); omega)
      · unfold f_X2_parse_3_48
        exact ok_some ⟨hSC, trivial⟩
theorem u_X2_parse_3 (h : HS) (hI : IC h) : ok (f_X2_parse_3 h) (fun a => SC h a ∧ True) := by
  unfold f_X2_parse_3
  refine ok_ob1 (u_X6_clear_3 (sI (sI h 5 0 0) 5 1 (-1)) ((SC_refl hI)).1) (fun h1 k1 => ?_)
  have s1 : SC h h1 := SC_trans (b := (sI (sI h 5 0 0) 5 1 (-1))) (SC_refl hI) k1.1
  exact u_X2_parse_3_16 (h0 := h) 8589934592 h1 0 s1 (by decide) (by have : (0 : Int32).toInt = 0 := rfl; omega)
