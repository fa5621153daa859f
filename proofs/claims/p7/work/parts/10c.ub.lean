theorem u_X5_addFour_3 {h0 : HS} (x1 : Int32) : ∀ (n : Nat) (h : HS) (x2 : Int32), SC h0 h → 0 < n → (x2.toInt + 1 : Int) < (n : Int) → ok (f_X5_addFour_3  n h x1 x2) (fun a => SC h0 a ∧ True) := by
  intro n
  induction n with
  | zero =>
    intro h x2 hSC hn hm
    exact absurd hn (by decide)
  | succ n ih_X5_addFour_3 =>
    intro h x2 hSC hn hm
    rw [f_X5_addFour_3_s]
    refine ok_if (fun c1 => ?_) (fun c1 => ?_)
    · exact ok_some ⟨hSC, trivial⟩
    · refine ok_if (fun c2 => ?_) (fun c2 => ?_)
      · unfold f_X5_addFour_45
        exact ih_X5_addFour_3 h (x2 + (-8)) hSC (by have := hm; have := gi_of_nlt c1; have : ((-8) : Int32).toInt = -8 := rfl; have : (0 : Int32).toInt = 0 := rfl; have := fb_rng (x2); (try have := fb_addI (x := x2) (y := (-8)) (by omega) (by omega)); omega) (by have := hm; have := gi_of_nlt c1; have : ((-8) : Int32).toInt = -8 := rfl; have : (0 : Int32).toInt = 0 := rfl; have := fb_rng (x2); (try have := fb_addI (x := x2) (y := (-8)) (by omega) (by omega)); omega)
      · refine ok_chk (by have := IC_n hSC.1; have := hm; have := gi_of_nle c2; have : (300 : Int32).toInt = 300 := rfl; have := fb_rng (eI h 3 1); omega) ?_
        unfold f_X5_addFour_45
        exact ih_X5_addFour_3 (sI (sA h 3 0 (upd (eA h 3 0) (((eI h 3 1)).toNatClampNeg) ((x1 >>> (x2 &&& 31)) &&& 255))) 3 1 ((eI h 3 1) + 1)) (x2 + (-8)) (st_3_1 (c := (sA h 3 0 (upd (eA h 3 0) (((eI h 3 1)).toNatClampNeg) ((x1 >>> (x2 &&& 31)) &&& 255)))) (x := ((eI h 3 1) + 1)) hSC (by have := IC_n hSC.1; have := hm; have := gi_of_nle c2; have : (1 : Int32).toInt = 1 := rfl; have : (300 : Int32).toInt = 300 := rfl; have := fb_rng (eI h 3 1); (try have := fb_addI (x := (eI h 3 1)) (y := 1) (by omega) (by omega)); omega) (by have := IC_n hSC.1; have := hm; have := gi_of_nle c2; have : (1 : Int32).toInt = 1 := rfl; have : (300 : Int32).toInt = 300 := rfl; have := fb_rng (eI h 3 1); (try have := fb_addI (x := (eI h 3 1)) (y := 1) (by omega) (by omega)); omega)) (by have := hm; have := gi_of_nlt c1; have : ((-8) : Int32).toInt = -8 := rfl; have : (0 : Int32).toInt = 0 := rfl; have := fb_rng (x2); (try have := fb_addI (x := x2) (y := (-8)) (by omega) (by omega)); omega) (by have := hm; have := gi_of_nlt c1; have : ((-8) : Int32).toInt = -8 := rfl; have : (0 : Int32).toInt = 0 := rfl; have := fb_rng (x2); (try have := fb_addI (x := x2) (y := (-8)) (by omega) (by omega)); omega)
theorem u_X5_addFour (h : HS) (p1 : Int32) (hI : IC h) : ok (f_X5_addFour h p1) (fun a => SC h a ∧ True) := by
  unfold f_X5_addFour
  exact u_X5_addFour_3 (h0 := h) p1 8589934592 h 24 (SC_refl hI) (by decide) (by have : (24 : Int32).toInt = 24 := rfl; omega)
theorem u_X5_byteAt (h : HS) (p1 : Int32) (hI : IC h) : ok (f_X5_byteAt h p1) (fun a => a.2 = h ∧ True) := by
  unfold f_X5_byteAt
  refine ok_if (fun c1 => ?_) (fun c1 => ?_)
  · unfold f_X5_byteAt_30
    unfold f_X5_byteAt_31
    exact ok_some ⟨rfl, trivial⟩
  · refine ok_if (fun c2 => ?_) (fun c2 => ?_)
    · unfold f_X5_byteAt_30
      unfold f_X5_byteAt_31
      exact ok_some ⟨rfl, trivial⟩
    · refine ok_if (fun c3 => ?_) (fun c3 => ?_)
      · unfold f_X5_byteAt_30
        unfold f_X5_byteAt_31
        exact ok_some ⟨rfl, trivial⟩
      · refine ok_chk (by have := IC_n (SC_refl hI).1; have := gi_of_nlt c1; have := gi_of_nle c2; have := gi_of_nle c3; have : (0 : Int32).toInt = 0 := rfl; have : (300 : Int32).toInt = 300 := rfl; have := fb_rng (p1); have := fb_rng (eI h 3 1); omega) ?_
        unfold f_X5_byteAt_31
        exact ok_some ⟨rfl, trivial⟩
theorem u_X7_kind (h : HS) (hI : IC h) : ok (f_X7_kind h) (fun a => a.2 = h ∧ True) := by
  unfold f_X7_kind
  refine ok_if (fun c1 => ?_) (fun c1 => ?_)
  · unfold f_X7_kind_35
    unfold f_X7_kind_36
    exact ok_some ⟨rfl, trivial⟩
  · refine ok_if (fun c2 => ?_) (fun c2 => ?_)
    · unfold f_X7_kind_35
      unfold f_X7_kind_36
      exact ok_some ⟨rfl, trivial⟩
    · refine ok_chk (by have := IC_n (SC_refl hI).1; have := gi_of_nle c1; have := gi_of_nle c2; have : (301 : Int32).toInt = 301 := rfl; have := fb_rng (eI h 4 3); have := fb_rng (eI h 4 4); omega) ?_
      unfold f_X7_kind_36
      exact ok_some ⟨rfl, trivial⟩
theorem u_X7_start (h : HS) (hI : IC h) : ok (f_X7_start h) (fun a => a.2 = h ∧ True) := by
  unfold f_X7_start
  refine ok_if (fun c1 => ?_) (fun c1 => ?_)
  · unfold f_X7_start_35
    unfold f_X7_start_36
    exact ok_some ⟨rfl, trivial⟩
  · refine ok_if (fun c2 => ?_) (fun c2 => ?_)
    · unfold f_X7_start_35
      unfold f_X7_start_36
      exact ok_some ⟨rfl, trivial⟩
    · refine ok_chk (by have := IC_n (SC_refl hI).1; have := gi_of_nle c1; have := gi_of_nle c2; have : (301 : Int32).toInt = 301 := rfl; have := fb_rng (eI h 4 3); have := fb_rng (eI h 4 4); omega) ?_
      unfold f_X7_start_36
      exact ok_some ⟨rfl, trivial⟩
theorem u_X7_value (h : HS) (hI : IC h) : ok (f_X7_value h) (fun a => a.2 = h ∧ True) := by
  unfold f_X7_value
  refine ok_if (fun c1 => ?_) (fun c1 => ?_)
  · unfold f_X7_value_35
    unfold f_X7_value_36
    exact ok_some ⟨rfl, trivial⟩
  · refine ok_if (fun c2 => ?_) (fun c2 => ?_)
    · unfold f_X7_value_35
      unfold f_X7_value_36
      exact ok_some ⟨rfl, trivial⟩
    · refine ok_chk (by have := IC_n (SC_refl hI).1; have := gi_of_nle c1; have := gi_of_nle c2; have : (301 : Int32).toInt = 301 := rfl; have := fb_rng (eI h 4 3); have := fb_rng (eI h 4 4); omega) ?_
      unfold f_X7_value_36
      exact ok_some ⟨rfl, trivial⟩
theorem u_X7_advance (h : HS) (hI : IC h) : ok (f_X7_advance h) (fun a => SC h a ∧ True) := by
  unfold f_X7_advance
  refine ok_if (fun c1 => ?_) (fun c1 => ?_)
  · unfold f_X7_advance_23
    exact ok_some ⟨(SC_refl hI), trivial⟩
  · unfold f_X7_advance_23
    exact ok_some ⟨(st_4_4 (c := h) (x := ((eI h 4 4) + 1)) (SC_refl hI) (by have := IC_n (SC_refl hI).1; have := gi_of_nle c1; have : (1 : Int32).toInt = 1 := rfl; have := fb_rng (eI h 4 3); (try have := fb_subI (x := (eI h 4 3)) (y := 1) (by omega) (by omega)); have := fb_rng (eI h 4 4); (try have := fb_addI (x := (eI h 4 4)) (y := 1) (by omega) (by omega)); omega)), trivial⟩
theorem u_X7_add (h : HS) (p1 : Int32) (p2 : Int32) (p3 : Int32) (hI : IC h) : ok (f_X7_add h p1 p2 p3) (fun a => SC h a ∧ True) := by
  unfold f_X7_add
  refine ok_if (fun c1 => ?_) (fun c1 => ?_)
  · unfold f_X7_add_76
    exact ok_some ⟨(SC_refl hI), trivial⟩
  · refine ok_chk (by have := IC_n (SC_refl hI).1; have := gi_of_nle c1; have : (301 : Int32).toInt = 301 := rfl; have := fb_rng (eI h 4 3); omega) ?_
    refine ok_chk (by have := IC_n (SC_refl hI).1; have := gi_of_nle c1; have : (301 : Int32).toInt = 301 := rfl; have := fb_rng (eI h 4 3); omega) ?_
    refine ok_chk (by have := IC_n (SC_refl hI).1; have := gi_of_nle c1; have : (301 : Int32).toInt = 301 := rfl; have := fb_rng (eI h 4 3); omega) ?_
    unfold f_X7_add_76
    exact ok_some ⟨(st_4_3 (c := (sA (sA (sA h 4 0 (upd (eA h 4 0) (((eI h 4 3)).toNatClampNeg) p1)) 4 1 (upd (eA h 4 1) (((eI h 4 3)).toNatClampNeg) p2)) 4 2 (upd (eA h 4 2) (((eI h 4 3)).toNatClampNeg) p3))) (x := ((eI h 4 3) + 1)) (SC_refl hI) (by have := IC_n (SC_refl hI).1; have := gi_of_nle c1; have : (1 : Int32).toInt = 1 := rfl; have : (301 : Int32).toInt = 301 := rfl; have := fb_rng (eI h 4 3); (try have := fb_addI (x := (eI h 4 3)) (y := 1) (by omega) (by omega)); omega) (by have := IC_n (SC_refl hI).1; have := gi_of_nle c1; have : (1 : Int32).toInt = 1 := rfl; have : (301 : Int32).toInt = 301 := rfl; have := fb_rng (eI h 4 3); (try have := fb_addI (x := (eI h 4 3)) (y := 1) (by omega) (by omega)); omega)), trivial⟩
theorem u_X7_splitNumber_5 {h0 : HS} (x2 : Int32) : ∀ (n : Nat) (h : HS) (x3 : Int32) (x4 : Int32), SC h0 h → 0 < n → (300 - (x3).toInt : Int) < (n : Int) → ok (f_X7_splitNumber_5  n h x2 x3 x4) (fun a => SC h0 a.2 ∧ True) := by
  intro n
  induction n with
  | zero =>
    intro h x3 x4 hSC hn hm
    exact absurd hn (by decide)
  | succ n ih_X7_splitNumber_5 =>
    intro h x3 x4 hSC hn hm
    rw [f_X7_splitNumber_5_s]
    refine ok_if (fun c1 => ?_) (fun c1 => ?_)
    · unfold f_X7_splitNumber_52
      refine ok_ob1 (u_X7_add h 2 x2 x4 (hSC).1) (fun h2 k2 => ?_)
      have s2 : SC h0 h2 := SC_trans (b := h) hSC k2.1
      exact ok_some ⟨s2, trivial⟩
    · refine ok_ob2 (u_X5_byteAt h x3 (hSC).1) (fun r3 h3 k3 => ?_)
      have e3 : h = h3 := k3.1.symm
      subst e3
      refine ok_ob1 (u_X7_isNumeral r3) (fun r4 k4 => ?_)
      refine ok_if (fun c5 => ?_) (fun c5 => ?_)
      · unfold f_X7_splitNumber_52
        refine ok_ob1 (u_X7_add h 2 x2 x4 (hSC).1) (fun h6 k6 => ?_)
        have s6 : SC h0 h6 := SC_trans (b := h) hSC k6.1
        exact ok_some ⟨s6, trivial⟩
      · refine ok_ob2 (u_X5_byteAt h x3 (hSC).1) (fun r7 h7 k7 => ?_)
        have e7 : h = h7 := k7.1.symm
        subst e7
        exact ih_X7_splitNumber_5 h (x3 + 1) (if (((x4 * 10) + r7) - 48) < 10000 then (((x4 * 10) + r7) - 48) else 10000) hSC (by have := IC_n hSC.1; have := hm; have := gi_of_nle c1; have : (1 : Int32).toInt = 1 := rfl; have := fb_rng (eI h 3 1); have := fb_rng (x3); (try have := fb_addI (x := x3) (y := 1) (by omega) (by omega)); omega) (by have := IC_n hSC.1; have := hm; have := gi_of_nle c1; have : (1 : Int32).toInt = 1 := rfl; have := fb_rng (eI h 3 1); have := fb_rng (x3); (try have := fb_addI (x := x3) (y := 1) (by omega) (by omega)); omega)
theorem u_X7_splitNumber (h : HS) (p1 : Int32) (hI : IC h) : ok (f_X7_splitNumber h p1) (fun a => SC h a.2 ∧ True) := by
  unfold f_X7_splitNumber
  exact u_X7_splitNumber_5 (h0 := h) p1 8589934592 h p1 0 (SC_refl hI) (by decide) (by have := fb_rng (p1); omega)
theorem u_X7_splitSign (h : HS) (p1 : Int32) (hI : IC h) : ok (f_X7_splitSign h p1) (fun a => SC h a.2 ∧ True) := by
  unfold f_X7_splitSign
  refine ok_ob2 (u_X5_byteAt h p1 ((SC_refl hI)).1) (fun r1 h1 k1 => ?_)
  have e1 : h = h1 := k1.1.symm
  subst e1
  refine ok_ob1 (u_X7_signKind r1) (fun r2 k2 => ?_)
  refine ok_if (fun c3 => ?_) (fun c3 => ?_)
  · unfold f_X7_splitSign_19
    refine ok_ob2 (u_X5_byteAt h (p1 + 1) ((SC_refl hI)).1) (fun r4 h4 k4 => ?_)
    have e4 : h = h4 := k4.1.symm
    subst e4
    refine ok_if (fun c5 => ?_) (fun c5 => ?_)
    · unfold f_X7_splitSign_36
      refine ok_if (fun c6 => ?_) (fun c6 => ?_)
      · unfold f_X7_splitSign_55
        refine ok_ob1 (u_X7_add h r2 p1 0 ((SC_refl hI)).1) (fun h7 k7 => ?_)
        have s7 : SC h h7 := SC_trans (b := h) (SC_refl hI) k7.1
        refine ok_if (fun c8 => ?_) (fun c8 => ?_)
        · unfold f_X7_splitSign_76
          exact ok_some ⟨s7, trivial⟩
        · unfold f_X7_splitSign_76
          exact ok_some ⟨s7, trivial⟩
      · refine ok_if (fun c9 => ?_) (fun c9 => ?_)
        · unfold f_X7_splitSign_54
          unfold f_X7_splitSign_55
          refine ok_ob1 (u_X7_add h 4 p1 0 ((SC_refl hI)).1) (fun h10 k10 => ?_)
          have s10 : SC h h10 := SC_trans (b := h) (SC_refl hI) k10.1
          refine ok_if (fun c11 => ?_) (fun c11 => ?_)
          · unfold f_X7_splitSign_76
            exact ok_some ⟨s10, trivial⟩
          · unfold f_X7_splitSign_76
            exact ok_some ⟨s10, trivial⟩
        · unfold f_X7_splitSign_54
          unfold f_X7_splitSign_55
          refine ok_ob1 (u_X7_add h 6 p1 0 ((SC_refl hI)).1) (fun h12 k12 => ?_)
          have s12 : SC h h12 := SC_trans (b := h) (SC_refl hI) k12.1
          refine ok_if (fun c13 => ?_) (fun c13 => ?_)
          · unfold f_X7_splitSign_76
            exact ok_some ⟨s12, trivial⟩
          · unfold f_X7_splitSign_76
            exact ok_some ⟨s12, trivial⟩
    · unfold f_X7_splitSign_35
      unfold f_X7_splitSign_36
      refine ok_if (fun c14 => ?_) (fun c14 => ?_)
      · unfold f_X7_splitSign_55
        refine ok_ob1 (u_X7_add h r2 p1 0 ((SC_refl hI)).1) (fun h15 k15 => ?_)
        have s15 : SC h h15 := SC_trans (b := h) (SC_refl hI) k15.1
        refine ok_if (fun c16 => ?_) (fun c16 => ?_)
        · unfold f_X7_splitSign_76
          exact ok_some ⟨s15, trivial⟩
        · unfold f_X7_splitSign_76
          exact ok_some ⟨s15, trivial⟩
      · refine ok_if (fun c17 => ?_) (fun c17 => ?_)
        · unfold f_X7_splitSign_54
          unfold f_X7_splitSign_55
          refine ok_ob1 (u_X7_add h 4 p1 0 ((SC_refl hI)).1) (fun h18 k18 => ?_)
          have s18 : SC h h18 := SC_trans (b := h) (SC_refl hI) k18.1
          refine ok_if (fun c19 => ?_) (fun c19 => ?_)
          · unfold f_X7_splitSign_76
            exact ok_some ⟨s18, trivial⟩
          · unfold f_X7_splitSign_76
            exact ok_some ⟨s18, trivial⟩
        · unfold f_X7_splitSign_54
          unfold f_X7_splitSign_55
          refine ok_ob1 (u_X7_add h 6 p1 0 ((SC_refl hI)).1) (fun h20 k20 => ?_)
          have s20 : SC h h20 := SC_trans (b := h) (SC_refl hI) k20.1
          refine ok_if (fun c21 => ?_) (fun c21 => ?_)
          · unfold f_X7_splitSign_76
            exact ok_some ⟨s20, trivial⟩
          · unfold f_X7_splitSign_76
            exact ok_some ⟨s20, trivial⟩
  · refine ok_if (fun c22 => ?_) (fun c22 => ?_)
    · unfold f_X7_splitSign_19
      refine ok_ob2 (u_X5_byteAt h (p1 + 1) ((SC_refl hI)).1) (fun r23 h23 k23 => ?_)
      have e23 : h = h23 := k23.1.symm
      subst e23
      refine ok_if (fun c24 => ?_) (fun c24 => ?_)
      · unfold f_X7_splitSign_36
        refine ok_if (fun c25 => ?_) (fun c25 => ?_)
        · unfold f_X7_splitSign_55
          refine ok_ob1 (u_X7_add h r2 p1 0 ((SC_refl hI)).1) (fun h26 k26 => ?_)
          have s26 : SC h h26 := SC_trans (b := h) (SC_refl hI) k26.1
          refine ok_if (fun c27 => ?_) (fun c27 => ?_)
          · unfold f_X7_splitSign_76
            exact ok_some ⟨s26, trivial⟩
          · unfold f_X7_splitSign_76
            exact ok_some ⟨s26, trivial⟩
        · refine ok_if (fun c28 => ?_) (fun c28 => ?_)
          · unfold f_X7_splitSign_54
            unfold f_X7_splitSign_55
            refine ok_ob1 (u_X7_add h 4 p1 0 ((SC_refl hI)).1) (fun h29 k29 => ?_)
            have s29 : SC h h29 := SC_trans (b := h) (SC_refl hI) k29.1
            refine ok_if (fun c30 => ?_) (fun c30 => ?_)
            · unfold f_X7_splitSign_76
              exact ok_some ⟨s29, trivial⟩
            · unfold f_X7_splitSign_76
              exact ok_some ⟨s29, trivial⟩
          · unfold f_X7_splitSign_54
            unfold f_X7_splitSign_55
            refine ok_ob1 (u_X7_add h 6 p1 0 ((SC_refl hI)).1) (fun h31 k31 => ?_)
            have s31 : SC h h31 := SC_trans (b := h) (SC_refl hI) k31.1
            refine ok_if (fun c32 => ?_) (fun c32 => ?_)
            · unfold f_X7_splitSign_76
              exact ok_some ⟨s31, trivial⟩
            · unfold f_X7_splitSign_76
              exact ok_some ⟨s31, trivial⟩
      · unfold f_X7_splitSign_35
        unfold f_X7_splitSign_36
        refine ok_if (fun c33 => ?_) (fun c33 => ?_)
        · unfold f_X7_splitSign_55
          refine ok_ob1 (u_X7_add h r2 p1 0 ((SC_refl hI)).1) (fun h34 k34 => ?_)
          have s34 : SC h h34 := SC_trans (b := h) (SC_refl hI) k34.1
          refine ok_if (fun c35 => ?_) (fun c35 => ?_)
          · unfold f_X7_splitSign_76
            exact ok_some ⟨s34, trivial⟩
          · unfold f_X7_splitSign_76
            exact ok_some ⟨s34, trivial⟩
        · refine ok_if (fun c36 => ?_) (fun c36 => ?_)
          · unfold f_X7_splitSign_54
            unfold f_X7_splitSign_55
            refine ok_ob1 (u_X7_add h 4 p1 0 ((SC_refl hI)).1) (fun h37 k37 => ?_)
            have s37 : SC h h37 := SC_trans (b := h) (SC_refl hI) k37.1
            refine ok_if (fun c38 => ?_) (fun c38 => ?_)
            · unfold f_X7_splitSign_76
              exact ok_some ⟨s37, trivial⟩
            · unfold f_X7_splitSign_76
              exact ok_some ⟨s37, trivial⟩
          · unfold f_X7_splitSign_54
            unfold f_X7_splitSign_55
            refine ok_ob1 (u_X7_add h 6 p1 0 ((SC_refl hI)).1) (fun h39 k39 => ?_)
            have s39 : SC h h39 := SC_trans (b := h) (SC_refl hI) k39.1
            refine ok_if (fun c40 => ?_) (fun c40 => ?_)
            · unfold f_X7_splitSign_76
              exact ok_some ⟨s39, trivial⟩
            · unfold f_X7_splitSign_76
              exact ok_some ⟨s39, trivial⟩
    · unfold f_X7_splitSign_35
      unfold f_X7_splitSign_36
      refine ok_if (fun c41 => ?_) (fun c41 => ?_)
      · unfold f_X7_splitSign_55
        refine ok_ob1 (u_X7_add h r2 p1 0 ((SC_refl hI)).1) (fun h42 k42 => ?_)
        have s42 : SC h h42 := SC_trans (b := h) (SC_refl hI) k42.1
        refine ok_if (fun c43 => ?_) (fun c43 => ?_)
        · unfold f_X7_splitSign_76
          exact ok_some ⟨s42, trivial⟩
        · unfold f_X7_splitSign_76
          exact ok_some ⟨s42, trivial⟩
      · refine ok_if (fun c44 => ?_) (fun c44 => ?_)
        · unfold f_X7_splitSign_54
          unfold f_X7_splitSign_55
          refine ok_ob1 (u_X7_add h 4 p1 0 ((SC_refl hI)).1) (fun h45 k45 => ?_)
          have s45 : SC h h45 := SC_trans (b := h) (SC_refl hI) k45.1
          refine ok_if (fun c46 => ?_) (fun c46 => ?_)
          · unfold f_X7_splitSign_76
            exact ok_some ⟨s45, trivial⟩
          · unfold f_X7_splitSign_76
            exact ok_some ⟨s45, trivial⟩
        · unfold f_X7_splitSign_54
          unfold f_X7_splitSign_55
          refine ok_ob1 (u_X7_add h 6 p1 0 ((SC_refl hI)).1) (fun h47 k47 => ?_)
          have s47 : SC h h47 := SC_trans (b := h) (SC_refl hI) k47.1
          refine ok_if (fun c48 => ?_) (fun c48 => ?_)
          · unfold f_X7_splitSign_76
            exact ok_some ⟨s47, trivial⟩
          · unfold f_X7_splitSign_76
            exact ok_some ⟨s47, trivial⟩
theorem u_X1_push (h : HS) (p1 : Int64) (hI : IC h) : ok (f_X1_push h p1) (fun a => SC h a ∧ True) := by
  unfold f_X1_push
  refine ok_if (fun c1 => ?_) (fun c1 => ?_)
  · unfold f_X1_push_66
    exact ok_some ⟨(SC_refl hI), trivial⟩
  · refine ok_if (fun c2 => ?_) (fun c2 => ?_)
    · unfold f_X1_push_66
      exact ok_some ⟨(SC_refl hI), trivial⟩
    · refine ok_if (fun c3 => ?_) (fun c3 => ?_)
      · refine ok_if (fun c4 => ?_) (fun c4 => ?_)
        · unfold f_X1_push_55
          refine ok_chk (by have := IC_n (SC_refl hI).1; have := gi_of_nlt c1; have := gi_of_nle c2; have : (0 : Int32).toInt = 0 := rfl; have : (40 : Int32).toInt = 40 := rfl; have := fb_rng (eI h 6 3); omega) ?_
          unfold f_X1_push_66
          exact ok_some ⟨(SC_refl hI), trivial⟩
        · unfold f_X1_push_55
          refine ok_chk (by have := IC_n (SC_refl hI).1; have := gi_of_nlt c1; have := gi_of_nle c2; have : (0 : Int32).toInt = 0 := rfl; have : (40 : Int32).toInt = 40 := rfl; have := fb_rng (eI h 6 3); omega) ?_
          unfold f_X1_push_66
          exact ok_some ⟨(SC_refl hI), trivial⟩
      · unfold f_X1_push_55
        refine ok_chk (by have := IC_n (SC_refl hI).1; have := gi_of_nlt c1; have := gi_of_nle c2; have : (0 : Int32).toInt = 0 := rfl; have : (40 : Int32).toInt = 40 := rfl; have := fb_rng (eI h 6 3); omega) ?_
        unfold f_X1_push_66
        exact ok_some ⟨(SC_refl hI), trivial⟩
theorem u_X1_pop (h : HS) (hI : IC h) : ok (f_X1_pop h) (fun a => SC h a.2 ∧ True) := by
  unfold f_X1_pop
  refine ok_if (fun c1 => ?_) (fun c1 => ?_)
  · unfold f_X1_pop_20
    exact ok_some ⟨(SC_refl hI), trivial⟩
  · refine ok_if (fun c2 => ?_) (fun c2 => ?_)
    · refine ok_chk (by have := IC_n (SC_refl hI).1; have := gi_of_nlt c1; have := gi_of_le c2; have : (1 : Int32).toInt = 1 := rfl; have : (40 : Int32).toInt = 40 := rfl; have := fb_rng (eI h 6 3); (try have := fb_subI (x := (eI h 6 3)) (y := 1) (by omega) (by omega)); omega) ?_
      exact ok_some ⟨(SC_refl hI), trivial⟩
    · unfold f_X1_pop_20
      exact ok_some ⟨(SC_refl hI), trivial⟩
theorem u_X1_take (h : HS) (p1 : Int32) (hI : IC h) : ok (f_X1_take h p1) (fun a => SC h a ∧ True) := by
  unfold f_X1_take
  refine ok_if (fun c1 => ?_) (fun c1 => ?_)
  · refine ok_if (fun c2 => ?_) (fun c2 => ?_)
    · refine ok_ob2 (u_X1_pop h ((SC_refl hI)).1) (fun r3 h3 k3 => ?_)
      have s3 : SC h h3 := SC_trans (b := h) (SC_refl hI) k3.1
      refine ok_if (fun c4 => ?_) (fun c4 => ?_)
      · refine ok_ob1 (u_X1_push h3 (((1 - r3)).toInt64) (s3).1) (fun h5 k5 => ?_)
        have s5 : SC h h5 := SC_trans (b := h3) s3 k5.1
        unfold f_X1_take_128
        exact ok_some ⟨s5, trivial⟩
      · refine ok_if (fun c6 => ?_) (fun c6 => ?_)
        · refine ok_ob1 (u_X1_push h3 (((-r3)).toInt64) (s3).1) (fun h7 k7 => ?_)
          have s7 : SC h h7 := SC_trans (b := h3) s3 k7.1
          unfold f_X1_take_128
          exact ok_some ⟨s7, trivial⟩
        · refine ok_ob2 (u_X1_pop h3 (s3).1) (fun r8 h8 k8 => ?_)
          have s8 : SC h h8 := SC_trans (b := h3) s3 k8.1
          refine ok_ob1 (u_X1_joined (p1 - 20000) ((r8).toInt64) ((r3).toInt64)) (fun r9 k9 => ?_)
          refine ok_ob1 (u_X1_push h8 r9 (s8).1) (fun h10 k10 => ?_)
          have s10 : SC h h10 := SC_trans (b := h8) s8 k10.1
          unfold f_X1_take_128
          exact ok_some ⟨s10, trivial⟩
    · refine ok_if (fun c11 => ?_) (fun c11 => ?_)
      · unfold f_X1_take_47
        refine ok_ob1 (u_X1_push h 0 ((SC_refl hI)).1) (fun h12 k12 => ?_)
        have s12 : SC h h12 := SC_trans (b := h) (SC_refl hI) k12.1
        unfold f_X1_take_128
        exact ok_some ⟨s12, trivial⟩
      · refine ok_chk (by have := gi_of_le c1; have := gi_of_nle c2; have := gi_of_nle c11; have : (10000 : Int32).toInt = 10000 := rfl; have : (20000 : Int32).toInt = 20000 := rfl; have : (9 : Int32).toInt = 9 := rfl; have := fb_rng (p1); (try have := fb_subI (x := p1) (y := 10000) (by omega) (by omega)); omega) ?_
        unfold f_X1_take_47
        refine ok_ob1 (u_X1_push h ((((eA h 6 1) (((p1 - 10000)).toNatClampNeg))).toInt64) ((SC_refl hI)).1) (fun h14 k14 => ?_)
        have s14 : SC h h14 := SC_trans (b := h) (SC_refl hI) k14.1
        unfold f_X1_take_128
        exact ok_some ⟨s14, trivial⟩
  · refine ok_ob1 (u_X1_push h ((p1).toInt64) ((SC_refl hI)).1) (fun h15 k15 => ?_)
    have s15 : SC h h15 := SC_trans (b := h) (SC_refl hI) k15.1
    unfold f_X1_take_128
    exact ok_some ⟨s15, trivial⟩
theorem u_X1_without (h : HS) (p1 : Int32) (hI : IC h) : ok (f_X1_without h p1) (fun a => a.2 = h ∧ True) := by
  unfold f_X1_without
  refine ok_if (fun c1 => ?_) (fun c1 => ?_)
  · exact ok_some ⟨rfl, trivial⟩
  · refine ok_if (fun c2 => ?_) (fun c2 => ?_)
    · exact ok_some ⟨rfl, trivial⟩
    · exact ok_some ⟨rfl, trivial⟩
theorem u_X1_lookAt (h : HS) (p1 : Int32) (hI : IC h) : ok (f_X1_lookAt h p1) (fun a => SC h a ∧ True) := by
  unfold f_X1_lookAt
  refine ok_ob2 (u_X4_ofGoose (sA h 6 1 (upd (eA h 6 1) 0 p1)) p1 0 ((SC_refl hI)).1) (fun r1 h1 k1 => ?_)
  have e1 : (sA h 6 1 (upd (eA h 6 1) 0 p1)) = h1 := k1.1.symm
  subst e1
  refine ok_ob2 (u_X4_ofGoose (sA (sA h 6 1 (upd (eA h 6 1) 0 p1)) 6 1 (upd (eA (sA h 6 1 (upd (eA h 6 1) 0 p1)) 6 1) 1 r1)) p1 1 ((SC_refl hI)).1) (fun r2 h2 k2 => ?_)
  have e2 : (sA (sA h 6 1 (upd (eA h 6 1) 0 p1)) 6 1 (upd (eA (sA h 6 1 (upd (eA h 6 1) 0 p1)) 6 1) 1 r1)) = h2 := k2.1.symm
  subst e2
  refine ok_ob2 (u_X4_ofGoose (sA (sA (sA h 6 1 (upd (eA h 6 1) 0 p1)) 6 1 (upd (eA (sA h 6 1 (upd (eA h 6 1) 0 p1)) 6 1) 1 r1)) 6 1 (upd (eA (sA (sA h 6 1 (upd (eA h 6 1) 0 p1)) 6 1 (upd (eA (sA h 6 1 (upd (eA h 6 1) 0 p1)) 6 1) 1 r1)) 6 1) 2 r2)) p1 2 ((SC_refl hI)).1) (fun r3 h3 k3 => ?_)
  have e3 : (sA (sA (sA h 6 1 (upd (eA h 6 1) 0 p1)) 6 1 (upd (eA (sA h 6 1 (upd (eA h 6 1) 0 p1)) 6 1) 1 r1)) 6 1 (upd (eA (sA (sA h 6 1 (upd (eA h 6 1) 0 p1)) 6 1 (upd (eA (sA h 6 1 (upd (eA h 6 1) 0 p1)) 6 1) 1 r1)) 6 1) 2 r2)) = h3 := k3.1.symm
  subst e3
  refine ok_ob2 (u_X4_ofGoose (sA (sA (sA (sA h 6 1 (upd (eA h 6 1) 0 p1)) 6 1 (upd (eA (sA h 6 1 (upd (eA h 6 1) 0 p1)) 6 1) 1 r1)) 6 1 (upd (eA (sA (sA h 6 1 (upd (eA h 6 1) 0 p1)) 6 1 (upd (eA (sA h 6 1 (upd (eA h 6 1) 0 p1)) 6 1) 1 r1)) 6 1) 2 r2)) 6 1 (upd (eA (sA (sA (sA h 6 1 (upd (eA h 6 1) 0 p1)) 6 1 (upd (eA (sA h 6 1 (upd (eA h 6 1) 0 p1)) 6 1) 1 r1)) 6 1 (upd (eA (sA (sA h 6 1 (upd (eA h 6 1) 0 p1)) 6 1 (upd (eA (sA h 6 1 (upd (eA h 6 1) 0 p1)) 6 1) 1 r1)) 6 1) 2 r2)) 6 1) 3 r3)) p1 3 ((SC_refl hI)).1) (fun r4 h4 k4 => ?_)
  have e4 : (sA (sA (sA (sA h 6 1 (upd (eA h 6 1) 0 p1)) 6 1 (upd (eA (sA h 6 1 (upd (eA h 6 1) 0 p1)) 6 1) 1 r1)) 6 1 (upd (eA (sA (sA h 6 1 (upd (eA h 6 1) 0 p1)) 6 1 (upd (eA (sA h 6 1 (upd (eA h 6 1) 0 p1)) 6 1) 1 r1)) 6 1) 2 r2)) 6 1 (upd (eA (sA (sA (sA h 6 1 (upd (eA h 6 1) 0 p1)) 6 1 (upd (eA (sA h 6 1 (upd (eA h 6 1) 0 p1)) 6 1) 1 r1)) 6 1 (upd (eA (sA (sA h 6 1 (upd (eA h 6 1) 0 p1)) 6 1 (upd (eA (sA h 6 1 (upd (eA h 6 1) 0 p1)) 6 1) 1 r1)) 6 1) 2 r2)) 6 1) 3 r3)) = h4 := k4.1.symm
  subst e4
  exact ok_some ⟨(SC_refl hI), trivial⟩
theorem u_X1_lookAtFilled (h : HS) (p1 : Int32) (p2 : Int32) (p3 : Int32) (hI : IC h) : ok (f_X1_lookAtFilled h p1 p2 p3) (fun a => SC h a ∧ True) := by
  unfold f_X1_lookAtFilled
  refine ok_ob1 (u_X1_lookAt h p1 ((SC_refl hI)).1) (fun h1 k1 => ?_)
  have s1 : SC h h1 := SC_trans (b := h) (SC_refl hI) k1.1
  exact ok_some ⟨s1, trivial⟩
theorem u_X1_lookAtMarket (h : HS) (p1 : Int32) (p2 : Int32) (hI : IC h) : ok (f_X1_lookAtMarket h p1 p2) (fun a => SC h a ∧ True) := by
  unfold f_X1_lookAtMarket
  refine ok_ob2 (u_X4_ofMarket (sA (sA h 6 1 (upd (eA h 6 1) 5 p2)) 6 1 (upd (upd (eA h 6 1) 5 p2) 6 p1)) p1 1 ((SC_refl hI)).1) (fun r1 h1 k1 => ?_)
  have e1 : (sA (sA h 6 1 (upd (eA h 6 1) 5 p2)) 6 1 (upd (upd (eA h 6 1) 5 p2) 6 p1)) = h1 := k1.1.symm
  subst e1
  refine ok_ob2 (u_X4_ofMarket (sA (sA (sA h 6 1 (upd (eA h 6 1) 5 p2)) 6 1 (upd (upd (eA h 6 1) 5 p2) 6 p1)) 6 1 (upd (eA (sA (sA h 6 1 (upd (eA h 6 1) 5 p2)) 6 1 (upd (upd (eA h 6 1) 5 p2) 6 p1)) 6 1) 7 r1)) p1 2 ((SC_refl hI)).1) (fun r2 h2 k2 => ?_)
  have e2 : (sA (sA (sA h 6 1 (upd (eA h 6 1) 5 p2)) 6 1 (upd (upd (eA h 6 1) 5 p2) 6 p1)) 6 1 (upd (eA (sA (sA h 6 1 (upd (eA h 6 1) 5 p2)) 6 1 (upd (upd (eA h 6 1) 5 p2) 6 p1)) 6 1) 7 r1)) = h2 := k2.1.symm
  subst e2
  exact ok_some ⟨(SC_refl hI), trivial⟩
theorem u_X1_lookAtTraveller (h : HS) (p1 : Int32) (hI : IC h) : ok (f_X1_lookAtTraveller h p1) (fun a => SC h a ∧ True) := by
  unfold f_X1_lookAtTraveller
  refine ok_ob1 (u_X1_lookAt h p1 ((SC_refl hI)).1) (fun h1 k1 => ?_)
  have s1 : SC h h1 := SC_trans (b := h) (SC_refl hI) k1.1
  refine ok_ob2 (u_X4_ofGoose h1 p1 5 (s1).1) (fun r2 h2 k2 => ?_)
  have e2 : h1 = h2 := k2.1.symm
  subst e2
  refine ok_ob2 (u_X4_ofGoose h1 p1 6 (s1).1) (fun r3 h3 k3 => ?_)
  have e3 : h1 = h3 := k3.1.symm
  subst e3
  refine ok_ob1 (u_X1_lookAtMarket h1 r2 r3 (s1).1) (fun h4 k4 => ?_)
  have s4 : SC h h4 := SC_trans (b := h1) s1 k4.1
  exact ok_some ⟨s4, trivial⟩
