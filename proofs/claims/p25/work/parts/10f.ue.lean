theorem u_J0_length  : ok (f_J0_length ) (fun a => a = 121) := by
  unfold f_J0_length
  exact ok_some rfl
theorem u_J0_charAt (p1 : Int32) (q0 : 0 ≤ p1.toInt) (q1 : p1.toInt < 121) : ok (f_J0_charAt p1) (fun a => True) := ok_chk ⟨q0, q1⟩ (ok_some trivial)
theorem u_X7_wordKind_12 (h : HS) (x1 : Int32) (x2 : Int32) (hI : IC h) : ∀ (n : Nat) (x3 : Int32) (x4 : Int32) (x5 : Int32) (x6 : Int32), 0 ≤ x6.toInt → 0 < n → (121 - (x6).toInt : Int) < (n : Int) → ok (f_X7_wordKind_12  n h x1 x2 x3 x4 x5 x6) (fun a => a.2 = h ∧ True) := by
  intro n
  induction n with
  | zero =>
    intro x3 x4 x5 x6 i0 hn hm
    exact absurd hn (by decide)
  | succ n ih_X7_wordKind_12 =>
    intro x3 x4 x5 x6 i0 hn hm
    rw [f_X7_wordKind_12_s]
    refine ok_ob1 (u_J0_length ) (fun r1 k1 => ?_)
    subst k1
    refine ok_if (fun c2 => ?_) (fun c2 => ?_)
    · exact ok_some ⟨rfl, trivial⟩
    · refine ok_ob1 (u_J0_charAt x6 (by have := i0; have := hm; have := gi_of_nle c2; have : (121 : Int32).toInt = 121 := rfl; have := fb_rng (x6); omega) (by have := i0; have := hm; have := gi_of_nle c2; have : (121 : Int32).toInt = 121 := rfl; have := fb_rng (x6); omega)) (fun r3 k3 => ?_)
      refine ok_if (fun c4 => ?_) (fun c4 => ?_)
      · refine ok_if (fun c5 => ?_) (fun c5 => ?_)
        · unfold f_X7_wordKind_94
          unfold f_X7_wordKind_106
          exact ih_X7_wordKind_12 (x3 + 1) (x6 + 1) 1 (x6 + 1) (by have := i0; have := hm; have := gi_of_nle c2; have : (1 : Int32).toInt = 1 := rfl; have : (121 : Int32).toInt = 121 := rfl; have := fb_rng (x6); (try have := fb_addI (x := x6) (y := 1) (by omega) (by omega)); omega) (by have := i0; have := hm; have := gi_of_nle c2; have : (1 : Int32).toInt = 1 := rfl; have : (121 : Int32).toInt = 121 := rfl; have := fb_rng (x6); (try have := fb_addI (x := x6) (y := 1) (by omega) (by omega)); omega) (by have := i0; have := hm; have := gi_of_nle c2; have : (1 : Int32).toInt = 1 := rfl; have : (121 : Int32).toInt = 121 := rfl; have := fb_rng (x6); (try have := fb_addI (x := x6) (y := 1) (by omega) (by omega)); omega)
        · refine ok_if (fun c6 => ?_) (fun c6 => ?_)
          · exact ok_some ⟨rfl, trivial⟩
          · unfold f_X7_wordKind_94
            unfold f_X7_wordKind_106
            exact ih_X7_wordKind_12 (x3 + 1) (x6 + 1) 1 (x6 + 1) (by have := i0; have := hm; have := gi_of_nle c2; have := gi_of_ne c6; have : (1 : Int32).toInt = 1 := rfl; have : (121 : Int32).toInt = 121 := rfl; have := fb_rng (x6); have := fb_rng (x4); (try have := fb_subI (x := x6) (y := x4) (by omega) (by omega)); have := fb_rng (x2); (try have := fb_addI (x := x6) (y := 1) (by omega) (by omega)); omega) (by have := i0; have := hm; have := gi_of_nle c2; have := gi_of_ne c6; have : (1 : Int32).toInt = 1 := rfl; have : (121 : Int32).toInt = 121 := rfl; have := fb_rng (x6); have := fb_rng (x4); (try have := fb_subI (x := x6) (y := x4) (by omega) (by omega)); have := fb_rng (x2); (try have := fb_addI (x := x6) (y := 1) (by omega) (by omega)); omega) (by have := i0; have := hm; have := gi_of_nle c2; have := gi_of_ne c6; have : (1 : Int32).toInt = 1 := rfl; have : (121 : Int32).toInt = 121 := rfl; have := fb_rng (x6); have := fb_rng (x4); (try have := fb_subI (x := x6) (y := x4) (by omega) (by omega)); have := fb_rng (x2); (try have := fb_addI (x := x6) (y := 1) (by omega) (by omega)); omega)
      · refine ok_if (fun c7 => ?_) (fun c7 => ?_)
        · unfold f_X7_wordKind_72
          unfold f_X7_wordKind_73
          unfold f_X7_wordKind_106
          exact ih_X7_wordKind_12 x3 x4 0 (x6 + 1) (by have := i0; have := hm; have := gi_of_nle c2; have : (1 : Int32).toInt = 1 := rfl; have : (121 : Int32).toInt = 121 := rfl; have := fb_rng (x6); (try have := fb_addI (x := x6) (y := 1) (by omega) (by omega)); omega) (by have := i0; have := hm; have := gi_of_nle c2; have : (1 : Int32).toInt = 1 := rfl; have : (121 : Int32).toInt = 121 := rfl; have := fb_rng (x6); (try have := fb_addI (x := x6) (y := 1) (by omega) (by omega)); omega) (by have := i0; have := hm; have := gi_of_nle c2; have : (1 : Int32).toInt = 1 := rfl; have : (121 : Int32).toInt = 121 := rfl; have := fb_rng (x6); (try have := fb_addI (x := x6) (y := 1) (by omega) (by omega)); omega)
        · refine ok_if (fun c8 => ?_) (fun c8 => ?_)
          · unfold f_X7_wordKind_72
            unfold f_X7_wordKind_73
            unfold f_X7_wordKind_106
            exact ih_X7_wordKind_12 x3 x4 0 (x6 + 1) (by have := i0; have := hm; have := gi_of_nle c2; have := gi_of_le c8; have : (1 : Int32).toInt = 1 := rfl; have : (121 : Int32).toInt = 121 := rfl; have := fb_rng (x6); have := fb_rng (x2); have := fb_rng (x4); (try have := fb_subI (x := x6) (y := x4) (by omega) (by omega)); (try have := fb_addI (x := x6) (y := 1) (by omega) (by omega)); omega) (by have := i0; have := hm; have := gi_of_nle c2; have := gi_of_le c8; have : (1 : Int32).toInt = 1 := rfl; have : (121 : Int32).toInt = 121 := rfl; have := fb_rng (x6); have := fb_rng (x2); have := fb_rng (x4); (try have := fb_subI (x := x6) (y := x4) (by omega) (by omega)); (try have := fb_addI (x := x6) (y := 1) (by omega) (by omega)); omega) (by have := i0; have := hm; have := gi_of_nle c2; have := gi_of_le c8; have : (1 : Int32).toInt = 1 := rfl; have : (121 : Int32).toInt = 121 := rfl; have := fb_rng (x6); have := fb_rng (x2); have := fb_rng (x4); (try have := fb_subI (x := x6) (y := x4) (by omega) (by omega)); (try have := fb_addI (x := x6) (y := 1) (by omega) (by omega)); omega)
          · refine ok_ob2 (u_X5_byteAt h ((x1 + x6) - x4) ((SC_refl hI)).1) (fun r9 h9 k9 => ?_)
            have e9 : h = h9 := k9.1.symm
            subst e9
            refine ok_if (fun c10 => ?_) (fun c10 => ?_)
            · unfold f_X7_wordKind_73
              unfold f_X7_wordKind_106
              exact ih_X7_wordKind_12 x3 x4 1 (x6 + 1) (by have := i0; have := hm; have := gi_of_nle c2; have := gi_of_nle c8; have : (1 : Int32).toInt = 1 := rfl; have : (121 : Int32).toInt = 121 := rfl; have := fb_rng (x6); have := fb_rng (x2); have := fb_rng (x4); (try have := fb_subI (x := x6) (y := x4) (by omega) (by omega)); (try have := fb_addI (x := x6) (y := 1) (by omega) (by omega)); omega) (by have := i0; have := hm; have := gi_of_nle c2; have := gi_of_nle c8; have : (1 : Int32).toInt = 1 := rfl; have : (121 : Int32).toInt = 121 := rfl; have := fb_rng (x6); have := fb_rng (x2); have := fb_rng (x4); (try have := fb_subI (x := x6) (y := x4) (by omega) (by omega)); (try have := fb_addI (x := x6) (y := 1) (by omega) (by omega)); omega) (by have := i0; have := hm; have := gi_of_nle c2; have := gi_of_nle c8; have : (1 : Int32).toInt = 1 := rfl; have : (121 : Int32).toInt = 121 := rfl; have := fb_rng (x6); have := fb_rng (x2); have := fb_rng (x4); (try have := fb_subI (x := x6) (y := x4) (by omega) (by omega)); (try have := fb_addI (x := x6) (y := 1) (by omega) (by omega)); omega)
            · unfold f_X7_wordKind_72
              unfold f_X7_wordKind_73
              unfold f_X7_wordKind_106
              exact ih_X7_wordKind_12 x3 x4 0 (x6 + 1) (by have := i0; have := hm; have := gi_of_nle c2; have := gi_of_nle c8; have : (1 : Int32).toInt = 1 := rfl; have : (121 : Int32).toInt = 121 := rfl; have := fb_rng (x6); have := fb_rng (x2); have := fb_rng (x4); (try have := fb_subI (x := x6) (y := x4) (by omega) (by omega)); (try have := fb_addI (x := x6) (y := 1) (by omega) (by omega)); omega) (by have := i0; have := hm; have := gi_of_nle c2; have := gi_of_nle c8; have : (1 : Int32).toInt = 1 := rfl; have : (121 : Int32).toInt = 121 := rfl; have := fb_rng (x6); have := fb_rng (x2); have := fb_rng (x4); (try have := fb_subI (x := x6) (y := x4) (by omega) (by omega)); (try have := fb_addI (x := x6) (y := 1) (by omega) (by omega)); omega) (by have := i0; have := hm; have := gi_of_nle c2; have := gi_of_nle c8; have : (1 : Int32).toInt = 1 := rfl; have : (121 : Int32).toInt = 121 := rfl; have := fb_rng (x6); have := fb_rng (x2); have := fb_rng (x4); (try have := fb_subI (x := x6) (y := x4) (by omega) (by omega)); (try have := fb_addI (x := x6) (y := 1) (by omega) (by omega)); omega)
theorem u_X7_wordKind (h : HS) (p1 : Int32) (p2 : Int32) (hI : IC h) : ok (f_X7_wordKind h p1 p2) (fun a => a.2 = h ∧ True) := by
  unfold f_X7_wordKind
  exact u_X7_wordKind_12 h p1 p2 ((SC_refl hI)).1 8589934592 16 0 1 0 (by have : (0 : Int32).toInt = 0 := rfl; omega) (by decide) (by have : (0 : Int32).toInt = 0 := rfl; omega)
theorem u_X7_splitWord_2 {h0 : HS} (x2 : Int32) : ∀ (n : Nat) (h : HS) (x3 : Int32), SC h0 h → 0 < n → (300 - (x3).toInt : Int) < (n : Int) → ok (f_X7_splitWord_2  n h x2 x3) (fun a => SC h0 a.2 ∧ True) := by
  intro n
  induction n with
  | zero =>
    intro h x3 hSC hn hm
    exact absurd hn (by decide)
  | succ n ih_X7_splitWord_2 =>
    intro h x3 hSC hn hm
    rw [f_X7_splitWord_2_s]
    refine ok_if (fun c1 => ?_) (fun c1 => ?_)
    · unfold f_X7_splitWord_27
      refine ok_ob2 (u_X7_wordKind h x2 (x3 - x2) (hSC).1) (fun r2 h2 k2 => ?_)
      have e2 : h = h2 := k2.1.symm
      subst e2
      refine ok_ob1 (u_X7_add h r2 x2 0 (hSC).1) (fun h3 k3 => ?_)
      have s3 : SC h0 h3 := SC_trans (b := h) hSC k3.1
      exact ok_some ⟨s3, trivial⟩
    · refine ok_ob2 (u_X5_byteAt h x3 (hSC).1) (fun r4 h4 k4 => ?_)
      have e4 : h = h4 := k4.1.symm
      subst e4
      refine ok_ob1 (u_X7_isAlpha r4) (fun r5 k5 => ?_)
      refine ok_if (fun c6 => ?_) (fun c6 => ?_)
      · unfold f_X7_splitWord_27
        refine ok_ob2 (u_X7_wordKind h x2 (x3 - x2) (hSC).1) (fun r7 h7 k7 => ?_)
        have e7 : h = h7 := k7.1.symm
        subst e7
        refine ok_ob1 (u_X7_add h r7 x2 0 (hSC).1) (fun h8 k8 => ?_)
        have s8 : SC h0 h8 := SC_trans (b := h) hSC k8.1
        exact ok_some ⟨s8, trivial⟩
      · exact ih_X7_splitWord_2 h (x3 + 1) hSC (by have := IC_n hSC.1; have := hm; have := gi_of_nle c1; have : (1 : Int32).toInt = 1 := rfl; have := fb_rng (eI h 3 1); have := fb_rng (x3); (try have := fb_addI (x := x3) (y := 1) (by omega) (by omega)); omega) (by have := IC_n hSC.1; have := hm; have := gi_of_nle c1; have : (1 : Int32).toInt = 1 := rfl; have := fb_rng (eI h 3 1); have := fb_rng (x3); (try have := fb_addI (x := x3) (y := 1) (by omega) (by omega)); omega)
theorem u_X7_splitWord (h : HS) (p1 : Int32) (hI : IC h) : ok (f_X7_splitWord h p1) (fun a => SC h a.2 ∧ True) := by
  unfold f_X7_splitWord
  exact u_X7_splitWord_2 (h0 := h) p1 8589934592 h p1 (SC_refl hI) (by decide) (by have := fb_rng (p1); omega)
theorem u_X7_split_14 {h0 : HS} : ∀ (n : Nat) (h : HS) (x2 : Int32) (x3 : Int32), SC h0 h → 0 < n → (300 - (x3).toInt : Int) < (n : Int) → ok (f_X7_split_14  n h x2 x3) (fun a => SC h0 a ∧ True) := by
  intro n
  induction n with
  | zero =>
    intro h x2 x3 hSC hn hm
    exact absurd hn (by decide)
  | succ n ih_X7_split_14 =>
    intro h x2 x3 hSC hn hm
    rw [f_X7_split_14_s]
    refine ok_if (fun c1 => ?_) (fun c1 => ?_)
    · unfold f_X7_split_99
      refine ok_ob1 (u_X7_add h 0 (eI h 3 1) 0 (hSC).1) (fun h2 k2 => ?_)
      have s2 : SC h0 h2 := SC_trans (b := h) hSC k2.1
      exact ok_some ⟨s2, trivial⟩
    · refine ok_if (fun c3 => ?_) (fun c3 => ?_)
      · unfold f_X7_split_99
        refine ok_ob1 (u_X7_add h 0 (eI h 3 1) 0 (hSC).1) (fun h4 k4 => ?_)
        have s4 : SC h0 h4 := SC_trans (b := h) hSC k4.1
        exact ok_some ⟨s4, trivial⟩
      · refine ok_ob2 (u_X5_byteAt h x2 (hSC).1) (fun r5 h5 k5 => ?_)
        have e5 : h = h5 := k5.1.symm
        subst e5
        refine ok_ob1 (u_X7_isBlank r5) (fun r6 k6 => ?_)
        refine ok_if (fun c7 => ?_) (fun c7 => ?_)
        · refine ok_ob1 (u_X7_isAlpha r5) (fun r8 k8 => ?_)
          refine ok_if (fun c9 => ?_) (fun c9 => ?_)
          · refine ok_ob1 (u_X7_isNumeral r5) (fun r10 k10 => ?_)
            refine ok_if (fun c11 => ?_) (fun c11 => ?_)
            · refine ok_ob2 (u_X7_splitSign h x2 (hSC).1) (fun r12 h12 k12 => ?_)
              have s12 : SC h0 h12 := SC_trans (b := h) hSC k12.1
              unfold f_X7_split_93
              exact ih_X7_split_14 h12 r12 (x3 + 1) s12 (by have := hm; have := gi_of_nle c1; have : (1 : Int32).toInt = 1 := rfl; have : (300 : Int32).toInt = 300 := rfl; have := fb_rng (x3); (try have := fb_addI (x := x3) (y := 1) (by omega) (by omega)); omega) (by have := hm; have := gi_of_nle c1; have : (1 : Int32).toInt = 1 := rfl; have : (300 : Int32).toInt = 300 := rfl; have := fb_rng (x3); (try have := fb_addI (x := x3) (y := 1) (by omega) (by omega)); omega)
            · refine ok_ob2 (u_X7_splitNumber h x2 (hSC).1) (fun r13 h13 k13 => ?_)
              have s13 : SC h0 h13 := SC_trans (b := h) hSC k13.1
              unfold f_X7_split_93
              exact ih_X7_split_14 h13 r13 (x3 + 1) s13 (by have := hm; have := gi_of_nle c1; have : (1 : Int32).toInt = 1 := rfl; have : (300 : Int32).toInt = 300 := rfl; have := fb_rng (x3); (try have := fb_addI (x := x3) (y := 1) (by omega) (by omega)); omega) (by have := hm; have := gi_of_nle c1; have : (1 : Int32).toInt = 1 := rfl; have : (300 : Int32).toInt = 300 := rfl; have := fb_rng (x3); (try have := fb_addI (x := x3) (y := 1) (by omega) (by omega)); omega)
          · refine ok_ob2 (u_X7_splitWord h x2 (hSC).1) (fun r14 h14 k14 => ?_)
            have s14 : SC h0 h14 := SC_trans (b := h) hSC k14.1
            unfold f_X7_split_93
            exact ih_X7_split_14 h14 r14 (x3 + 1) s14 (by have := hm; have := gi_of_nle c1; have : (1 : Int32).toInt = 1 := rfl; have : (300 : Int32).toInt = 300 := rfl; have := fb_rng (x3); (try have := fb_addI (x := x3) (y := 1) (by omega) (by omega)); omega) (by have := hm; have := gi_of_nle c1; have : (1 : Int32).toInt = 1 := rfl; have : (300 : Int32).toInt = 300 := rfl; have := fb_rng (x3); (try have := fb_addI (x := x3) (y := 1) (by omega) (by omega)); omega)
        · unfold f_X7_split_93
          exact ih_X7_split_14 h (x2 + 1) (x3 + 1) hSC (by have := hm; have := gi_of_nle c1; have : (1 : Int32).toInt = 1 := rfl; have : (300 : Int32).toInt = 300 := rfl; have := fb_rng (x3); (try have := fb_addI (x := x3) (y := 1) (by omega) (by omega)); omega) (by have := hm; have := gi_of_nle c1; have : (1 : Int32).toInt = 1 := rfl; have : (300 : Int32).toInt = 300 := rfl; have := fb_rng (x3); (try have := fb_addI (x := x3) (y := 1) (by omega) (by omega)); omega)
theorem u_X7_split (h : HS) (hI : IC h) : ok (f_X7_split h) (fun a => SC h a ∧ True) := by
  unfold f_X7_split
  exact u_X7_split_14 (h0 := h) 8589934592 (sI (sI h 4 4 0) 4 3 0) 0 0 (st_4_3 (c := (sI h 4 4 0)) (x := 0) (st_4_4 (c := h) (x := 0) (SC_refl hI) (by have : (0 : Int32).toInt = 0 := rfl; omega)) (by have : (0 : Int32).toInt = 0 := rfl; omega) (by have : (0 : Int32).toInt = 0 := rfl; omega)) (by decide) (by have : (0 : Int32).toInt = 0 := rfl; omega)
theorem u_X1_rule_46 {h0 : HS} (x2 : Int32) (x4 : Int32) : ∀ (n : Nat) (h : HS) (x5 : Int32), SC h0 h → 0 < n → (x4.toInt - x5.toInt : Int) < (n : Int) → ok (f_X1_rule_46  n h x2 x4 x5) (fun a => SC h0 a.2 ∧ True) := by
  intro n
  induction n with
  | zero =>
    intro h x5 hSC hn hm
    exact absurd hn (by decide)
  | succ n ih_X1_rule_46 =>
    intro h x5 hSC hn hm
    rw [f_X1_rule_46_s]
    refine ok_if (fun c1 => ?_) (fun c1 => ?_)
    · refine ok_if (fun c2 => ?_) (fun c2 => ?_)
      · unfold f_X1_rule_82
        refine ok_ob2 (u_X1_pop h (hSC).1) (fun r3 h3 k3 => ?_)
        have s3 : SC h0 h3 := SC_trans (b := h) hSC k3.1
        exact ok_some ⟨s3, trivial⟩
      · unfold f_X1_rule_82
        refine ok_ob2 (u_X1_pop h (hSC).1) (fun r4 h4 k4 => ?_)
        have s4 : SC h0 h4 := SC_trans (b := h) hSC k4.1
        exact ok_some ⟨s4, trivial⟩
    · refine ok_ob2 (u_X6_stepAt_0 h x5 (hSC).1) (fun r5 h5 k5 => ?_)
      have e5 : h = h5 := k5.1.symm
      subst e5
      refine ok_ob1 (u_X1_take h r5 (hSC).1) (fun h6 k6 => ?_)
      have s6 : SC h0 h6 := SC_trans (b := h) hSC k6.1
      exact ih_X1_rule_46 h6 (x5 + 1) s6 (by have := hm; have := gi_of_nle c1; have : (1 : Int32).toInt = 1 := rfl; have := fb_rng (x4); have := fb_rng (x5); (try have := fb_addI (x := x5) (y := 1) (by omega) (by omega)); omega) (by have := hm; have := gi_of_nle c1; have : (1 : Int32).toInt = 1 := rfl; have := fb_rng (x4); have := fb_rng (x5); (try have := fb_addI (x := x5) (y := 1) (by omega) (by omega)); omega)
theorem u_X1_rule_46b {h0 : HS} (x2 : Int32) (x4 : Int32) : ∀ (n : Nat) (h : HS) (x5 : Int32), SC h0 h → 0 < n → (x4.toInt - x5.toInt : Int) < (n : Int) → ok (f_X1_rule_46b  n h x2 x4 x5) (fun a => SC h0 a.2 ∧ True) := by
  intro n
  induction n with
  | zero =>
    intro h x5 hSC hn hm
    exact absurd hn (by decide)
  | succ n ih_X1_rule_46b =>
    intro h x5 hSC hn hm
    rw [f_X1_rule_46b_s]
    refine ok_if (fun c1 => ?_) (fun c1 => ?_)
    · refine ok_if (fun c2 => ?_) (fun c2 => ?_)
      · unfold f_X1_rule_82
        refine ok_ob2 (u_X1_pop h (hSC).1) (fun r3 h3 k3 => ?_)
        have s3 : SC h0 h3 := SC_trans (b := h) hSC k3.1
        exact ok_some ⟨s3, trivial⟩
      · unfold f_X1_rule_82
        refine ok_ob2 (u_X1_pop h (hSC).1) (fun r4 h4 k4 => ?_)
        have s4 : SC h0 h4 := SC_trans (b := h) hSC k4.1
        exact ok_some ⟨s4, trivial⟩
    · refine ok_ob2 (u_X6_stepAt_1 h x5 (hSC).1) (fun r5 h5 k5 => ?_)
      have e5 : h = h5 := k5.1.symm
      subst e5
      refine ok_ob1 (u_X1_take h r5 (hSC).1) (fun h6 k6 => ?_)
      have s6 : SC h0 h6 := SC_trans (b := h) hSC k6.1
      exact ih_X1_rule_46b h6 (x5 + 1) s6 (by have := hm; have := gi_of_nle c1; have : (1 : Int32).toInt = 1 := rfl; have := fb_rng (x4); have := fb_rng (x5); (try have := fb_addI (x := x5) (y := 1) (by omega) (by omega)); omega) (by have := hm; have := gi_of_nle c1; have : (1 : Int32).toInt = 1 := rfl; have := fb_rng (x4); have := fb_rng (x5); (try have := fb_addI (x := x5) (y := 1) (by omega) (by omega)); omega)
theorem u_X1_rule_46c {h0 : HS} (x2 : Int32) (x4 : Int32) : ∀ (n : Nat) (h : HS) (x5 : Int32), SC h0 h → 0 < n → (x4.toInt - x5.toInt : Int) < (n : Int) → ok (f_X1_rule_46c  n h x2 x4 x5) (fun a => SC h0 a.2 ∧ True) := by
  intro n
  induction n with
  | zero =>
    intro h x5 hSC hn hm
    exact absurd hn (by decide)
  | succ n ih_X1_rule_46c =>
    intro h x5 hSC hn hm
    rw [f_X1_rule_46c_s]
    refine ok_if (fun c1 => ?_) (fun c1 => ?_)
    · refine ok_if (fun c2 => ?_) (fun c2 => ?_)
      · unfold f_X1_rule_82
        refine ok_ob2 (u_X1_pop h (hSC).1) (fun r3 h3 k3 => ?_)
        have s3 : SC h0 h3 := SC_trans (b := h) hSC k3.1
        exact ok_some ⟨s3, trivial⟩
      · unfold f_X1_rule_82
        refine ok_ob2 (u_X1_pop h (hSC).1) (fun r4 h4 k4 => ?_)
        have s4 : SC h0 h4 := SC_trans (b := h) hSC k4.1
        exact ok_some ⟨s4, trivial⟩
    · refine ok_ob2 (u_X6_stepAt_2 h x5 (hSC).1) (fun r5 h5 k5 => ?_)
      have e5 : h = h5 := k5.1.symm
      subst e5
      refine ok_ob1 (u_X1_take h r5 (hSC).1) (fun h6 k6 => ?_)
      have s6 : SC h0 h6 := SC_trans (b := h) hSC k6.1
      exact ih_X1_rule_46c h6 (x5 + 1) s6 (by have := hm; have := gi_of_nle c1; have : (1 : Int32).toInt = 1 := rfl; have := fb_rng (x4); have := fb_rng (x5); (try have := fb_addI (x := x5) (y := 1) (by omega) (by omega)); omega) (by have := hm; have := gi_of_nle c1; have : (1 : Int32).toInt = 1 := rfl; have := fb_rng (x4); have := fb_rng (x5); (try have := fb_addI (x := x5) (y := 1) (by omega) (by omega)); omega)
theorem u_X1_rule_46d {h0 : HS} (x2 : Int32) (x4 : Int32) : ∀ (n : Nat) (h : HS) (x5 : Int32), SC h0 h → 0 < n → (x4.toInt - x5.toInt : Int) < (n : Int) → ok (f_X1_rule_46d  n h x2 x4 x5) (fun a => SC h0 a.2 ∧ True) := by
  intro n
  induction n with
  | zero =>
    intro h x5 hSC hn hm
    exact absurd hn (by decide)
  | succ n ih_X1_rule_46d =>
    intro h x5 hSC hn hm
    rw [f_X1_rule_46d_s]
    refine ok_if (fun c1 => ?_) (fun c1 => ?_)
    · refine ok_if (fun c2 => ?_) (fun c2 => ?_)
      · unfold f_X1_rule_82
        refine ok_ob2 (u_X1_pop h (hSC).1) (fun r3 h3 k3 => ?_)
        have s3 : SC h0 h3 := SC_trans (b := h) hSC k3.1
        exact ok_some ⟨s3, trivial⟩
      · unfold f_X1_rule_82
        refine ok_ob2 (u_X1_pop h (hSC).1) (fun r4 h4 k4 => ?_)
        have s4 : SC h0 h4 := SC_trans (b := h) hSC k4.1
        exact ok_some ⟨s4, trivial⟩
    · refine ok_ob2 (u_X6_stepAt_3 h x5 (hSC).1) (fun r5 h5 k5 => ?_)
      have e5 : h = h5 := k5.1.symm
      subst e5
      refine ok_ob1 (u_X1_take h r5 (hSC).1) (fun h6 k6 => ?_)
      have s6 : SC h0 h6 := SC_trans (b := h) hSC k6.1
      exact ih_X1_rule_46d h6 (x5 + 1) s6 (by have := hm; have := gi_of_nle c1; have : (1 : Int32).toInt = 1 := rfl; have := fb_rng (x4); have := fb_rng (x5); (try have := fb_addI (x := x5) (y := 1) (by omega) (by omega)); omega) (by have := hm; have := gi_of_nle c1; have : (1 : Int32).toInt = 1 := rfl; have := fb_rng (x4); have := fb_rng (x5); (try have := fb_addI (x := x5) (y := 1) (by omega) (by omega)); omega)
theorem u_X1_rule (h : HS) (p1 : Int32) (hI : IC h) : ok (f_X1_rule h p1) (fun a => SC h a.2 ∧ True) := by
  unfold f_X1_rule
  refine ok_if (fun c1 => ?_) (fun c1 => ?_)
  · refine ok_ob2 (u_X6_hasLaw_0 h p1 ((SC_refl hI)).1) (fun r2 h2 k2 => ?_)
    have e2 : h = h2 := k2.1.symm
    subst e2
    refine ok_if (fun c3 => ?_) (fun c3 => ?_)
    · unfold f_X1_rule_21
      refine ok_ob2 (u_X1_without h p1 ((SC_refl hI)).1) (fun r4 h4 k4 => ?_)
      have e4 : h = h4 := k4.1.symm
      subst e4
      exact ok_some ⟨(SC_refl hI), trivial⟩
    · refine ok_ob2 (u_X6_stepsEnd_0 (sI h 6 3 0) p1 ((SC_refl hI)).1) (fun r5 h5 k5 => ?_)
      have e5 : (sI h 6 3 0) = h5 := k5.1.symm
      subst e5
      refine ok_ob2 (u_X6_firstStep_0 (sI h 6 3 0) p1 ((SC_refl hI)).1) (fun r6 h6 k6 => ?_)
      have e6 : (sI h 6 3 0) = h6 := k6.1.symm
      subst e6
      exact u_X1_rule_46 (h0 := h) p1 r5 8589934592 (sI h 6 3 0) r6 (SC_refl hI) (by decide) (by have := fb_rng (r5); have := fb_rng (r6); omega)
  · refine ok_if (fun c7 => ?_) (fun c7 => ?_)
    · refine ok_ob2 (u_X6_hasLaw_1 h p1 ((SC_refl hI)).1) (fun r8 h8 k8 => ?_)
      have e8 : h = h8 := k8.1.symm
      subst e8
      refine ok_if (fun c9 => ?_) (fun c9 => ?_)
      · unfold f_X1_rule_21
        refine ok_ob2 (u_X1_without h p1 ((SC_refl hI)).1) (fun r10 h10 k10 => ?_)
        have e10 : h = h10 := k10.1.symm
        subst e10
        exact ok_some ⟨(SC_refl hI), trivial⟩
      · refine ok_ob2 (u_X6_stepsEnd_1 (sI h 6 3 0) p1 ((SC_refl hI)).1) (fun r11 h11 k11 => ?_)
        have e11 : (sI h 6 3 0) = h11 := k11.1.symm
        subst e11
        refine ok_ob2 (u_X6_firstStep_1 (sI h 6 3 0) p1 ((SC_refl hI)).1) (fun r12 h12 k12 => ?_)
        have e12 : (sI h 6 3 0) = h12 := k12.1.symm
        subst e12
        exact u_X1_rule_46b (h0 := h) p1 r11 8589934592 (sI h 6 3 0) r12 (SC_refl hI) (by decide) (by have := fb_rng (r11); have := fb_rng (r12); omega)
    · refine ok_if (fun c13 => ?_) (fun c13 => ?_)
      · refine ok_ob2 (u_X6_hasLaw_2 h p1 ((SC_refl hI)).1) (fun r14 h14 k14 => ?_)
        have e14 : h = h14 := k14.1.symm
        subst e14
        refine ok_if (fun c15 => ?_) (fun c15 => ?_)
        · unfold f_X1_rule_21
          refine ok_ob2 (u_X1_without h p1 ((SC_refl hI)).1) (fun r16 h16 k16 => ?_)
          have e16 : h = h16 := k16.1.symm
          subst e16
          exact ok_some ⟨(SC_refl hI), trivial⟩
        · refine ok_ob2 (u_X6_stepsEnd_2 (sI h 6 3 0) p1 ((SC_refl hI)).1) (fun r17 h17 k17 => ?_)
          have e17 : (sI h 6 3 0) = h17 := k17.1.symm
          subst e17
          refine ok_ob2 (u_X6_firstStep_2 (sI h 6 3 0) p1 ((SC_refl hI)).1) (fun r18 h18 k18 => ?_)
          have e18 : (sI h 6 3 0) = h18 := k18.1.symm
          subst e18
          exact u_X1_rule_46c (h0 := h) p1 r17 8589934592 (sI h 6 3 0) r18 (SC_refl hI) (by decide) (by have := fb_rng (r17); have := fb_rng (r18); omega)
      · refine ok_if (fun c19 => ?_) (fun c19 => ?_)
        · refine ok_ob2 (u_X6_hasLaw_3 h p1 ((SC_refl hI)).1) (fun r20 h20 k20 => ?_)
          have e20 : h = h20 := k20.1.symm
          subst e20
          refine ok_if (fun c21 => ?_) (fun c21 => ?_)
          · unfold f_X1_rule_21
            refine ok_ob2 (u_X1_without h p1 ((SC_refl hI)).1) (fun r22 h22 k22 => ?_)
            have e22 : h = h22 := k22.1.symm
            subst e22
            exact ok_some ⟨(SC_refl hI), trivial⟩
          · refine ok_ob2 (u_X6_stepsEnd_3 (sI h 6 3 0) p1 ((SC_refl hI)).1) (fun r23 h23 k23 => ?_)
            have e23 : (sI h 6 3 0) = h23 := k23.1.symm
            subst e23
            refine ok_ob2 (u_X6_firstStep_3 (sI h 6 3 0) p1 ((SC_refl hI)).1) (fun r24 h24 k24 => ?_)
            have e24 : (sI h 6 3 0) = h24 := k24.1.symm
            subst e24
            exact u_X1_rule_46d (h0 := h) p1 r23 8589934592 (sI h 6 3 0) r24 (SC_refl hI) (by decide) (by have := fb_rng (r23); have := fb_rng (r24); omega)
        · unfold f_X1_rule_21
          refine ok_ob2 (u_X1_without h p1 ((SC_refl hI)).1) (fun r25 h25 k25 => ?_)
          have e25 : h = h25 := k25.1.symm
          subst e25
          exact ok_some ⟨(SC_refl hI), trivial⟩
theorem u_X1_inkCost (h : HS) (p1 : Int32) (p2 : Int32) (p3 : Int32) (hI : IC h) : ok (f_X1_inkCost h p1 p2 p3) (fun a => SC h a.2 ∧ True) := by
  unfold f_X1_inkCost
  refine ok_ob1 (u_X1_lookAtFilled h p1 p2 p3 ((SC_refl hI)).1) (fun h1 k1 => ?_)
  have s1 : SC h h1 := SC_trans (b := h) (SC_refl hI) k1.1
  refine ok_ob2 (u_X1_rule h1 2 (s1).1) (fun r2 h2 k2 => ?_)
  have s2 : SC h h2 := SC_trans (b := h1) s1 k2.1
  exact ok_some ⟨s2, trivial⟩
theorem u_X1_isTrue (h : HS) (p1 : Int32) (hI : IC h) : ok (f_X1_isTrue h p1) (fun a => SC h a.2 ∧ (a.1 = 0 ∨ a.1 = 1)) := by
  unfold f_X1_isTrue
  refine ok_ob1 (u_X1_lookAt h p1 ((SC_refl hI)).1) (fun h1 k1 => ?_)
  have s1 : SC h h1 := SC_trans (b := h) (SC_refl hI) k1.1
  refine ok_ob2 (u_X1_rule h1 3 (s1).1) (fun r2 h2 k2 => ?_)
  have s2 : SC h h2 := SC_trans (b := h1) s1 k2.1
  refine ok_if (fun c3 => ?_) (fun c3 => ?_)
  · unfold f_X1_isTrue_20
    refine ok_chk (Or.inl rfl) ?_
    exact ok_some ⟨s2, (Or.inl rfl)⟩
  · unfold f_X1_isTrue_20
    refine ok_chk (Or.inr rfl) ?_
    exact ok_some ⟨s2, (Or.inr rfl)⟩
theorem u_X1_isTrueWith (h : HS) (p1 : Int32) (p2 : Int32) (hI : IC h) : ok (f_X1_isTrueWith h p1 p2) (fun a => SC h a.2 ∧ (a.1 = 0 ∨ a.1 = 1)) := by
  unfold f_X1_isTrueWith
  refine ok_ob1 (u_X1_lookAt h p1 ((SC_refl hI)).1) (fun h1 k1 => ?_)
  have s1 : SC h h1 := SC_trans (b := h) (SC_refl hI) k1.1
  refine ok_ob2 (u_X1_rule (sA h1 6 1 (upd (eA h1 6 1) 2 p2)) 3 (s1).1) (fun r2 h2 k2 => ?_)
  have s2 : SC h h2 := SC_trans (b := (sA h1 6 1 (upd (eA h1 6 1) 2 p2))) s1 k2.1
  refine ok_if (fun c3 => ?_) (fun c3 => ?_)
  · unfold f_X1_isTrueWith_27
    refine ok_chk (Or.inl rfl) ?_
    exact ok_some ⟨s2, (Or.inl rfl)⟩
  · unfold f_X1_isTrueWith_27
    refine ok_chk (Or.inr rfl) ?_
    exact ok_some ⟨s2, (Or.inr rfl)⟩
theorem u_X0_add_129 {h0 : HS} (x4 : Int32) (x5 : Int32) (x7 : Int32) (x8 : Int32) : ∀ (n : Nat) (h : HS) (x9 : Int32), SC h0 h → 0 ≤ x9.toInt → (0 ≤ x4.toInt ∧ x4.toInt ≤ 3) → (0 ≤ x5.toInt ∧ x5.toInt ≤ 3) → 0 < n → (16 - (x9).toInt : Int) < (n : Int) → ok (f_X0_add_129  n h x4 x5 x7 x8 x9) (fun a => SC h0 a ∧ True) := by
  intro n
  induction n with
  | zero =>
    intro h x9 hSC i0 i1 i2 hn hm
    exact absurd hn (by decide)
  | succ n ih_X0_add_129 =>
    intro h x9 hSC i0 i1 i2 hn hm
    rw [f_X0_add_129_s]
    refine ok_if (fun c1 => ?_) (fun c1 => ?_)
    · exact ok_some ⟨hSC, trivial⟩
    · refine ok_chk (by have := i0; have := i1; have := i2; have := hm; have := gi_of_nle c1; have : (16 : Int32).toInt = 16 := rfl; have : (4 : Int32).toInt = 4 := rfl; have := fb_rng (x9); have := fb_rng (x5); (try have := fb_mulK (x := x5) (y := 4) (k := 4) rfl (by omega) (by omega)); (try have := fb_or4 (x := x9) (y := (x5 * 4)) (by omega) (by omega) (by omega) (by omega)); omega) ?_
      refine ok_chk (by have := i0; have := i1; have := i2; have := hm; have := gi_of_nle c1; have : (16 : Int32).toInt = 16 := rfl; have := fb_rng (x9); omega) ?_
      refine ok_chk (by have := i0; have := i1; have := i2; have := hm; have := gi_of_nle c1; have : (16 : Int32).toInt = 16 := rfl; have : (4 : Int32).toInt = 4 := rfl; have := fb_rng (x9); have := fb_rng (x5); (try have := fb_mulK (x := x5) (y := 4) (k := 4) rfl (by omega) (by omega)); (try have := fb_or4 (x := x9) (y := (x5 * 4)) (by omega) (by omega) (by omega) (by omega)); omega) ?_
      refine ok_chk (by have := i0; have := i1; have := i2; have := hm; have := gi_of_nle c1; have : (16 : Int32).toInt = 16 := rfl; have := fb_rng (x9); have := fb_rng (x4); (try have := fb_or4 (x := x9) (y := x4) (by omega) (by omega) (by omega) (by omega)); omega) ?_
      refine ok_chk (by have := i0; have := i1; have := i2; have := hm; have := gi_of_nle c1; have : (16 : Int32).toInt = 16 := rfl; have := fb_rng (x9); omega) ?_
      refine ok_chk (by have := i0; have := i1; have := i2; have := hm; have := gi_of_nle c1; have : (16 : Int32).toInt = 16 := rfl; have := fb_rng (x9); have := fb_rng (x4); (try have := fb_or4 (x := x9) (y := x4) (by omega) (by omega) (by omega) (by omega)); omega) ?_
      exact ih_X0_add_129 (sJ (sJ h 7 3 (vp_updL (eJ h 7 3) (((x9 ||| (x5 * 4))).toNatClampNeg) (((eJ h 7 3) (((x9 ||| (x5 * 4))).toNatClampNeg)) + (((eJ h 7 2) ((x9).toNatClampNeg)) * ((x8).toInt64))))) 7 3 (vp_updL (vp_updL (eJ h 7 3) (((x9 ||| (x5 * 4))).toNatClampNeg) (((eJ h 7 3) (((x9 ||| (x5 * 4))).toNatClampNeg)) + (((eJ h 7 2) ((x9).toNatClampNeg)) * ((x8).toInt64)))) (((x9 ||| x4)).toNatClampNeg) (((vp_updL (eJ h 7 3) (((x9 ||| (x5 * 4))).toNatClampNeg) (((eJ h 7 3) (((x9 ||| (x5 * 4))).toNatClampNeg)) + (((eJ h 7 2) ((x9).toNatClampNeg)) * ((x8).toInt64)))) (((x9 ||| x4)).toNatClampNeg)) + (((eJ h 7 2) ((x9).toNatClampNeg)) * ((x7).toInt64))))) (x9 + 1) hSC (by have := i0; have := i1; have := i2; have := hm; have := gi_of_nle c1; have : (1 : Int32).toInt = 1 := rfl; have : (16 : Int32).toInt = 16 := rfl; have := fb_rng (x9); (try have := fb_addI (x := x9) (y := 1) (by omega) (by omega)); omega) (by have := i0; have := i1; have := i2; have := hm; have := fb_rng (x4); omega) (by have := i0; have := i1; have := i2; have := hm; have := fb_rng (x5); omega) (by have := i0; have := i1; have := i2; have := hm; have := gi_of_nle c1; have : (1 : Int32).toInt = 1 := rfl; have : (16 : Int32).toInt = 16 := rfl; have := fb_rng (x9); (try have := fb_addI (x := x9) (y := 1) (by omega) (by omega)); omega) (by have := i0; have := i1; have := i2; have := hm; have := gi_of_nle c1; have : (1 : Int32).toInt = 1 := rfl; have : (16 : Int32).toInt = 16 := rfl; have := fb_rng (x9); (try have := fb_addI (x := x9) (y := 1) (by omega) (by omega)); omega)
theorem u_X0_add_86 {h0 : HS} (x4 : Int32) (x5 : Int32) (x7 : Int32) (x8 : Int32) : ∀ (n : Nat) (h : HS) (x9 : Int32), SC h0 h → 0 ≤ x9.toInt → (0 ≤ x4.toInt ∧ x4.toInt ≤ 3) → (0 ≤ x5.toInt ∧ x5.toInt ≤ 3) → 0 < n → (16 - (x9).toInt : Int) < (n : Int) → ok (f_X0_add_86  n h x4 x5 x7 x8 x9) (fun a => SC h0 a ∧ True) := by
  intro n
  induction n with
  | zero =>
    intro h x9 hSC i0 i1 i2 hn hm
    exact absurd hn (by decide)
  | succ n ih_X0_add_86 =>
    intro h x9 hSC i0 i1 i2 hn hm
    rw [f_X0_add_86_s]
    refine ok_if (fun c1 => ?_) (fun c1 => ?_)
    · exact u_X0_add_129 (h0 := h0) x4 x5 x7 x8 8589934592 h 0 hSC (by have := i0; have := i1; have := i2; have := hm; have : (0 : Int32).toInt = 0 := rfl; omega) (by have := i0; have := i1; have := i2; have := hm; have := fb_rng (x4); omega) (by have := i0; have := i1; have := i2; have := hm; have := fb_rng (x5); omega) (by decide) (by have := i0; have := i1; have := i2; have := hm; have : (0 : Int32).toInt = 0 := rfl; omega)
    · refine ok_chk (by have := i0; have := i1; have := i2; have := hm; have := gi_of_nle c1; have : (16 : Int32).toInt = 16 := rfl; have := fb_rng (x9); omega) ?_
      refine ok_chk (by have := i0; have := i1; have := i2; have := hm; have := gi_of_nle c1; have : (16 : Int32).toInt = 16 := rfl; have := fb_rng (x9); omega) ?_
      exact ih_X0_add_86 (sJ h 7 3 (vp_updL (eJ h 7 3) ((x9).toNatClampNeg) (((eJ h 7 2) ((x9).toNatClampNeg)) * ((((100 - x8) - x7)).toInt64)))) (x9 + 1) hSC (by have := i0; have := i1; have := i2; have := hm; have := gi_of_nle c1; have : (1 : Int32).toInt = 1 := rfl; have : (16 : Int32).toInt = 16 := rfl; have := fb_rng (x9); (try have := fb_addI (x := x9) (y := 1) (by omega) (by omega)); omega) (by have := i0; have := i1; have := i2; have := hm; have := fb_rng (x4); omega) (by have := i0; have := i1; have := i2; have := hm; have := fb_rng (x5); omega) (by have := i0; have := i1; have := i2; have := hm; have := gi_of_nle c1; have : (1 : Int32).toInt = 1 := rfl; have : (16 : Int32).toInt = 16 := rfl; have := fb_rng (x9); (try have := fb_addI (x := x9) (y := 1) (by omega) (by omega)); omega) (by have := i0; have := i1; have := i2; have := hm; have := gi_of_nle c1; have : (1 : Int32).toInt = 1 := rfl; have : (16 : Int32).toInt = 16 := rfl; have := fb_rng (x9); (try have := fb_addI (x := x9) (y := 1) (by omega) (by omega)); omega)
theorem u_X0_add (h : HS) (p1 : Int32) (hI : IC h) : ok (f_X0_add h p1) (fun a => SC h a ∧ True) := by
  unfold f_X0_add
  refine ok_if (fun c1 => ?_) (fun c1 => ?_)
  · refine ok_ob2 (u_X4_ofGoose (sI h 7 0 ((eI h 7 0) + 1)) p1 3 ((SC_refl hI)).1) (fun r2 h2 k2 => ?_)
    have e2 : (sI h 7 0 ((eI h 7 0) + 1)) = h2 := k2.1.symm
    subst e2
    refine ok_ob1 (u_X8_halvesOf r2) (fun r3 k3 => ?_)
    refine ok_ob2 (u_X1_isTrue (sI h 7 0 ((eI h 7 0) + 1)) p1 ((SC_refl hI)).1) (fun r4 h4 k4 => ?_)
    have s4 : SC h h4 := SC_trans (b := (sI h 7 0 ((eI h 7 0) + 1))) (SC_refl hI) k4.1
    refine ok_if (fun c5 => ?_) (fun c5 => ?_)
    · unfold f_X0_add_46
      refine ok_ob1 (u_X1_lookAtTraveller h4 p1 (s4).1) (fun h6 k6 => ?_)
      have s6 : SC h h6 := SC_trans (b := h4) s4 k6.1
      refine ok_ob2 (u_X1_rule h6 0 (s6).1) (fun r7 h7 k7 => ?_)
      have s7 : SC h h7 := SC_trans (b := h6) s6 k7.1
      refine ok_ob2 (u_X1_rule h7 1 (s7).1) (fun r8 h8 k8 => ?_)
      have s8 : SC h h8 := SC_trans (b := h7) s7 k8.1
      exact u_X0_add_86 (h0 := h) r3 0 (r7 * r8) ((10 - r7) * 10) 8589934592 h8 0 s8 (by have : (0 ≤ (r3).toInt ∧ (r3).toInt ≤ 3) := k3; have : (0 : Int32).toInt = 0 := rfl; omega) (by have : (0 ≤ (r3).toInt ∧ (r3).toInt ≤ 3) := k3; have := fb_rng (r3); omega) (by have : (0 ≤ (r3).toInt ∧ (r3).toInt ≤ 3) := k3; have : (0 : Int32).toInt = 0 := rfl; omega) (by decide) (by have : (0 ≤ (r3).toInt ∧ (r3).toInt ≤ 3) := k3; have : (0 : Int32).toInt = 0 := rfl; omega)
    · unfold f_X0_add_46
      refine ok_ob1 (u_X1_lookAtTraveller h4 p1 (s4).1) (fun h9 k9 => ?_)
      have s9 : SC h h9 := SC_trans (b := h4) s4 k9.1
      refine ok_ob2 (u_X1_rule h9 0 (s9).1) (fun r10 h10 k10 => ?_)
      have s10 : SC h h10 := SC_trans (b := h9) s9 k10.1
      refine ok_ob2 (u_X1_rule h10 1 (s10).1) (fun r11 h11 k11 => ?_)
      have s11 : SC h h11 := SC_trans (b := h10) s10 k11.1
      exact u_X0_add_86 (h0 := h) r3 r3 (r10 * r11) ((10 - r10) * 10) 8589934592 h11 0 s11 (by have : (0 ≤ (r3).toInt ∧ (r3).toInt ≤ 3) := k3; have : (0 : Int32).toInt = 0 := rfl; omega) (by have : (0 ≤ (r3).toInt ∧ (r3).toInt ≤ 3) := k3; have := fb_rng (r3); omega) (by have : (0 ≤ (r3).toInt ∧ (r3).toInt ≤ 3) := k3; have := fb_rng (r3); omega) (by decide) (by have : (0 ≤ (r3).toInt ∧ (r3).toInt ≤ 3) := k3; have : (0 : Int32).toInt = 0 := rfl; omega)
  · exact ok_some ⟨(SC_refl hI), trivial⟩
theorem u_X3_tryMarkets_20 {h0 : HS} (x1 : Int32) {kR_X3_tryMarkets : HS → Int32 → Option HS} (m : Int) (hR_X3_tryMarkets : ∀ (h : HS) (p1 : Int32), IC h → (0 ≤ p1.toInt ∧ p1.toInt ≤ 3) → 3 - p1.toInt < m → ok (kR_X3_tryMarkets h p1) (fun a => SC h a ∧ True)) : ∀ (n : Nat) (h : HS) (x2 : Int32), SC h0 h → (0 ≤ x1.toInt ∧ x1.toInt < 3) → 3 - x1.toInt ≤ m → 0 < n → (4 - (x2).toInt : Int) < (n : Int) → ok (f_X3_tryMarkets_20 kR_X3_tryMarkets n h x1 x2) (fun a => SC h0 a ∧ True) := by
  intro n
  induction n with
  | zero =>
    intro h x2 hSC i0 i1 hn hm
    exact absurd hn (by decide)
  | succ n ih_X3_tryMarkets_20 =>
    intro h x2 hSC i0 i1 hn hm
    rw [f_X3_tryMarkets_20_s]
    refine ok_if (fun c1 => ?_) (fun c1 => ?_)
    · exact ok_some ⟨hSC, trivial⟩
    · refine ok_chk (by have := i0; have := i1; have := hm; have := fb_rng (x1); omega) ?_
      refine ok_ob1 (hR_X3_tryMarkets (sA h 8 5 (upd (eA h 8 5) ((x1).toNatClampNeg) x2)) (x1 + 1) (hSC).1 (by have := IC_n hSC.1; have := i0; have := i1; have := hm; have := gi_of_nle c1; have : (1 : Int32).toInt = 1 := rfl; have := fb_rng (eI h 8 11); have := fb_rng (x2); have := fb_rng (x1); (try have := fb_addI (x := x1) (y := 1) (by omega) (by omega)); omega) (by have := IC_n hSC.1; have := i0; have := i1; have := hm; have := gi_of_nle c1; have : (1 : Int32).toInt = 1 := rfl; have := fb_rng (eI h 8 11); have := fb_rng (x2); have := fb_rng (x1); (try have := fb_addI (x := x1) (y := 1) (by omega) (by omega)); omega)) (fun h3 k3 => ?_)
      have s3 : SC h0 h3 := SC_trans (b := (sA h 8 5 (upd (eA h 8 5) ((x1).toNatClampNeg) x2))) hSC k3.1
      exact ih_X3_tryMarkets_20 h3 (x2 + 1) s3 (by have := i0; have := i1; have := hm; have := fb_rng (x1); omega) (by have := i0; have := i1; have := hm; have := fb_rng (x1); omega) (by have := IC_n hSC.1; have := i0; have := i1; have := hm; have := gi_of_nle c1; have : (1 : Int32).toInt = 1 := rfl; have := fb_rng (eI h 8 11); have := fb_rng (x2); (try have := fb_addI (x := x2) (y := 1) (by omega) (by omega)); omega) (by have := IC_n hSC.1; have := i0; have := i1; have := hm; have := gi_of_nle c1; have : (1 : Int32).toInt = 1 := rfl; have := fb_rng (eI h 8 11); have := fb_rng (x2); (try have := fb_addI (x := x2) (y := 1) (by omega) (by omega)); omega)
theorem u_X3_tryMarkets_b {kR_X3_tryMarkets : HS → Int32 → Option HS} (m : Int) (hR_X3_tryMarkets : ∀ (h : HS) (p1 : Int32), IC h → (0 ≤ p1.toInt ∧ p1.toInt ≤ 3) → 3 - p1.toInt < m → ok (kR_X3_tryMarkets h p1) (fun a => SC h a ∧ True)) (h : HS) (p1 : Int32) (hI : IC h) (w0 : 0 ≤ p1.toInt ∧ p1.toInt ≤ 3) (w1 : 3 - p1.toInt ≤ m) : ok (f_X3_tryMarkets_b kR_X3_tryMarkets h p1) (fun a => SC h a ∧ True) := by
  unfold f_X3_tryMarkets_b
  refine ok_if (fun c1 => ?_) (fun c1 => ?_)
  · unfold f_X3_tryMarkets_13
    refine ok_ob1 (u_X3_compare h ((SC_refl hI)).1) (fun h2 k2 => ?_)
    have s2 : SC h h2 := SC_trans (b := h) (SC_refl hI) k2.1
    exact ok_some ⟨s2, trivial⟩
  · refine ok_if (fun c3 => ?_) (fun c3 => ?_)
    · exact u_X3_tryMarkets_20 (h0 := h) p1 (m := m) hR_X3_tryMarkets 8589934592 h 0 (SC_refl hI) (by have := IC_n (SC_refl hI).1; have := w0; have := w1; have := gi_of_nle c1; have := gi_of_lt c3; have : (3 : Int32).toInt = 3 := rfl; have := fb_rng (eI h 8 8); have := fb_rng (p1); omega) (by have := IC_n (SC_refl hI).1; have := w0; have := w1; have := gi_of_nle c1; have := gi_of_lt c3; have : (3 : Int32).toInt = 3 := rfl; have := fb_rng (eI h 8 8); have := fb_rng (p1); omega) (by decide) (by have := w0; have := w1; have : (0 : Int32).toInt = 0 := rfl; omega)
    · unfold f_X3_tryMarkets_13
      refine ok_ob1 (u_X3_compare h ((SC_refl hI)).1) (fun h4 k4 => ?_)
      have s4 : SC h h4 := SC_trans (b := h) (SC_refl hI) k4.1
      exact ok_some ⟨s4, trivial⟩
theorem u_G_tryMarkets : ∀ (n : Nat) (h : HS) (p1 : Int32), IC h → (0 ≤ p1.toInt ∧ p1.toInt ≤ 3) → 3 - p1.toInt < (n : Int) → ok (G_tryMarkets n 0 h p1) (fun a => SC h a ∧ True) := by
  intro n
  induction n with
  | zero => intro h p1 hI h0 hm; exact absurd hm (by omega)
  | succ n ih =>
    intro h p1 hI h0 hm
    exact u_X3_tryMarkets_b (m := n) (fun h p i a b => ih h p i a b) h p1 hI h0 (by omega)
theorem u_X3_tryPatterns_69 {h0 : HS} (x1 : Int32) (x2 : Int32) {k38 : HS → Int32 → Int32 → Option HS} (hk38 : ∀ h : HS, SC h0 h → ok (k38 h x1 (x2 + 1)) (fun a => SC h0 a ∧ True)) : ∀ (n : Nat) (h : HS) (x3 : Int32) (x4 : Int32), SC h0 h → x4.toInt < 3 → 0 < n → (x4.toInt + 1 : Int) < (n : Int) → ok (f_X3_tryPatterns_69 k38 n h x1 x2 x3 x4) (fun a => SC h0 a ∧ True) := by
  intro n
  induction n with
  | zero =>
    intro h x3 x4 hSC i0 hn hm
    exact absurd hn (by decide)
  | succ n ih_X3_tryPatterns_69 =>
    intro h x3 x4 hSC i0 hn hm
    rw [f_X3_tryPatterns_69_s]
    refine ok_if (fun c1 => ?_) (fun c1 => ?_)
    · refine ok_ob2 (u_X3_missOf_f h (hSC).1) (fun r2 h2 k2 => ?_)
      have e2 : h = h2 := k2.1.symm
      subst e2
      refine ok_ob2 (u_X3_isEnough h r2 (hSC).1) (fun r3 h3 k3 => ?_)
      have e3 : h = h3 := k3.1.symm
      subst e3
      refine ok_if (fun c4 => ?_) (fun c4 => ?_)
      · unfold f_X3_tryPatterns_146
        exact hk38 h hSC
      · refine ok_if (fun c5 => ?_) (fun c5 => ?_)
        · refine ok_ob2 (u_X3_missOf_r h (hSC).1) (fun r6 h6 k6 => ?_)
          have e6 : h = h6 := k6.1.symm
          subst e6
          refine ok_ob2 (u_X3_isBetter h r6 (hSC).1) (fun r7 h7 k7 => ?_)
          have e7 : h = h7 := k7.1.symm
          subst e7
          refine ok_if (fun c8 => ?_) (fun c8 => ?_)
          · unfold f_X3_tryPatterns_146
            exact hk38 h hSC
          · unfold f_X3_tryPatterns_141
            refine ok_ob1 (u_G_tryMarkets 6 h 0 (hSC).1 (by have := i0; have := hm; have : (0 : Int32).toInt = 0 := rfl; omega) (by have := i0; have := hm; have : (0 : Int32).toInt = 0 := rfl; omega)) (fun h9 k9 => ?_)
            have s9 : SC h0 h9 := SC_trans (b := h) hSC k9.1
            unfold f_X3_tryPatterns_146
            exact hk38 h9 s9
        · unfold f_X3_tryPatterns_141
          refine ok_ob1 (u_G_tryMarkets 6 h 0 (hSC).1 (by have := i0; have := hm; have : (0 : Int32).toInt = 0 := rfl; omega) (by have := i0; have := hm; have : (0 : Int32).toInt = 0 := rfl; omega)) (fun h10 k10 => ?_)
          have s10 : SC h0 h10 := SC_trans (b := h) hSC k10.1
          unfold f_X3_tryPatterns_146
          exact hk38 h10 s10
    · refine ok_chk (by have := i0; have := hm; have := gi_of_nlt c1; have : (0 : Int32).toInt = 0 := rfl; have := fb_rng (x4); omega) ?_
      refine ok_chk (by have := i0; have := hm; have := gi_of_nlt c1; have : (0 : Int32).toInt = 0 := rfl; have := fb_rng (x4); omega) ?_
      exact ih_X3_tryPatterns_69 (sA (sA h 8 4 (upd (eA h 8 4) ((x4).toNatClampNeg) (x3 - x3 / 10 * 10))) 8 5 (upd (eA h 8 5) ((x4).toNatClampNeg) 4)) (x3 / 10) (x4 + (-1)) hSC (by have := i0; have := hm; have := gi_of_nlt c1; have : ((-1) : Int32).toInt = -1 := rfl; have : (0 : Int32).toInt = 0 := rfl; have := fb_rng (x4); (try have := fb_addI (x := x4) (y := (-1)) (by omega) (by omega)); omega) (by have := i0; have := hm; have := gi_of_nlt c1; have : ((-1) : Int32).toInt = -1 := rfl; have : (0 : Int32).toInt = 0 := rfl; have := fb_rng (x4); (try have := fb_addI (x := x4) (y := (-1)) (by omega) (by omega)); omega) (by have := i0; have := hm; have := gi_of_nlt c1; have : ((-1) : Int32).toInt = -1 := rfl; have : (0 : Int32).toInt = 0 := rfl; have := fb_rng (x4); (try have := fb_addI (x := x4) (y := (-1)) (by omega) (by omega)); omega)
theorem u_X3_tryPatterns_38 {h0 : HS} (x1 : Int32) : ∀ (n : Nat) (h : HS) (x2 : Int32), SC h0 h → 0 ≤ x2.toInt → 0 < n → (13 - (x2).toInt : Int) < (n : Int) → ok (f_X3_tryPatterns_38  n h x1 x2) (fun a => SC h0 a ∧ True) := by
  intro n
  induction n with
  | zero =>
    intro h x2 hSC i0 hn hm
    exact absurd hn (by decide)
  | succ n ih_X3_tryPatterns_38 =>
    intro h x2 hSC i0 hn hm
    rw [f_X3_tryPatterns_38_s]
    refine ok_if (fun c1 => ?_) (fun c1 => ?_)
    · unfold f_X3_tryPatterns_152
      exact ok_some ⟨hSC, trivial⟩
    · refine ok_if (fun c2 => ?_) (fun c2 => ?_)
      · unfold f_X3_tryPatterns_152
        exact ok_some ⟨hSC, trivial⟩
      · refine ok_chk (by have := i0; have := hm; have := gi_of_nle c1; have := gi_of_nle c2; have : (13 : Int32).toInt = 13 := rfl; have := fb_rng (x1); have := fb_rng (x2); omega) ?_
        exact u_X3_tryPatterns_69 (h0 := h0) x1 x2 (fun h_9 s_9 => ih_X3_tryPatterns_38 h_9 (x2 + 1) s_9 (by have := i0; have := hm; have := gi_of_nle c1; have := gi_of_nle c2; have : (1 : Int32).toInt = 1 := rfl; have : (13 : Int32).toInt = 13 := rfl; have := fb_rng (x1); have := fb_rng (x2); (try have := fb_addI (x := x2) (y := 1) (by omega) (by omega)); omega) (by have := i0; have := hm; have := gi_of_nle c1; have := gi_of_nle c2; have : (1 : Int32).toInt = 1 := rfl; have : (13 : Int32).toInt = 13 := rfl; have := fb_rng (x1); have := fb_rng (x2); (try have := fb_addI (x := x2) (y := 1) (by omega) (by omega)); omega) (by have := i0; have := hm; have := gi_of_nle c1; have := gi_of_nle c2; have : (1 : Int32).toInt = 1 := rfl; have : (13 : Int32).toInt = 13 := rfl; have := fb_rng (x1); have := fb_rng (x2); (try have := fb_addI (x := x2) (y := 1) (by omega) (by omega)); omega)) 8589934592 h (gPat ((x2).toNatClampNeg)) ((if 3 < (eI h 8 8) then 3 else (eI h 8 8)) - 1) hSC (by have := IC_n hSC.1; have := i0; have := hm; have : (1 : Int32).toInt = 1 := rfl; have : (3 : Int32).toInt = 3 := rfl; have := fb_rng (eI h 8 8); have := fb_itel (x := 3) (y := (eI h 8 8)) (a := 3) (b := (eI h 8 8)); (try have := fb_subI (x := (if 3 < (eI h 8 8) then 3 else (eI h 8 8))) (y := 1) (by omega) (by omega)); omega) (by decide) (by have := IC_n hSC.1; have := i0; have := hm; have : (1 : Int32).toInt = 1 := rfl; have : (3 : Int32).toInt = 3 := rfl; have := fb_rng (eI h 8 8); have := fb_itel (x := 3) (y := (eI h 8 8)) (a := 3) (b := (eI h 8 8)); (try have := fb_subI (x := (if 3 < (eI h 8 8) then 3 else (eI h 8 8))) (y := 1) (by omega) (by omega)); omega)
theorem u_X3_tryPatterns (h : HS) (hI : IC h) : ok (f_X3_tryPatterns h) (fun a => SC h a ∧ True) := by
  unfold f_X3_tryPatterns
  refine ok_if (fun c1 => ?_) (fun c1 => ?_)
  · unfold f_X3_tryPatterns_34
    unfold f_X3_tryPatterns_35
    exact u_X3_tryPatterns_38 (h0 := h) 0 8589934592 (sI h 8 13 0) 0 (SC_refl hI) (by have : (0 : Int32).toInt = 0 := rfl; omega) (by decide) (by have : (0 : Int32).toInt = 0 := rfl; omega)
  · refine ok_if (fun c2 => ?_) (fun c2 => ?_)
    · unfold f_X3_tryPatterns_34
      unfold f_X3_tryPatterns_35
      exact u_X3_tryPatterns_38 (h0 := h) 0 8589934592 (sI h 8 13 0) 0 (SC_refl hI) (by have : (0 : Int32).toInt = 0 := rfl; omega) (by decide) (by have : (0 : Int32).toInt = 0 := rfl; omega)
    · refine ok_chk (by have := IC_n (SC_refl hI).1; have := gi_of_nlt c1; have := gi_of_nle c2; have : (0 : Int32).toInt = 0 := rfl; have : (4 : Int32).toInt = 4 := rfl; have := fb_rng (eI h 8 8); omega) ?_
      unfold f_X3_tryPatterns_35
      exact u_X3_tryPatterns_38 (h0 := h) (gCnt (((eI h 8 8)).toNatClampNeg)) 8589934592 (sI h 8 13 0) 0 (SC_refl hI) (by have : (0 : Int32).toInt = 0 := rfl; omega) (by decide) (by have : (0 : Int32).toInt = 0 := rfl; omega)
theorem u_X3_tryGeese_20 {h0 : HS} (x1 : Int32) {kR_X3_tryGeese : HS → Int32 → Int32 → Option HS} (m : Int) (hR_X3_tryGeese : ∀ (h : HS) (p1 p2 : Int32), IC h → (0 ≤ p1.toInt ∧ p1.toInt ≤ 3) → (0 ≤ p2.toInt ∧ p2.toInt ≤ 10) → 3 - p1.toInt < m → ok (kR_X3_tryGeese h p1 p2) (fun a => SC h a ∧ True)) : ∀ (n : Nat) (h : HS) (x3 : Int32), SC h0 h → 0 ≤ x3.toInt → (0 ≤ x1.toInt ∧ x1.toInt < 3) → 3 - x1.toInt ≤ m → 0 < n → (10 - (x3).toInt : Int) < (n : Int) → ok (f_X3_tryGeese_20 kR_X3_tryGeese n h x1 x3) (fun a => SC h0 a ∧ True) := by
  intro n
  induction n with
  | zero =>
    intro h x3 hSC i0 i1 i2 hn hm
    exact absurd hn (by decide)
  | succ n ih_X3_tryGeese_20 =>
    intro h x3 hSC i0 i1 i2 hn hm
    rw [f_X3_tryGeese_20_s]
    refine ok_if (fun c1 => ?_) (fun c1 => ?_)
    · exact ok_some ⟨hSC, trivial⟩
    · refine ok_chk (by have := i0; have := i1; have := i2; have := hm; have := gi_of_nle c1; have : (10 : Int32).toInt = 10 := rfl; have := fb_rng (x3); omega) ?_
      refine ok_if (fun c3 => ?_) (fun c3 => ?_)
      · unfold f_X3_tryGeese_52
        exact ih_X3_tryGeese_20 h (x3 + 1) hSC (by have := i0; have := i1; have := i2; have := hm; have := gi_of_nle c1; have := gi_of_eq c3; have : (0 : Int32).toInt = 0 := rfl; have : (1 : Int32).toInt = 1 := rfl; have : (10 : Int32).toInt = 10 := rfl; have := fb_rng (x3); have := fb_rng ((eA h 8 2) ((x3).toNatClampNeg)); (try have := fb_addI (x := x3) (y := 1) (by omega) (by omega)); omega) (by have := i0; have := i1; have := i2; have := hm; have := fb_rng (x1); omega) (by have := i0; have := i1; have := i2; have := hm; have := fb_rng (x1); omega) (by have := i0; have := i1; have := i2; have := hm; have := gi_of_nle c1; have := gi_of_eq c3; have : (0 : Int32).toInt = 0 := rfl; have : (1 : Int32).toInt = 1 := rfl; have : (10 : Int32).toInt = 10 := rfl; have := fb_rng (x3); have := fb_rng ((eA h 8 2) ((x3).toNatClampNeg)); (try have := fb_addI (x := x3) (y := 1) (by omega) (by omega)); omega) (by have := i0; have := i1; have := i2; have := hm; have := gi_of_nle c1; have := gi_of_eq c3; have : (0 : Int32).toInt = 0 := rfl; have : (1 : Int32).toInt = 1 := rfl; have : (10 : Int32).toInt = 10 := rfl; have := fb_rng (x3); have := fb_rng ((eA h 8 2) ((x3).toNatClampNeg)); (try have := fb_addI (x := x3) (y := 1) (by omega) (by omega)); omega)
      · refine ok_chk (by have := i0; have := i1; have := i2; have := hm; have := fb_rng (x1); omega) ?_
        refine ok_ob1 (hR_X3_tryGeese (sA h 8 3 (upd (eA h 8 3) ((x1).toNatClampNeg) x3)) (x1 + 1) (x3 + 1) (hSC).1 (by have := i0; have := i1; have := i2; have := hm; have := gi_of_nle c1; have := gi_of_ne c3; have : (0 : Int32).toInt = 0 := rfl; have : (1 : Int32).toInt = 1 := rfl; have : (10 : Int32).toInt = 10 := rfl; have := fb_rng (x3); have := fb_rng ((eA h 8 2) ((x3).toNatClampNeg)); have := fb_rng (x1); (try have := fb_addI (x := x1) (y := 1) (by omega) (by omega)); (try have := fb_addI (x := x3) (y := 1) (by omega) (by omega)); omega) (by have := i0; have := i1; have := i2; have := hm; have := gi_of_nle c1; have := gi_of_ne c3; have : (0 : Int32).toInt = 0 := rfl; have : (1 : Int32).toInt = 1 := rfl; have : (10 : Int32).toInt = 10 := rfl; have := fb_rng (x3); have := fb_rng ((eA h 8 2) ((x3).toNatClampNeg)); have := fb_rng (x1); (try have := fb_addI (x := x1) (y := 1) (by omega) (by omega)); (try have := fb_addI (x := x3) (y := 1) (by omega) (by omega)); omega) (by have := i0; have := i1; have := i2; have := hm; have := gi_of_nle c1; have := gi_of_ne c3; have : (0 : Int32).toInt = 0 := rfl; have : (1 : Int32).toInt = 1 := rfl; have : (10 : Int32).toInt = 10 := rfl; have := fb_rng (x3); have := fb_rng ((eA h 8 2) ((x3).toNatClampNeg)); have := fb_rng (x1); (try have := fb_addI (x := x1) (y := 1) (by omega) (by omega)); (try have := fb_addI (x := x3) (y := 1) (by omega) (by omega)); omega)) (fun h5 k5 => ?_)
        have s5 : SC h0 h5 := SC_trans (b := (sA h 8 3 (upd (eA h 8 3) ((x1).toNatClampNeg) x3))) hSC k5.1
        unfold f_X3_tryGeese_52
        exact ih_X3_tryGeese_20 h5 (x3 + 1) s5 (by have := i0; have := i1; have := i2; have := hm; have := gi_of_nle c1; have := gi_of_ne c3; have : (0 : Int32).toInt = 0 := rfl; have : (1 : Int32).toInt = 1 := rfl; have : (10 : Int32).toInt = 10 := rfl; have := fb_rng (x3); have := fb_rng ((eA h 8 2) ((x3).toNatClampNeg)); (try have := fb_addI (x := x3) (y := 1) (by omega) (by omega)); omega) (by have := i0; have := i1; have := i2; have := hm; have := fb_rng (x1); omega) (by have := i0; have := i1; have := i2; have := hm; have := fb_rng (x1); omega) (by have := i0; have := i1; have := i2; have := hm; have := gi_of_nle c1; have := gi_of_ne c3; have : (0 : Int32).toInt = 0 := rfl; have : (1 : Int32).toInt = 1 := rfl; have : (10 : Int32).toInt = 10 := rfl; have := fb_rng (x3); have := fb_rng ((eA h 8 2) ((x3).toNatClampNeg)); (try have := fb_addI (x := x3) (y := 1) (by omega) (by omega)); omega) (by have := i0; have := i1; have := i2; have := hm; have := gi_of_nle c1; have := gi_of_ne c3; have : (0 : Int32).toInt = 0 := rfl; have : (1 : Int32).toInt = 1 := rfl; have : (10 : Int32).toInt = 10 := rfl; have := fb_rng (x3); have := fb_rng ((eA h 8 2) ((x3).toNatClampNeg)); (try have := fb_addI (x := x3) (y := 1) (by omega) (by omega)); omega)
theorem u_X3_tryGeese_b {kR_X3_tryGeese : HS → Int32 → Int32 → Option HS} (m : Int) (hR_X3_tryGeese : ∀ (h : HS) (p1 p2 : Int32), IC h → (0 ≤ p1.toInt ∧ p1.toInt ≤ 3) → (0 ≤ p2.toInt ∧ p2.toInt ≤ 10) → 3 - p1.toInt < m → ok (kR_X3_tryGeese h p1 p2) (fun a => SC h a ∧ True)) (h : HS) (p1 : Int32) (p2 : Int32) (hI : IC h) (w0 : 0 ≤ p1.toInt ∧ p1.toInt ≤ 3) (w2 : 0 ≤ p2.toInt ∧ p2.toInt ≤ 10) (w1 : 3 - p1.toInt ≤ m) : ok (f_X3_tryGeese_b kR_X3_tryGeese h p1 p2) (fun a => SC h a ∧ True) := by
  unfold f_X3_tryGeese_b
  refine ok_if (fun c1 => ?_) (fun c1 => ?_)
  · unfold f_X3_tryGeese_13
    refine ok_ob1 (u_X3_tryPatterns h ((SC_refl hI)).1) (fun h2 k2 => ?_)
    have s2 : SC h h2 := SC_trans (b := h) (SC_refl hI) k2.1
    exact ok_some ⟨s2, trivial⟩
  · refine ok_if (fun c3 => ?_) (fun c3 => ?_)
    · exact u_X3_tryGeese_20 (h0 := h) p1 (m := m) hR_X3_tryGeese 8589934592 h p2 (SC_refl hI) (by have := w0; have := w2; have := w1; have := fb_rng (p2); omega) (by have := IC_n (SC_refl hI).1; have := w0; have := w2; have := w1; have := gi_of_nle c1; have := gi_of_lt c3; have : (3 : Int32).toInt = 3 := rfl; have := fb_rng (eI h 8 8); have := fb_rng (p1); omega) (by have := IC_n (SC_refl hI).1; have := w0; have := w2; have := w1; have := gi_of_nle c1; have := gi_of_lt c3; have : (3 : Int32).toInt = 3 := rfl; have := fb_rng (eI h 8 8); have := fb_rng (p1); omega) (by decide) (by have := w0; have := w2; have := w1; have := fb_rng (p2); omega)
    · unfold f_X3_tryGeese_13
      refine ok_ob1 (u_X3_tryPatterns h ((SC_refl hI)).1) (fun h4 k4 => ?_)
      have s4 : SC h h4 := SC_trans (b := h) (SC_refl hI) k4.1
      exact ok_some ⟨s4, trivial⟩
theorem u_G_tryGeese : ∀ (n : Nat) (h : HS) (p1 p2 : Int32), IC h → (0 ≤ p1.toInt ∧ p1.toInt ≤ 3) → (0 ≤ p2.toInt ∧ p2.toInt ≤ 10) → 3 - p1.toInt < (n : Int) → ok (G_tryGeese n 0 h p1 p2) (fun a => SC h a ∧ True) := by
  intro n
  induction n with
  | zero => intro h p1 p2 hI h0 h2 hm; exact absurd hm (by omega)
  | succ n ih =>
    intro h p1 p2 hI h0 h2 hm
    exact u_X3_tryGeese_b (m := n) (fun h p q i a b c => ih h p q i a b c) h p1 p2 hI h0 h2 (by omega)
theorem u_X3_weighGoose_64 {h0 : HS} (x3 : Int32) (x4 : Int32) (x5 : Int32) (x6 : Int32) (x7 : Int32) {k3 : HS → Int32 → Int32 → Int32 → Option HS} (hk3 : ∀ h : HS, SC h0 h → ok (k3 h x3 x4 (x5 + 1)) (fun a => SC h0 a ∧ True)) : ∀ (n : Nat) (h : HS) (x8 : Int32), SC h0 h → 0 ≤ x8.toInt → (0 ≤ x7.toInt ∧ x7.toInt < 150) → (0 ≤ x3.toInt ∧ x3.toInt < 10) → (0 ≤ x5.toInt ∧ x5.toInt < 3) → 0 < n → (4 - (x8).toInt : Int) < (n : Int) → ok (f_X3_weighGoose_64 k3 n h x3 x4 x5 x6 x7 x8) (fun a => SC h0 a ∧ True) := by
  intro n
  induction n with
  | zero =>
    intro h x8 hSC i0 i1 i2 i3 hn hm
    exact absurd hn (by decide)
  | succ n ih_X3_weighGoose_64 =>
    intro h x8 hSC i0 i1 i2 i3 hn hm
    rw [f_X3_weighGoose_64_s]
    refine ok_if (fun c1 => ?_) (fun c1 => ?_)
    · exact hk3 h hSC
    · refine ok_ob2 (u_X4_ofMarket h x8 0 (hSC).1) (fun r2 h2 k2 => ?_)
      have e2 : h = h2 := k2.1.symm
      subst e2
      refine ok_ob1 (u_X1_lookAtMarket h x8 ((eI h 1 7) + r2) (hSC).1) (fun h3 k3 => ?_)
      have s3 : SC h0 h3 := SC_trans (b := h) hSC k3.1
      refine ok_ob2 (u_X1_rule h3 0 (s3).1) (fun r4 h4 k4 => ?_)
      have s4 : SC h0 h4 := SC_trans (b := h3) s3 k4.1
      refine ok_ob1 (u_X3_cell x3 x5 x8) (fun r5 k5 => ?_)
      subst k5
      refine ok_if (fun c6 => ?_) (fun c6 => ?_)
      · unfold f_X3_weighGoose_133
        refine ok_chk (by have := IC_n hSC.1; have := i0; have := i1; have := i2; have := i3; have := hm; have := gi_of_nle c1; have : (3 : Int32).toInt = 3 := rfl; have : (5 : Int32).toInt = 5 := rfl; have := fb_rng (eI h 8 11); have := fb_rng (x8); have := fb_rng (x3); (try have := fb_mulK (x := x3) (y := 3) (k := 3) rfl (by omega) (by omega)); have := fb_rng (x5); (try have := fb_addI (x := (x3 * 3)) (y := x5) (by omega) (by omega)); (try have := fb_mulK (x := ((x3 * 3) + x5)) (y := 5) (k := 5) rfl (by omega) (by omega)); (try have := fb_addI (x := (((x3 * 3) + x5) * 5)) (y := x8) (by omega) (by omega)); omega) ?_
        refine ok_ob2 (u_X1_rule (sA h4 8 0 (upd (eA h4 8 0) ((((((x3 * 3) + x5) * 5) + x8)).toNatClampNeg) 0)) 1 (s4).1) (fun r8 h8 k8 => ?_)
        have s8 : SC h0 h8 := SC_trans (b := (sA h4 8 0 (upd (eA h4 8 0) ((((((x3 * 3) + x5) * 5) + x8)).toNatClampNeg) 0))) s4 k8.1
        refine ok_chk (by have := IC_n hSC.1; have := i0; have := i1; have := i2; have := i3; have := hm; have := gi_of_nle c1; have : (3 : Int32).toInt = 3 := rfl; have : (5 : Int32).toInt = 5 := rfl; have := fb_rng (eI h 8 11); have := fb_rng (x8); have := fb_rng (x3); (try have := fb_mulK (x := x3) (y := 3) (k := 3) rfl (by omega) (by omega)); have := fb_rng (x5); (try have := fb_addI (x := (x3 * 3)) (y := x5) (by omega) (by omega)); (try have := fb_mulK (x := ((x3 * 3) + x5)) (y := 5) (k := 5) rfl (by omega) (by omega)); (try have := fb_addI (x := (((x3 * 3) + x5) * 5)) (y := x8) (by omega) (by omega)); omega) ?_
        refine ok_chk (by have := i0; have := i1; have := i2; have := i3; have := hm; have := fb_rng (x7); omega) ?_
        refine ok_chk (by have := IC_n hSC.1; have := i0; have := i1; have := i2; have := i3; have := hm; have := gi_of_nle c1; have : (3 : Int32).toInt = 3 := rfl; have : (5 : Int32).toInt = 5 := rfl; have := fb_rng (eI h 8 11); have := fb_rng (x8); have := fb_rng (x3); (try have := fb_mulK (x := x3) (y := 3) (k := 3) rfl (by omega) (by omega)); have := fb_rng (x5); (try have := fb_addI (x := (x3 * 3)) (y := x5) (by omega) (by omega)); (try have := fb_mulK (x := ((x3 * 3) + x5)) (y := 5) (k := 5) rfl (by omega) (by omega)); (try have := fb_addI (x := (((x3 * 3) + x5) * 5)) (y := x8) (by omega) (by omega)); omega) ?_
        refine ok_chk (by have := i0; have := i1; have := i2; have := i3; have := hm; have := fb_rng (x7); omega) ?_
        refine ok_chk (by have := i0; have := i1; have := i2; have := i3; have := hm; have := fb_rng (x7); omega) ?_
        refine ok_chk (by have := IC_n hSC.1; have := i0; have := i1; have := i2; have := i3; have := hm; have := gi_of_nle c1; have : (3 : Int32).toInt = 3 := rfl; have : (5 : Int32).toInt = 5 := rfl; have := fb_rng (eI h 8 11); have := fb_rng (x8); have := fb_rng (x3); (try have := fb_mulK (x := x3) (y := 3) (k := 3) rfl (by omega) (by omega)); have := fb_rng (x5); (try have := fb_addI (x := (x3 * 3)) (y := x5) (by omega) (by omega)); (try have := fb_mulK (x := ((x3 * 3) + x5)) (y := 5) (k := 5) rfl (by omega) (by omega)); (try have := fb_addI (x := (((x3 * 3) + x5) * 5)) (y := x8) (by omega) (by omega)); omega) ?_
        refine ok_chk (by have := i0; have := i1; have := i2; have := i3; have := hm; have := fb_rng (x7); omega) ?_
        exact ih_X3_weighGoose_64 (sA (sA (sA h8 8 1 (upd (eA h8 8 1) ((((((x3 * 3) + x5) * 5) + x8)).toNatClampNeg) (r4 * r8))) 8 0 (upd (eA h8 8 0) ((x7).toNatClampNeg) (if ((eA h8 8 0) ((x7).toNatClampNeg)) < ((eA h8 8 0) ((((((x3 * 3) + x5) * 5) + x8)).toNatClampNeg)) then ((eA h8 8 0) ((((((x3 * 3) + x5) * 5) + x8)).toNatClampNeg)) else ((eA h8 8 0) ((x7).toNatClampNeg))))) 8 1 (upd (upd (eA h8 8 1) ((((((x3 * 3) + x5) * 5) + x8)).toNatClampNeg) (r4 * r8)) ((x7).toNatClampNeg) (if ((upd (eA h8 8 1) ((((((x3 * 3) + x5) * 5) + x8)).toNatClampNeg) (r4 * r8)) ((((((x3 * 3) + x5) * 5) + x8)).toNatClampNeg)) < ((upd (eA h8 8 1) ((((((x3 * 3) + x5) * 5) + x8)).toNatClampNeg) (r4 * r8)) ((x7).toNatClampNeg)) then ((upd (eA h8 8 1) ((((((x3 * 3) + x5) * 5) + x8)).toNatClampNeg) (r4 * r8)) ((((((x3 * 3) + x5) * 5) + x8)).toNatClampNeg)) else ((upd (eA h8 8 1) ((((((x3 * 3) + x5) * 5) + x8)).toNatClampNeg) (r4 * r8)) ((x7).toNatClampNeg))))) (x8 + 1) s8 (by have := IC_n hSC.1; have := i0; have := i1; have := i2; have := i3; have := hm; have := gi_of_nle c1; have : (1 : Int32).toInt = 1 := rfl; have := fb_rng (eI h 8 11); have := fb_rng (x8); (try have := fb_addI (x := x8) (y := 1) (by omega) (by omega)); omega) (by have := i0; have := i1; have := i2; have := i3; have := hm; have := fb_rng (x7); omega) (by have := i0; have := i1; have := i2; have := i3; have := hm; have := fb_rng (x3); omega) (by have := i0; have := i1; have := i2; have := i3; have := hm; have := fb_rng (x5); omega) (by have := IC_n hSC.1; have := i0; have := i1; have := i2; have := i3; have := hm; have := gi_of_nle c1; have : (1 : Int32).toInt = 1 := rfl; have := fb_rng (eI h 8 11); have := fb_rng (x8); (try have := fb_addI (x := x8) (y := 1) (by omega) (by omega)); omega) (by have := IC_n hSC.1; have := i0; have := i1; have := i2; have := i3; have := hm; have := gi_of_nle c1; have : (1 : Int32).toInt = 1 := rfl; have := fb_rng (eI h 8 11); have := fb_rng (x8); (try have := fb_addI (x := x8) (y := 1) (by omega) (by omega)); omega)
      · unfold f_X3_weighGoose_133
        refine ok_chk (by have := IC_n hSC.1; have := i0; have := i1; have := i2; have := i3; have := hm; have := gi_of_nle c1; have : (3 : Int32).toInt = 3 := rfl; have : (5 : Int32).toInt = 5 := rfl; have := fb_rng (eI h 8 11); have := fb_rng (x8); have := fb_rng (x3); (try have := fb_mulK (x := x3) (y := 3) (k := 3) rfl (by omega) (by omega)); have := fb_rng (x5); (try have := fb_addI (x := (x3 * 3)) (y := x5) (by omega) (by omega)); (try have := fb_mulK (x := ((x3 * 3) + x5)) (y := 5) (k := 5) rfl (by omega) (by omega)); (try have := fb_addI (x := (((x3 * 3) + x5) * 5)) (y := x8) (by omega) (by omega)); omega) ?_
        refine ok_ob2 (u_X1_rule (sA h4 8 0 (upd (eA h4 8 0) ((((((x3 * 3) + x5) * 5) + x8)).toNatClampNeg) ((10 - r4) * 10))) 1 (s4).1) (fun r17 h17 k17 => ?_)
        have s17 : SC h0 h17 := SC_trans (b := (sA h4 8 0 (upd (eA h4 8 0) ((((((x3 * 3) + x5) * 5) + x8)).toNatClampNeg) ((10 - r4) * 10)))) s4 k17.1
        refine ok_chk (by have := IC_n hSC.1; have := i0; have := i1; have := i2; have := i3; have := hm; have := gi_of_nle c1; have : (3 : Int32).toInt = 3 := rfl; have : (5 : Int32).toInt = 5 := rfl; have := fb_rng (eI h 8 11); have := fb_rng (x8); have := fb_rng (x3); (try have := fb_mulK (x := x3) (y := 3) (k := 3) rfl (by omega) (by omega)); have := fb_rng (x5); (try have := fb_addI (x := (x3 * 3)) (y := x5) (by omega) (by omega)); (try have := fb_mulK (x := ((x3 * 3) + x5)) (y := 5) (k := 5) rfl (by omega) (by omega)); (try have := fb_addI (x := (((x3 * 3) + x5) * 5)) (y := x8) (by omega) (by omega)); omega) ?_
        refine ok_chk (by have := i0; have := i1; have := i2; have := i3; have := hm; have := fb_rng (x7); omega) ?_
        refine ok_chk (by have := IC_n hSC.1; have := i0; have := i1; have := i2; have := i3; have := hm; have := gi_of_nle c1; have : (3 : Int32).toInt = 3 := rfl; have : (5 : Int32).toInt = 5 := rfl; have := fb_rng (eI h 8 11); have := fb_rng (x8); have := fb_rng (x3); (try have := fb_mulK (x := x3) (y := 3) (k := 3) rfl (by omega) (by omega)); have := fb_rng (x5); (try have := fb_addI (x := (x3 * 3)) (y := x5) (by omega) (by omega)); (try have := fb_mulK (x := ((x3 * 3) + x5)) (y := 5) (k := 5) rfl (by omega) (by omega)); (try have := fb_addI (x := (((x3 * 3) + x5) * 5)) (y := x8) (by omega) (by omega)); omega) ?_
        refine ok_chk (by have := i0; have := i1; have := i2; have := i3; have := hm; have := fb_rng (x7); omega) ?_
        refine ok_chk (by have := i0; have := i1; have := i2; have := i3; have := hm; have := fb_rng (x7); omega) ?_
        refine ok_chk (by have := IC_n hSC.1; have := i0; have := i1; have := i2; have := i3; have := hm; have := gi_of_nle c1; have : (3 : Int32).toInt = 3 := rfl; have : (5 : Int32).toInt = 5 := rfl; have := fb_rng (eI h 8 11); have := fb_rng (x8); have := fb_rng (x3); (try have := fb_mulK (x := x3) (y := 3) (k := 3) rfl (by omega) (by omega)); have := fb_rng (x5); (try have := fb_addI (x := (x3 * 3)) (y := x5) (by omega) (by omega)); (try have := fb_mulK (x := ((x3 * 3) + x5)) (y := 5) (k := 5) rfl (by omega) (by omega)); (try have := fb_addI (x := (((x3 * 3) + x5) * 5)) (y := x8) (by omega) (by omega)); omega) ?_
        refine ok_chk (by have := i0; have := i1; have := i2; have := i3; have := hm; have := fb_rng (x7); omega) ?_
        exact ih_X3_weighGoose_64 (sA (sA (sA h17 8 1 (upd (eA h17 8 1) ((((((x3 * 3) + x5) * 5) + x8)).toNatClampNeg) (r4 * r17))) 8 0 (upd (eA h17 8 0) ((x7).toNatClampNeg) (if ((eA h17 8 0) ((x7).toNatClampNeg)) < ((eA h17 8 0) ((((((x3 * 3) + x5) * 5) + x8)).toNatClampNeg)) then ((eA h17 8 0) ((((((x3 * 3) + x5) * 5) + x8)).toNatClampNeg)) else ((eA h17 8 0) ((x7).toNatClampNeg))))) 8 1 (upd (upd (eA h17 8 1) ((((((x3 * 3) + x5) * 5) + x8)).toNatClampNeg) (r4 * r17)) ((x7).toNatClampNeg) (if ((upd (eA h17 8 1) ((((((x3 * 3) + x5) * 5) + x8)).toNatClampNeg) (r4 * r17)) ((((((x3 * 3) + x5) * 5) + x8)).toNatClampNeg)) < ((upd (eA h17 8 1) ((((((x3 * 3) + x5) * 5) + x8)).toNatClampNeg) (r4 * r17)) ((x7).toNatClampNeg)) then ((upd (eA h17 8 1) ((((((x3 * 3) + x5) * 5) + x8)).toNatClampNeg) (r4 * r17)) ((((((x3 * 3) + x5) * 5) + x8)).toNatClampNeg)) else ((upd (eA h17 8 1) ((((((x3 * 3) + x5) * 5) + x8)).toNatClampNeg) (r4 * r17)) ((x7).toNatClampNeg))))) (x8 + 1) s17 (by have := IC_n hSC.1; have := i0; have := i1; have := i2; have := i3; have := hm; have := gi_of_nle c1; have : (1 : Int32).toInt = 1 := rfl; have := fb_rng (eI h 8 11); have := fb_rng (x8); (try have := fb_addI (x := x8) (y := 1) (by omega) (by omega)); omega) (by have := i0; have := i1; have := i2; have := i3; have := hm; have := fb_rng (x7); omega) (by have := i0; have := i1; have := i2; have := i3; have := hm; have := fb_rng (x3); omega) (by have := i0; have := i1; have := i2; have := i3; have := hm; have := fb_rng (x5); omega) (by have := IC_n hSC.1; have := i0; have := i1; have := i2; have := i3; have := hm; have := gi_of_nle c1; have : (1 : Int32).toInt = 1 := rfl; have := fb_rng (eI h 8 11); have := fb_rng (x8); (try have := fb_addI (x := x8) (y := 1) (by omega) (by omega)); omega) (by have := IC_n hSC.1; have := i0; have := i1; have := i2; have := i3; have := hm; have := gi_of_nle c1; have : (1 : Int32).toInt = 1 := rfl; have := fb_rng (eI h 8 11); have := fb_rng (x8); (try have := fb_addI (x := x8) (y := 1) (by omega) (by omega)); omega)
theorem u_X3_weighGoose_3 {h0 : HS} (x3 : Int32) (x4 : Int32) : ∀ (n : Nat) (h : HS) (x5 : Int32), SC h0 h → 0 ≤ x5.toInt → (0 ≤ x3.toInt ∧ x3.toInt < 10) → 0 < n → (3 - (x5).toInt : Int) < (n : Int) → ok (f_X3_weighGoose_3  n h x3 x4 x5) (fun a => SC h0 a ∧ True) := by
  intro n
  induction n with
  | zero =>
    intro h x5 hSC i0 i1 hn hm
    exact absurd hn (by decide)
  | succ n ih_X3_weighGoose_3 =>
    intro h x5 hSC i0 i1 hn hm
    rw [f_X3_weighGoose_3_s]
    refine ok_if (fun c1 => ?_) (fun c1 => ?_)
    · exact ok_some ⟨hSC, trivial⟩
    · refine ok_ob1 (u_X1_lookAtFilled h x3 x4 x5 (hSC).1) (fun h2 k2 => ?_)
      have s2 : SC h0 h2 := SC_trans (b := h) hSC k2.1
      refine ok_ob2 (u_X1_rule h2 3 (s2).1) (fun r3 h3 k3 => ?_)
      have s3 : SC h0 h3 := SC_trans (b := h2) s2 k3.1
      refine ok_if (fun c4 => ?_) (fun c4 => ?_)
      · unfold f_X3_weighGoose_33
        refine ok_ob1 (u_X3_cell x3 x5 4) (fun r5 k5 => ?_)
        subst k5
        refine ok_chk (by have := i0; have := i1; have := hm; have := gi_of_nle c1; have : (3 : Int32).toInt = 3 := rfl; have : (4 : Int32).toInt = 4 := rfl; have : (5 : Int32).toInt = 5 := rfl; have := fb_rng (x5); have := fb_rng (x3); (try have := fb_mulK (x := x3) (y := 3) (k := 3) rfl (by omega) (by omega)); (try have := fb_addI (x := (x3 * 3)) (y := x5) (by omega) (by omega)); (try have := fb_mulK (x := ((x3 * 3) + x5)) (y := 5) (k := 5) rfl (by omega) (by omega)); (try have := fb_addI (x := (((x3 * 3) + x5) * 5)) (y := 4) (by omega) (by omega)); omega) ?_
        refine ok_chk (by have := i0; have := i1; have := hm; have := gi_of_nle c1; have : (3 : Int32).toInt = 3 := rfl; have : (4 : Int32).toInt = 4 := rfl; have : (5 : Int32).toInt = 5 := rfl; have := fb_rng (x5); have := fb_rng (x3); (try have := fb_mulK (x := x3) (y := 3) (k := 3) rfl (by omega) (by omega)); (try have := fb_addI (x := (x3 * 3)) (y := x5) (by omega) (by omega)); (try have := fb_mulK (x := ((x3 * 3) + x5)) (y := 5) (k := 5) rfl (by omega) (by omega)); (try have := fb_addI (x := (((x3 * 3) + x5) * 5)) (y := 4) (by omega) (by omega)); omega) ?_
        exact u_X3_weighGoose_64 (h0 := h0) x3 x4 x5 0 ((((x3 * 3) + x5) * 5) + 4) (fun h_9 s_9 => ih_X3_weighGoose_3 h_9 (x5 + 1) s_9 (by have := i0; have := i1; have := hm; have := gi_of_nle c1; have : (1 : Int32).toInt = 1 := rfl; have : (3 : Int32).toInt = 3 := rfl; have := fb_rng (x5); (try have := fb_addI (x := x5) (y := 1) (by omega) (by omega)); omega) (by have := i0; have := i1; have := hm; have := fb_rng (x3); omega) (by have := i0; have := i1; have := hm; have := gi_of_nle c1; have : (1 : Int32).toInt = 1 := rfl; have : (3 : Int32).toInt = 3 := rfl; have := fb_rng (x5); (try have := fb_addI (x := x5) (y := 1) (by omega) (by omega)); omega) (by have := i0; have := i1; have := hm; have := gi_of_nle c1; have : (1 : Int32).toInt = 1 := rfl; have : (3 : Int32).toInt = 3 := rfl; have := fb_rng (x5); (try have := fb_addI (x := x5) (y := 1) (by omega) (by omega)); omega)) 8589934592 (sA (sA h3 8 0 (upd (eA h3 8 0) ((((((x3 * 3) + x5) * 5) + 4)).toNatClampNeg) 0)) 8 1 (upd (eA h3 8 1) ((((((x3 * 3) + x5) * 5) + 4)).toNatClampNeg) 100)) 0 s3 (by have := i0; have := i1; have := hm; have : (0 : Int32).toInt = 0 := rfl; omega) (by have := i0; have := i1; have := hm; have := gi_of_nle c1; have : (3 : Int32).toInt = 3 := rfl; have : (4 : Int32).toInt = 4 := rfl; have : (5 : Int32).toInt = 5 := rfl; have := fb_rng (x5); have := fb_rng (x3); (try have := fb_mulK (x := x3) (y := 3) (k := 3) rfl (by omega) (by omega)); (try have := fb_addI (x := (x3 * 3)) (y := x5) (by omega) (by omega)); (try have := fb_mulK (x := ((x3 * 3) + x5)) (y := 5) (k := 5) rfl (by omega) (by omega)); (try have := fb_addI (x := (((x3 * 3) + x5) * 5)) (y := 4) (by omega) (by omega)); omega) (by have := i0; have := i1; have := hm; have := fb_rng (x3); omega) (by have := i0; have := i1; have := hm; have := gi_of_nle c1; have : (3 : Int32).toInt = 3 := rfl; have := fb_rng (x5); omega) (by decide) (by have := i0; have := i1; have := hm; have : (0 : Int32).toInt = 0 := rfl; omega)
      · unfold f_X3_weighGoose_33
        refine ok_ob1 (u_X3_cell x3 x5 4) (fun r8 k8 => ?_)
        subst k8
        refine ok_chk (by have := i0; have := i1; have := hm; have := gi_of_nle c1; have : (3 : Int32).toInt = 3 := rfl; have : (4 : Int32).toInt = 4 := rfl; have : (5 : Int32).toInt = 5 := rfl; have := fb_rng (x5); have := fb_rng (x3); (try have := fb_mulK (x := x3) (y := 3) (k := 3) rfl (by omega) (by omega)); (try have := fb_addI (x := (x3 * 3)) (y := x5) (by omega) (by omega)); (try have := fb_mulK (x := ((x3 * 3) + x5)) (y := 5) (k := 5) rfl (by omega) (by omega)); (try have := fb_addI (x := (((x3 * 3) + x5) * 5)) (y := 4) (by omega) (by omega)); omega) ?_
        refine ok_chk (by have := i0; have := i1; have := hm; have := gi_of_nle c1; have : (3 : Int32).toInt = 3 := rfl; have : (4 : Int32).toInt = 4 := rfl; have : (5 : Int32).toInt = 5 := rfl; have := fb_rng (x5); have := fb_rng (x3); (try have := fb_mulK (x := x3) (y := 3) (k := 3) rfl (by omega) (by omega)); (try have := fb_addI (x := (x3 * 3)) (y := x5) (by omega) (by omega)); (try have := fb_mulK (x := ((x3 * 3) + x5)) (y := 5) (k := 5) rfl (by omega) (by omega)); (try have := fb_addI (x := (((x3 * 3) + x5) * 5)) (y := 4) (by omega) (by omega)); omega) ?_
        exact u_X3_weighGoose_64 (h0 := h0) x3 x4 x5 1 ((((x3 * 3) + x5) * 5) + 4) (fun h_9 s_9 => ih_X3_weighGoose_3 h_9 (x5 + 1) s_9 (by have := i0; have := i1; have := hm; have := gi_of_nle c1; have : (1 : Int32).toInt = 1 := rfl; have : (3 : Int32).toInt = 3 := rfl; have := fb_rng (x5); (try have := fb_addI (x := x5) (y := 1) (by omega) (by omega)); omega) (by have := i0; have := i1; have := hm; have := fb_rng (x3); omega) (by have := i0; have := i1; have := hm; have := gi_of_nle c1; have : (1 : Int32).toInt = 1 := rfl; have : (3 : Int32).toInt = 3 := rfl; have := fb_rng (x5); (try have := fb_addI (x := x5) (y := 1) (by omega) (by omega)); omega) (by have := i0; have := i1; have := hm; have := gi_of_nle c1; have : (1 : Int32).toInt = 1 := rfl; have : (3 : Int32).toInt = 3 := rfl; have := fb_rng (x5); (try have := fb_addI (x := x5) (y := 1) (by omega) (by omega)); omega)) 8589934592 (sA (sA h3 8 0 (upd (eA h3 8 0) ((((((x3 * 3) + x5) * 5) + 4)).toNatClampNeg) 0)) 8 1 (upd (eA h3 8 1) ((((((x3 * 3) + x5) * 5) + 4)).toNatClampNeg) 100)) 0 s3 (by have := i0; have := i1; have := hm; have : (0 : Int32).toInt = 0 := rfl; omega) (by have := i0; have := i1; have := hm; have := gi_of_nle c1; have : (3 : Int32).toInt = 3 := rfl; have : (4 : Int32).toInt = 4 := rfl; have : (5 : Int32).toInt = 5 := rfl; have := fb_rng (x5); have := fb_rng (x3); (try have := fb_mulK (x := x3) (y := 3) (k := 3) rfl (by omega) (by omega)); (try have := fb_addI (x := (x3 * 3)) (y := x5) (by omega) (by omega)); (try have := fb_mulK (x := ((x3 * 3) + x5)) (y := 5) (k := 5) rfl (by omega) (by omega)); (try have := fb_addI (x := (((x3 * 3) + x5) * 5)) (y := 4) (by omega) (by omega)); omega) (by have := i0; have := i1; have := hm; have := fb_rng (x3); omega) (by have := i0; have := i1; have := hm; have := gi_of_nle c1; have : (3 : Int32).toInt = 3 := rfl; have := fb_rng (x5); omega) (by decide) (by have := i0; have := i1; have := hm; have : (0 : Int32).toInt = 0 := rfl; omega)
theorem u_X3_weighGoose (h : HS) (p1 : Int32) (p2 : Int32) (hI : IC h) (w0 : 0 ≤ p1.toInt ∧ p1.toInt < 10) : ok (f_X3_weighGoose h p1 p2) (fun a => SC h a ∧ True) := by
  unfold f_X3_weighGoose
  exact u_X3_weighGoose_3 (h0 := h) p1 p2 8589934592 h 0 (SC_refl hI) (by have := w0; have : (0 : Int32).toInt = 0 := rfl; omega) (by have := w0; have := fb_rng (p1); omega) (by decide) (by have := w0; have : (0 : Int32).toInt = 0 := rfl; omega)
theorem u_X3_fewest_98 {h0 : HS} : ∀ (n : Nat) (h : HS) (x5 : Int32), SC h0 h → 0 ≤ x5.toInt → 0 < n → (4 - x5.toInt : Int) < (n : Int) → ok (f_X3_fewest_98  n h x5) (fun a => SC h0 a.2 ∧ True) := by
  intro n
  induction n with
  | zero =>
    intro h x5 hSC i0 hn hm
    exact absurd hn (by decide)
  | succ n ih_X3_fewest_98 =>
    intro h x5 hSC i0 hn hm
    rw [f_X3_fewest_98_s]
    refine ok_if (fun c1 => ?_) (fun c1 => ?_)
    · exact ok_some ⟨hSC, trivial⟩
    · refine ok_ob1 (u_G_tryGeese 6 (sL (sI h 8 8 x5) 8 9 ((eL h 8 9) * 100)) 0 0 ((st_8_8 (c := h) (x := x5) hSC (by have := i0; have := hm; have := gi_of_nlt c1; have : (3 : Int32).toInt = 3 := rfl; have := fb_rng (x5); omega) (by have := i0; have := hm; have := gi_of_nlt c1; have : (3 : Int32).toInt = 3 := rfl; have := fb_rng (x5); omega))).1 (by have := i0; have := hm; have : (0 : Int32).toInt = 0 := rfl; omega) (by have := i0; have := hm; have : (0 : Int32).toInt = 0 := rfl; omega) (by have := i0; have := hm; have : (0 : Int32).toInt = 0 := rfl; omega)) (fun h2 k2 => ?_)
      have s2 : SC h0 h2 := SC_trans (b := (sL (sI h 8 8 x5) 8 9 ((eL h 8 9) * 100))) (st_8_8 (c := h) (x := x5) hSC (by have := i0; have := hm; have := gi_of_nlt c1; have : (3 : Int32).toInt = 3 := rfl; have := fb_rng (x5); omega) (by have := i0; have := hm; have := gi_of_nlt c1; have : (3 : Int32).toInt = 3 := rfl; have := fb_rng (x5); omega)) k2.1
      refine ok_if (fun c3 => ?_) (fun c3 => ?_)
      · exact ih_X3_fewest_98 h2 (x5 + 1) s2 (by have := i0; have := hm; have := gi_of_nlt c1; have : (1 : Int32).toInt = 1 := rfl; have : (3 : Int32).toInt = 3 := rfl; have := fb_rng (x5); (try have := fb_addI (x := x5) (y := 1) (by omega) (by omega)); omega) (by have := i0; have := hm; have := gi_of_nlt c1; have : (1 : Int32).toInt = 1 := rfl; have : (3 : Int32).toInt = 3 := rfl; have := fb_rng (x5); (try have := fb_addI (x := x5) (y := 1) (by omega) (by omega)); omega) (by have := i0; have := hm; have := gi_of_nlt c1; have : (1 : Int32).toInt = 1 := rfl; have : (3 : Int32).toInt = 3 := rfl; have := fb_rng (x5); (try have := fb_addI (x := x5) (y := 1) (by omega) (by omega)); omega)
      · exact ok_some ⟨s2, trivial⟩
theorem u_X3_fewest_31 {h0 : HS} (x3 : Int32) : ∀ (n : Nat) (h : HS) (x5 : Int32), SC h0 h → 0 ≤ x5.toInt → 0 < n → (10 - (x5).toInt : Int) < (n : Int) → ok (f_X3_fewest_31  n h x3 x5) (fun a => SC h0 a.2 ∧ True) := by
  intro n
  induction n with
  | zero =>
    intro h x5 hSC i0 hn hm
    exact absurd hn (by decide)
  | succ n ih_X3_fewest_31 =>
    intro h x5 hSC i0 hn hm
    rw [f_X3_fewest_31_s]
    refine ok_if (fun c1 => ?_) (fun c1 => ?_)
    · exact u_X3_fewest_98 (h0 := h0) 8589934592 h 1 hSC (by have := i0; have := hm; have : (1 : Int32).toInt = 1 := rfl; omega) (by decide) (by have := i0; have := hm; have : (1 : Int32).toInt = 1 := rfl; omega)
    · refine ok_ob2 (u_X4_isFree h x5 (hSC).1) (fun r2 h2 k2 => ?_)
      have e2 : h = h2 := k2.1.symm
      subst e2
      refine ok_if (fun c3 => ?_) (fun c3 => ?_)
      · unfold f_X3_fewest_68
        unfold f_X3_fewest_69
        refine ok_chk (by have := i0; have := hm; have := gi_of_nle c1; have : (10 : Int32).toInt = 10 := rfl; have := fb_rng (x5); omega) ?_
        refine ok_chk (by have := i0; have := hm; have := gi_of_nle c1; have : (10 : Int32).toInt = 10 := rfl; have := fb_rng (x5); omega) ?_
        refine ok_if (fun c6 => ?_) (fun c6 => ?_)
        · unfold f_X3_fewest_89
          exact ih_X3_fewest_31 (sA h 8 2 (upd (eA h 8 2) ((x5).toNatClampNeg) (vp_nar .boolean 0))) (x5 + 1) hSC (by have := i0; have := hm; have := gi_of_nle c1; have := gi_of_eq c6; have : (0 : Int32).toInt = 0 := rfl; have : (1 : Int32).toInt = 1 := rfl; have : (10 : Int32).toInt = 10 := rfl; have := fb_rng (x5); have := fb_rng ((upd (eA h 8 2) ((x5).toNatClampNeg) (vp_nar .boolean 0)) ((x5).toNatClampNeg)); (try have := fb_addI (x := x5) (y := 1) (by omega) (by omega)); omega) (by have := i0; have := hm; have := gi_of_nle c1; have := gi_of_eq c6; have : (0 : Int32).toInt = 0 := rfl; have : (1 : Int32).toInt = 1 := rfl; have : (10 : Int32).toInt = 10 := rfl; have := fb_rng (x5); have := fb_rng ((upd (eA h 8 2) ((x5).toNatClampNeg) (vp_nar .boolean 0)) ((x5).toNatClampNeg)); (try have := fb_addI (x := x5) (y := 1) (by omega) (by omega)); omega) (by have := i0; have := hm; have := gi_of_nle c1; have := gi_of_eq c6; have : (0 : Int32).toInt = 0 := rfl; have : (1 : Int32).toInt = 1 := rfl; have : (10 : Int32).toInt = 10 := rfl; have := fb_rng (x5); have := fb_rng ((upd (eA h 8 2) ((x5).toNatClampNeg) (vp_nar .boolean 0)) ((x5).toNatClampNeg)); (try have := fb_addI (x := x5) (y := 1) (by omega) (by omega)); omega)
        · refine ok_ob1 (u_X3_weighGoose (sA h 8 2 (upd (eA h 8 2) ((x5).toNatClampNeg) (vp_nar .boolean 0))) x5 x3 (hSC).1 (by have := i0; have := hm; have := gi_of_nle c1; have := gi_of_ne c6; have : (0 : Int32).toInt = 0 := rfl; have : (10 : Int32).toInt = 10 := rfl; have := fb_rng (x5); have := fb_rng ((upd (eA h 8 2) ((x5).toNatClampNeg) (vp_nar .boolean 0)) ((x5).toNatClampNeg)); omega)) (fun h7 k7 => ?_)
          have s7 : SC h0 h7 := SC_trans (b := (sA h 8 2 (upd (eA h 8 2) ((x5).toNatClampNeg) (vp_nar .boolean 0)))) hSC k7.1
          unfold f_X3_fewest_89
          exact ih_X3_fewest_31 h7 (x5 + 1) s7 (by have := i0; have := hm; have := gi_of_nle c1; have := gi_of_ne c6; have : (0 : Int32).toInt = 0 := rfl; have : (1 : Int32).toInt = 1 := rfl; have : (10 : Int32).toInt = 10 := rfl; have := fb_rng (x5); have := fb_rng ((upd (eA h 8 2) ((x5).toNatClampNeg) (vp_nar .boolean 0)) ((x5).toNatClampNeg)); (try have := fb_addI (x := x5) (y := 1) (by omega) (by omega)); omega) (by have := i0; have := hm; have := gi_of_nle c1; have := gi_of_ne c6; have : (0 : Int32).toInt = 0 := rfl; have : (1 : Int32).toInt = 1 := rfl; have : (10 : Int32).toInt = 10 := rfl; have := fb_rng (x5); have := fb_rng ((upd (eA h 8 2) ((x5).toNatClampNeg) (vp_nar .boolean 0)) ((x5).toNatClampNeg)); (try have := fb_addI (x := x5) (y := 1) (by omega) (by omega)); omega) (by have := i0; have := hm; have := gi_of_nle c1; have := gi_of_ne c6; have : (0 : Int32).toInt = 0 := rfl; have : (1 : Int32).toInt = 1 := rfl; have : (10 : Int32).toInt = 10 := rfl; have := fb_rng (x5); have := fb_rng ((upd (eA h 8 2) ((x5).toNatClampNeg) (vp_nar .boolean 0)) ((x5).toNatClampNeg)); (try have := fb_addI (x := x5) (y := 1) (by omega) (by omega)); omega)
      · refine ok_ob2 (u_X4_ofGoose h x5 2 (hSC).1) (fun r8 h8 k8 => ?_)
        have e8 : h = h8 := k8.1.symm
        subst e8
        refine ok_if (fun c9 => ?_) (fun c9 => ?_)
        · unfold f_X3_fewest_69
          refine ok_chk (by have := i0; have := hm; have := gi_of_nle c1; have : (10 : Int32).toInt = 10 := rfl; have := fb_rng (x5); omega) ?_
          refine ok_chk (by have := i0; have := hm; have := gi_of_nle c1; have : (10 : Int32).toInt = 10 := rfl; have := fb_rng (x5); omega) ?_
          refine ok_if (fun c12 => ?_) (fun c12 => ?_)
          · unfold f_X3_fewest_89
            exact ih_X3_fewest_31 (sA h 8 2 (upd (eA h 8 2) ((x5).toNatClampNeg) (vp_nar .boolean 1))) (x5 + 1) hSC (by have := i0; have := hm; have := gi_of_nle c1; have := gi_of_eq c12; have : (0 : Int32).toInt = 0 := rfl; have : (1 : Int32).toInt = 1 := rfl; have : (10 : Int32).toInt = 10 := rfl; have := fb_rng (x5); have := fb_rng ((upd (eA h 8 2) ((x5).toNatClampNeg) (vp_nar .boolean 1)) ((x5).toNatClampNeg)); (try have := fb_addI (x := x5) (y := 1) (by omega) (by omega)); omega) (by have := i0; have := hm; have := gi_of_nle c1; have := gi_of_eq c12; have : (0 : Int32).toInt = 0 := rfl; have : (1 : Int32).toInt = 1 := rfl; have : (10 : Int32).toInt = 10 := rfl; have := fb_rng (x5); have := fb_rng ((upd (eA h 8 2) ((x5).toNatClampNeg) (vp_nar .boolean 1)) ((x5).toNatClampNeg)); (try have := fb_addI (x := x5) (y := 1) (by omega) (by omega)); omega) (by have := i0; have := hm; have := gi_of_nle c1; have := gi_of_eq c12; have : (0 : Int32).toInt = 0 := rfl; have : (1 : Int32).toInt = 1 := rfl; have : (10 : Int32).toInt = 10 := rfl; have := fb_rng (x5); have := fb_rng ((upd (eA h 8 2) ((x5).toNatClampNeg) (vp_nar .boolean 1)) ((x5).toNatClampNeg)); (try have := fb_addI (x := x5) (y := 1) (by omega) (by omega)); omega)
          · refine ok_ob1 (u_X3_weighGoose (sA h 8 2 (upd (eA h 8 2) ((x5).toNatClampNeg) (vp_nar .boolean 1))) x5 x3 (hSC).1 (by have := i0; have := hm; have := gi_of_nle c1; have := gi_of_ne c12; have : (0 : Int32).toInt = 0 := rfl; have : (10 : Int32).toInt = 10 := rfl; have := fb_rng (x5); have := fb_rng ((upd (eA h 8 2) ((x5).toNatClampNeg) (vp_nar .boolean 1)) ((x5).toNatClampNeg)); omega)) (fun h13 k13 => ?_)
            have s13 : SC h0 h13 := SC_trans (b := (sA h 8 2 (upd (eA h 8 2) ((x5).toNatClampNeg) (vp_nar .boolean 1)))) hSC k13.1
            unfold f_X3_fewest_89
            exact ih_X3_fewest_31 h13 (x5 + 1) s13 (by have := i0; have := hm; have := gi_of_nle c1; have := gi_of_ne c12; have : (0 : Int32).toInt = 0 := rfl; have : (1 : Int32).toInt = 1 := rfl; have : (10 : Int32).toInt = 10 := rfl; have := fb_rng (x5); have := fb_rng ((upd (eA h 8 2) ((x5).toNatClampNeg) (vp_nar .boolean 1)) ((x5).toNatClampNeg)); (try have := fb_addI (x := x5) (y := 1) (by omega) (by omega)); omega) (by have := i0; have := hm; have := gi_of_nle c1; have := gi_of_ne c12; have : (0 : Int32).toInt = 0 := rfl; have : (1 : Int32).toInt = 1 := rfl; have : (10 : Int32).toInt = 10 := rfl; have := fb_rng (x5); have := fb_rng ((upd (eA h 8 2) ((x5).toNatClampNeg) (vp_nar .boolean 1)) ((x5).toNatClampNeg)); (try have := fb_addI (x := x5) (y := 1) (by omega) (by omega)); omega) (by have := i0; have := hm; have := gi_of_nle c1; have := gi_of_ne c12; have : (0 : Int32).toInt = 0 := rfl; have : (1 : Int32).toInt = 1 := rfl; have : (10 : Int32).toInt = 10 := rfl; have := fb_rng (x5); have := fb_rng ((upd (eA h 8 2) ((x5).toNatClampNeg) (vp_nar .boolean 1)) ((x5).toNatClampNeg)); (try have := fb_addI (x := x5) (y := 1) (by omega) (by omega)); omega)
        · unfold f_X3_fewest_68
          unfold f_X3_fewest_69
          refine ok_chk (by have := i0; have := hm; have := gi_of_nle c1; have : (10 : Int32).toInt = 10 := rfl; have := fb_rng (x5); omega) ?_
          refine ok_chk (by have := i0; have := hm; have := gi_of_nle c1; have : (10 : Int32).toInt = 10 := rfl; have := fb_rng (x5); omega) ?_
          refine ok_if (fun c16 => ?_) (fun c16 => ?_)
          · unfold f_X3_fewest_89
            exact ih_X3_fewest_31 (sA h 8 2 (upd (eA h 8 2) ((x5).toNatClampNeg) (vp_nar .boolean 0))) (x5 + 1) hSC (by have := i0; have := hm; have := gi_of_nle c1; have := gi_of_eq c16; have : (0 : Int32).toInt = 0 := rfl; have : (1 : Int32).toInt = 1 := rfl; have : (10 : Int32).toInt = 10 := rfl; have := fb_rng (x5); have := fb_rng ((upd (eA h 8 2) ((x5).toNatClampNeg) (vp_nar .boolean 0)) ((x5).toNatClampNeg)); (try have := fb_addI (x := x5) (y := 1) (by omega) (by omega)); omega) (by have := i0; have := hm; have := gi_of_nle c1; have := gi_of_eq c16; have : (0 : Int32).toInt = 0 := rfl; have : (1 : Int32).toInt = 1 := rfl; have : (10 : Int32).toInt = 10 := rfl; have := fb_rng (x5); have := fb_rng ((upd (eA h 8 2) ((x5).toNatClampNeg) (vp_nar .boolean 0)) ((x5).toNatClampNeg)); (try have := fb_addI (x := x5) (y := 1) (by omega) (by omega)); omega) (by have := i0; have := hm; have := gi_of_nle c1; have := gi_of_eq c16; have : (0 : Int32).toInt = 0 := rfl; have : (1 : Int32).toInt = 1 := rfl; have : (10 : Int32).toInt = 10 := rfl; have := fb_rng (x5); have := fb_rng ((upd (eA h 8 2) ((x5).toNatClampNeg) (vp_nar .boolean 0)) ((x5).toNatClampNeg)); (try have := fb_addI (x := x5) (y := 1) (by omega) (by omega)); omega)
          · refine ok_ob1 (u_X3_weighGoose (sA h 8 2 (upd (eA h 8 2) ((x5).toNatClampNeg) (vp_nar .boolean 0))) x5 x3 (hSC).1 (by have := i0; have := hm; have := gi_of_nle c1; have := gi_of_ne c16; have : (0 : Int32).toInt = 0 := rfl; have : (10 : Int32).toInt = 10 := rfl; have := fb_rng (x5); have := fb_rng ((upd (eA h 8 2) ((x5).toNatClampNeg) (vp_nar .boolean 0)) ((x5).toNatClampNeg)); omega)) (fun h17 k17 => ?_)
            have s17 : SC h0 h17 := SC_trans (b := (sA h 8 2 (upd (eA h 8 2) ((x5).toNatClampNeg) (vp_nar .boolean 0)))) hSC k17.1
            unfold f_X3_fewest_89
            exact ih_X3_fewest_31 h17 (x5 + 1) s17 (by have := i0; have := hm; have := gi_of_nle c1; have := gi_of_ne c16; have : (0 : Int32).toInt = 0 := rfl; have : (1 : Int32).toInt = 1 := rfl; have : (10 : Int32).toInt = 10 := rfl; have := fb_rng (x5); have := fb_rng ((upd (eA h 8 2) ((x5).toNatClampNeg) (vp_nar .boolean 0)) ((x5).toNatClampNeg)); (try have := fb_addI (x := x5) (y := 1) (by omega) (by omega)); omega) (by have := i0; have := hm; have := gi_of_nle c1; have := gi_of_ne c16; have : (0 : Int32).toInt = 0 := rfl; have : (1 : Int32).toInt = 1 := rfl; have : (10 : Int32).toInt = 10 := rfl; have := fb_rng (x5); have := fb_rng ((upd (eA h 8 2) ((x5).toNatClampNeg) (vp_nar .boolean 0)) ((x5).toNatClampNeg)); (try have := fb_addI (x := x5) (y := 1) (by omega) (by omega)); omega) (by have := i0; have := hm; have := gi_of_nle c1; have := gi_of_ne c16; have : (0 : Int32).toInt = 0 := rfl; have : (1 : Int32).toInt = 1 := rfl; have : (10 : Int32).toInt = 10 := rfl; have := fb_rng (x5); have := fb_rng ((upd (eA h 8 2) ((x5).toNatClampNeg) (vp_nar .boolean 0)) ((x5).toNatClampNeg)); (try have := fb_addI (x := x5) (y := 1) (by omega) (by omega)); omega)
theorem u_X3_fewest (h : HS) (p1 : Int32) (p2 : Int32) (hI : IC h) : ok (f_X3_fewest h p1 p2) (fun a => SC h a.2 ∧ True) := by
  unfold f_X3_fewest
  exact u_X3_fewest_31 (h0 := h) p1 8589934592 (sI (sI (sL (sI h 8 10 p2) 8 9 1) 8 12 0) 8 11 (if (eI h 1 4) < 4 then (eI h 1 4) else 4)) 0 (st_8_11 (c := (sI (sL (sI h 8 10 p2) 8 9 1) 8 12 0)) (x := (if (eI h 1 4) < 4 then (eI h 1 4) else 4)) (SC_refl hI) (by have := IC_n (SC_refl hI).1; have : (4 : Int32).toInt = 4 := rfl; have := fb_rng (eI h 1 4); have := fb_itel (x := (eI h 1 4)) (y := 4) (a := (eI h 1 4)) (b := 4); omega)) (by have : (0 : Int32).toInt = 0 := rfl; omega) (by decide) (by have : (0 : Int32).toInt = 0 := rfl; omega)
theorem u_X2_fail (h : HS) (p1 : Int32) (hI : IC h) : ok (f_X2_fail h p1) (fun a => SC h a ∧ True) := by
  unfold f_X2_fail
  refine ok_if (fun c1 => ?_) (fun c1 => ?_)
  · refine ok_ob2 (u_X7_start (sI h 5 0 p1) ((SC_refl hI)).1) (fun r2 h2 k2 => ?_)
    have e2 : (sI h 5 0 p1) = h2 := k2.1.symm
    subst e2
    unfold f_X2_fail_20
    exact ok_some ⟨(SC_refl hI), trivial⟩
  · unfold f_X2_fail_20
    exact ok_some ⟨(SC_refl hI), trivial⟩
theorem u_X2_expect (h : HS) (p1 : Int32) (hI : IC h) : ok (f_X2_expect h p1) (fun a => SC h a ∧ True) := by
  unfold f_X2_expect
  refine ok_if (fun c1 => ?_) (fun c1 => ?_)
  · refine ok_ob2 (u_X7_kind h ((SC_refl hI)).1) (fun r2 h2 k2 => ?_)
    have e2 : h = h2 := k2.1.symm
    subst e2
    refine ok_if (fun c3 => ?_) (fun c3 => ?_)
    · refine ok_ob1 (u_X7_advance h ((SC_refl hI)).1) (fun h4 k4 => ?_)
      have s4 : SC h h4 := SC_trans (b := h) (SC_refl hI) k4.1
      unfold f_X2_expect_29
      exact ok_some ⟨s4, trivial⟩
    · refine ok_ob1 (u_X2_fail h 1 ((SC_refl hI)).1) (fun h5 k5 => ?_)
      have s5 : SC h h5 := SC_trans (b := h) (SC_refl hI) k5.1
      unfold f_X2_expect_29
      exact ok_some ⟨s5, trivial⟩
  · exact ok_some ⟨(SC_refl hI), trivial⟩
theorem u_X2_opens (h : HS) (p1 : Int32) (hI : IC h) : ok (f_X2_opens h p1) (fun a => SC h a.2 ∧ ((a.1).toInt = 0 ∨ (p1).toInt < 8)) := by
  unfold f_X2_opens
  refine ok_if (fun c1 => ?_) (fun c1 => ?_)
  · refine ok_ob1 (u_X7_advance h ((SC_refl hI)).1) (fun h2 k2 => ?_)
    have s2 : SC h h2 := SC_trans (b := h) (SC_refl hI) k2.1
    exact ok_some ⟨s2, (show (((1 : Int32)).toInt = 0 ∨ (p1).toInt < 8) from by have := gi_of_lt c1; have : (1 : Int32).toInt = 1 := rfl; have : (8 : Int32).toInt = 8 := rfl; have := fb_rng (p1); omega)⟩
  · refine ok_ob1 (u_X2_fail h 3 ((SC_refl hI)).1) (fun h3 k3 => ?_)
    have s3 : SC h h3 := SC_trans (b := h) (SC_refl hI) k3.1
    exact ok_some ⟨s3, (show (((0 : Int32)).toInt = 0 ∨ (p1).toInt < 8) from by have := gi_of_nlt c1; have : (0 : Int32).toInt = 0 := rfl; have : (8 : Int32).toInt = 8 := rfl; have := fb_rng (p1); omega)⟩
theorem u_X2_readValue_0 (h : HS) (hI : IC h) : ok (f_X2_readValue_0 h) (fun a => SC h a ∧ True) := by
  unfold f_X2_readValue_0
  refine ok_ob2 (u_X7_value h ((SC_refl hI)).1) (fun r1 h1 k1 => ?_)
  have e1 : h = h1 := k1.1.symm
  subst e1
  refine ok_if (fun c2 => ?_) (fun c2 => ?_)
  · refine ok_ob2 (u_X7_value h ((SC_refl hI)).1) (fun r3 h3 k3 => ?_)
    have e3 : h = h3 := k3.1.symm
    subst e3
    refine ok_ob1 (u_X6_addStep_0 h r3 ((SC_refl hI)).1) (fun h4 k4 => ?_)
    have s4 : SC h h4 := SC_trans (b := h) (SC_refl hI) k4.1
    refine ok_ob1 (u_X7_advance h4 (s4).1) (fun h5 k5 => ?_)
    have s5 : SC h h5 := SC_trans (b := h4) s4 k5.1
    exact ok_some ⟨s5, trivial⟩
  · refine ok_ob1 (u_X2_fail h 2 ((SC_refl hI)).1) (fun h6 k6 => ?_)
    have s6 : SC h h6 := SC_trans (b := h) (SC_refl hI) k6.1
    exact ok_some ⟨s6, trivial⟩
theorem u_X2_readName_0 (h : HS) (hI : IC h) : ok (f_X2_readName_0 h) (fun a => SC h a ∧ True) := by
  unfold f_X2_readName_0
  refine ok_ob2 (u_X7_kind h ((SC_refl hI)).1) (fun r1 h1 k1 => ?_)
  have e1 : h = h1 := k1.1.symm
  subst e1
  refine ok_if (fun c2 => ?_) (fun c2 => ?_)
  · unfold f_X2_readName_0_31
    refine ok_ob2 (u_X7_kind h ((SC_refl hI)).1) (fun r3 h3 k3 => ?_)
    have e3 : h = h3 := k3.1.symm
    subst e3
    refine ok_ob1 (u_X6_addStep_0 h ((10000 + r3) - 29) ((SC_refl hI)).1) (fun h4 k4 => ?_)
    have s4 : SC h h4 := SC_trans (b := h) (SC_refl hI) k4.1
    refine ok_ob1 (u_X7_advance h4 (s4).1) (fun h5 k5 => ?_)
    have s5 : SC h h5 := SC_trans (b := h4) s4 k5.1
    exact ok_some ⟨s5, trivial⟩
  · refine ok_if (fun c6 => ?_) (fun c6 => ?_)
    · unfold f_X2_readName_0_31
      refine ok_ob2 (u_X7_kind h ((SC_refl hI)).1) (fun r7 h7 k7 => ?_)
      have e7 : h = h7 := k7.1.symm
      subst e7
      refine ok_ob1 (u_X6_addStep_0 h ((10000 + r7) - 29) ((SC_refl hI)).1) (fun h8 k8 => ?_)
      have s8 : SC h h8 := SC_trans (b := h) (SC_refl hI) k8.1
      refine ok_ob1 (u_X7_advance h8 (s8).1) (fun h9 k9 => ?_)
      have s9 : SC h h9 := SC_trans (b := h8) s8 k9.1
      exact ok_some ⟨s9, trivial⟩
    · refine ok_if (fun c10 => ?_) (fun c10 => ?_)
      · unfold f_X2_readName_0_31
        refine ok_ob2 (u_X7_kind h ((SC_refl hI)).1) (fun r11 h11 k11 => ?_)
        have e11 : h = h11 := k11.1.symm
        subst e11
        refine ok_ob1 (u_X6_addStep_0 h ((10000 + r11) - 29) ((SC_refl hI)).1) (fun h12 k12 => ?_)
        have s12 : SC h h12 := SC_trans (b := h) (SC_refl hI) k12.1
        refine ok_ob1 (u_X7_advance h12 (s12).1) (fun h13 k13 => ?_)
        have s13 : SC h h13 := SC_trans (b := h12) s12 k13.1
        exact ok_some ⟨s13, trivial⟩
      · refine ok_ob1 (u_X2_fail h 5 ((SC_refl hI)).1) (fun h14 k14 => ?_)
        have s14 : SC h h14 := SC_trans (b := h) (SC_refl hI) k14.1
        exact ok_some ⟨s14, trivial⟩
theorem u_X2_readNumber_0 (h : HS) (p1 : Int32) (p2 : Int32) (p3 : Int32) (hI : IC h) : ok (f_X2_readNumber_0 h p1 p2 p3) (fun a => SC h a ∧ True) := by
  unfold f_X2_readNumber_0
  refine ok_if (fun c1 => ?_) (fun c1 => ?_)
  · refine ok_ob2 (u_X7_kind h ((SC_refl hI)).1) (fun r2 h2 k2 => ?_)
    have e2 : h = h2 := k2.1.symm
    subst e2
    refine ok_if (fun c3 => ?_) (fun c3 => ?_)
    · refine ok_ob2 (u_X7_value h ((SC_refl hI)).1) (fun r4 h4 k4 => ?_)
      have e4 : h = h4 := k4.1.symm
      subst e4
      refine ok_if (fun c5 => ?_) (fun c5 => ?_)
      · unfold f_X2_readNumber_0_43
        refine ok_ob1 (u_X2_fail h 2 ((SC_refl hI)).1) (fun h6 k6 => ?_)
        have s6 : SC h h6 := SC_trans (b := h) (SC_refl hI) k6.1
        unfold f_X2_readNumber_0_69
        exact ok_some ⟨s6, trivial⟩
      · refine ok_ob2 (u_X7_value h ((SC_refl hI)).1) (fun r7 h7 k7 => ?_)
        have e7 : h = h7 := k7.1.symm
        subst e7
        refine ok_if (fun c8 => ?_) (fun c8 => ?_)
        · refine ok_ob2 (u_X7_value h ((SC_refl hI)).1) (fun r9 h9 k9 => ?_)
          have e9 : h = h9 := k9.1.symm
          subst e9
          refine ok_ob1 (u_X6_setClause_0 h (eI h 9 1) p1 r9 ((SC_refl hI)).1) (fun h10 k10 => ?_)
          have s10 : SC h h10 := SC_trans (b := h) (SC_refl hI) k10.1
          refine ok_ob1 (u_X7_advance h10 (s10).1) (fun h11 k11 => ?_)
          have s11 : SC h h11 := SC_trans (b := h10) s10 k11.1
          unfold f_X2_readNumber_0_69
          exact ok_some ⟨s11, trivial⟩
        · unfold f_X2_readNumber_0_43
          refine ok_ob1 (u_X2_fail h 2 ((SC_refl hI)).1) (fun h12 k12 => ?_)
          have s12 : SC h h12 := SC_trans (b := h) (SC_refl hI) k12.1
          unfold f_X2_readNumber_0_69
          exact ok_some ⟨s12, trivial⟩
    · refine ok_ob1 (u_X2_fail h 1 ((SC_refl hI)).1) (fun h13 k13 => ?_)
      have s13 : SC h h13 := SC_trans (b := h) (SC_refl hI) k13.1
      unfold f_X2_readNumber_0_69
      exact ok_some ⟨s13, trivial⟩
  · exact ok_some ⟨(SC_refl hI), trivial⟩
theorem u_X2_readDeed_0 (h : HS) (p1 : Int32) (hI : IC h) : ok (f_X2_readDeed_0 h p1) (fun a => SC h a ∧ True) := by
  unfold f_X2_readDeed_0
  refine ok_if (fun c1 => ?_) (fun c1 => ?_)
  · refine ok_ob1 (u_X2_readNumber_0 h 1 1 99 ((SC_refl hI)).1) (fun h2 k2 => ?_)
    have s2 : SC h h2 := SC_trans (b := h) (SC_refl hI) k2.1
    exact ok_some ⟨s2, trivial⟩
  · refine ok_ob1 (u_X2_readNumber_0 h 1 0 9 ((SC_refl hI)).1) (fun h3 k3 => ?_)
    have s3 : SC h h3 := SC_trans (b := h) (SC_refl hI) k3.1
    refine ok_if (fun c4 => ?_) (fun c4 => ?_)
    · refine ok_ob1 (u_X2_expect h3 24 (s3).1) (fun h5 k5 => ?_)
      have s5 : SC h h5 := SC_trans (b := h3) s3 k5.1
      refine ok_ob1 (u_X2_readNumber_0 h5 2 0 5 (s5).1) (fun h6 k6 => ?_)
      have s6 : SC h h6 := SC_trans (b := h5) s5 k6.1
      refine ok_ob1 (u_X2_expect h6 33 (s6).1) (fun h7 k7 => ?_)
      have s7 : SC h h7 := SC_trans (b := h6) s6 k7.1
      refine ok_ob1 (u_X2_readNumber_0 h7 3 0 2 (s7).1) (fun h8 k8 => ?_)
      have s8 : SC h h8 := SC_trans (b := h7) s7 k8.1
      unfold f_X2_readDeed_0_90
      exact ok_some ⟨s8, trivial⟩
    · refine ok_if (fun c9 => ?_) (fun c9 => ?_)
      · refine ok_ob1 (u_X2_expect h3 25 (s3).1) (fun h10 k10 => ?_)
        have s10 : SC h h10 := SC_trans (b := h3) s3 k10.1
        refine ok_ob1 (u_X2_readNumber_0 h10 2 0 3 (s10).1) (fun h11 k11 => ?_)
        have s11 : SC h h11 := SC_trans (b := h10) s10 k11.1
        unfold f_X2_readDeed_0_90
        exact ok_some ⟨s11, trivial⟩
      · unfold f_X2_readDeed_0_90
        exact ok_some ⟨s3, trivial⟩
theorem u_X2_readLevel_0_42 {h0 : HS} (x3 : Int32) (x4 : Int32) {kR_X2_readLevel : HS → Int32 → Int32 → Option HS} {kR_X2_readAsk : HS → Int32 → Option HS} {kR_X2_readOne : HS → Int32 → Option HS} (m : Int) (hR_X2_readLevel : ∀ (h : HS) (p1 p2 : Int32), IC h → (0 ≤ p1.toInt ∧ p1.toInt ≤ 5) → (0 ≤ p2.toInt ∧ p2.toInt ≤ 8) → 20 * (8 - p2.toInt) + 22 - 2 * p1.toInt < m → ok (kR_X2_readLevel h p1 p2) (fun a => SC h a ∧ True)) (hR_X2_readAsk : ∀ (h : HS) (p1 : Int32), IC h → (0 ≤ p1.toInt ∧ p1.toInt ≤ 8) → 20 * (8 - p1.toInt) + 17 < m → ok (kR_X2_readAsk h p1) (fun a => SC h a ∧ True)) (hR_X2_readOne : ∀ (h : HS) (p1 : Int32), IC h → (0 ≤ p1.toInt ∧ p1.toInt ≤ 8) → 20 * (8 - p1.toInt) + 5 < m → ok (kR_X2_readOne h p1) (fun a => SC h a ∧ True))   : ∀ (n : Nat) (h : HS) (x5 : Int32), SC h0 h → (0 ≤ x3.toInt ∧ x3.toInt ≤ 4) → (0 ≤ x4.toInt ∧ x4.toInt ≤ 8) → 20 * (8 - x4.toInt) + 22 - 2 * x3.toInt ≤ m → 0 < n → (300 - (x5).toInt : Int) < (n : Int) → ok (f_X2_readLevel_0_42 kR_X2_readLevel kR_X2_readAsk kR_X2_readOne n h x3 x4 x5) (fun a => SC h0 a ∧ True) := by
  intro n
  induction n with
  | zero =>
    intro h x5 hSC i0 i1 i2 hn hm
    exact absurd hn (by decide)
  | succ n ih_X2_readLevel_0_42 =>
    intro h x5 hSC i0 i1 i2 hn hm
    rw [f_X2_readLevel_0_42_s]
    refine ok_if (fun c1 => ?_) (fun c1 => ?_)
    · unfold f_X2_readLevel_0_105
      exact ok_some ⟨hSC, trivial⟩
    · refine ok_if (fun c2 => ?_) (fun c2 => ?_)
      · refine ok_ob2 (u_X7_kind h (hSC).1) (fun r3 h3 k3 => ?_)
        have e3 : h = h3 := k3.1.symm
        subst e3
        refine ok_ob1 (u_X2_levelOf r3) (fun r4 k4 => ?_)
        refine ok_if (fun c5 => ?_) (fun c5 => ?_)
        · refine ok_ob2 (u_X7_kind h (hSC).1) (fun r6 h6 k6 => ?_)
          have e6 : h = h6 := k6.1.symm
          subst e6
          refine ok_ob1 (u_X7_advance h (hSC).1) (fun h7 k7 => ?_)
          have s7 : SC h0 h7 := SC_trans (b := h) hSC k7.1
          refine ok_ob1 (hR_X2_readLevel h7 (x3 + 1) x4 (s7).1 (by have := i0; have := i1; have := i2; have := hm; have := gi_of_nle c1; have := gi_of_eq c5; have : (1 : Int32).toInt = 1 := rfl; have : (300 : Int32).toInt = 300 := rfl; have := fb_rng (x5); have := fb_rng (r4); have := fb_rng (x3); (try have := fb_addI (x := x3) (y := 1) (by omega) (by omega)); have := fb_rng (x4); omega) (by have := i0; have := i1; have := i2; have := hm; have := gi_of_nle c1; have := gi_of_eq c5; have : (1 : Int32).toInt = 1 := rfl; have : (300 : Int32).toInt = 300 := rfl; have := fb_rng (x5); have := fb_rng (r4); have := fb_rng (x3); (try have := fb_addI (x := x3) (y := 1) (by omega) (by omega)); have := fb_rng (x4); omega) (by have := i0; have := i1; have := i2; have := hm; have := gi_of_nle c1; have := gi_of_eq c5; have : (1 : Int32).toInt = 1 := rfl; have : (300 : Int32).toInt = 300 := rfl; have := fb_rng (x5); have := fb_rng (r4); have := fb_rng (x3); (try have := fb_addI (x := x3) (y := 1) (by omega) (by omega)); have := fb_rng (x4); omega)) (fun h8 k8 => ?_)
          have s8 : SC h0 h8 := SC_trans (b := h7) s7 k8.1
          refine ok_ob1 (u_X6_addStep_0 h8 (20000 + r6) (s8).1) (fun h9 k9 => ?_)
          have s9 : SC h0 h9 := SC_trans (b := h8) s8 k9.1
          exact ih_X2_readLevel_0_42 h9 (x5 + 1) s9 (by have := i0; have := i1; have := i2; have := hm; have := gi_of_eq c5; have := fb_rng (r4); have := fb_rng (x3); omega) (by have := i0; have := i1; have := i2; have := hm; have := fb_rng (x4); omega) (by have := i0; have := i1; have := i2; have := hm; have := gi_of_eq c5; have := fb_rng (r4); have := fb_rng (x3); have := fb_rng (x4); omega) (by have := i0; have := i1; have := i2; have := hm; have := gi_of_nle c1; have : (1 : Int32).toInt = 1 := rfl; have : (300 : Int32).toInt = 300 := rfl; have := fb_rng (x5); (try have := fb_addI (x := x5) (y := 1) (by omega) (by omega)); omega) (by have := i0; have := i1; have := i2; have := hm; have := gi_of_nle c1; have : (1 : Int32).toInt = 1 := rfl; have : (300 : Int32).toInt = 300 := rfl; have := fb_rng (x5); (try have := fb_addI (x := x5) (y := 1) (by omega) (by omega)); omega)
        · unfold f_X2_readLevel_0_105
          exact ok_some ⟨hSC, trivial⟩
      · unfold f_X2_readLevel_0_105
        exact ok_some ⟨hSC, trivial⟩
theorem u_X2_readLevel_0_b   {kR_X2_readLevel : HS → Int32 → Int32 → Option HS} {kR_X2_readAsk : HS → Int32 → Option HS} {kR_X2_readOne : HS → Int32 → Option HS} (m : Int) (hR_X2_readLevel : ∀ (h : HS) (p1 p2 : Int32), IC h → (0 ≤ p1.toInt ∧ p1.toInt ≤ 5) → (0 ≤ p2.toInt ∧ p2.toInt ≤ 8) → 20 * (8 - p2.toInt) + 22 - 2 * p1.toInt < m → ok (kR_X2_readLevel h p1 p2) (fun a => SC h a ∧ True)) (hR_X2_readAsk : ∀ (h : HS) (p1 : Int32), IC h → (0 ≤ p1.toInt ∧ p1.toInt ≤ 8) → 20 * (8 - p1.toInt) + 17 < m → ok (kR_X2_readAsk h p1) (fun a => SC h a ∧ True)) (hR_X2_readOne : ∀ (h : HS) (p1 : Int32), IC h → (0 ≤ p1.toInt ∧ p1.toInt ≤ 8) → 20 * (8 - p1.toInt) + 5 < m → ok (kR_X2_readOne h p1) (fun a => SC h a ∧ True)) (h : HS) (p1 : Int32) (p2 : Int32) (hI : IC h) (w0 : 0 ≤ p1.toInt ∧ p1.toInt ≤ 5) (w2 : 0 ≤ p2.toInt ∧ p2.toInt ≤ 8) (w1 : 20 * (8 - p2.toInt) + 22 - 2 * p1.toInt ≤ m) : ok (f_X2_readLevel_0_b kR_X2_readLevel kR_X2_readAsk kR_X2_readOne h p1 p2) (fun a => SC h a ∧ True) := by
  unfold f_X2_readLevel_0_b
  refine ok_if (fun c1 => ?_) (fun c1 => ?_)
  · refine ok_ob1 (hR_X2_readAsk h p2 ((SC_refl hI)).1 (by have := w0; have := w2; have := w1; have := gi_of_eq c1; have : (2 : Int32).toInt = 2 := rfl; have := fb_rng (p1); have := fb_rng (p2); omega) (by have := w0; have := w2; have := w1; have := gi_of_eq c1; have : (2 : Int32).toInt = 2 := rfl; have := fb_rng (p1); have := fb_rng (p2); omega)) (fun h2 k2 => ?_)
    have s2 : SC h h2 := SC_trans (b := h) (SC_refl hI) k2.1
    exact ok_some ⟨s2, trivial⟩
  · refine ok_if (fun c3 => ?_) (fun c3 => ?_)
    · refine ok_ob1 (hR_X2_readOne h p2 ((SC_refl hI)).1 (by have := w0; have := w2; have := w1; have := gi_of_ne c1; have := gi_of_eq c3; have : (2 : Int32).toInt = 2 := rfl; have : (5 : Int32).toInt = 5 := rfl; have := fb_rng (p1); have := fb_rng (p2); omega) (by have := w0; have := w2; have := w1; have := gi_of_ne c1; have := gi_of_eq c3; have : (2 : Int32).toInt = 2 := rfl; have : (5 : Int32).toInt = 5 := rfl; have := fb_rng (p1); have := fb_rng (p2); omega)) (fun h4 k4 => ?_)
      have s4 : SC h h4 := SC_trans (b := h) (SC_refl hI) k4.1
      exact ok_some ⟨s4, trivial⟩
    · refine ok_ob1 (hR_X2_readLevel h (p1 + 1) p2 ((SC_refl hI)).1 (by have := w0; have := w2; have := w1; have := gi_of_ne c1; have := gi_of_ne c3; have : (1 : Int32).toInt = 1 := rfl; have : (2 : Int32).toInt = 2 := rfl; have : (5 : Int32).toInt = 5 := rfl; have := fb_rng (p1); (try have := fb_addI (x := p1) (y := 1) (by omega) (by omega)); have := fb_rng (p2); omega) (by have := w0; have := w2; have := w1; have := gi_of_ne c1; have := gi_of_ne c3; have : (1 : Int32).toInt = 1 := rfl; have : (2 : Int32).toInt = 2 := rfl; have : (5 : Int32).toInt = 5 := rfl; have := fb_rng (p1); (try have := fb_addI (x := p1) (y := 1) (by omega) (by omega)); have := fb_rng (p2); omega) (by have := w0; have := w2; have := w1; have := gi_of_ne c1; have := gi_of_ne c3; have : (1 : Int32).toInt = 1 := rfl; have : (2 : Int32).toInt = 2 := rfl; have : (5 : Int32).toInt = 5 := rfl; have := fb_rng (p1); (try have := fb_addI (x := p1) (y := 1) (by omega) (by omega)); have := fb_rng (p2); omega)) (fun h5 k5 => ?_)
      have s5 : SC h h5 := SC_trans (b := h) (SC_refl hI) k5.1
      exact u_X2_readLevel_0_42 (h0 := h) p1 p2 (m := m) hR_X2_readLevel hR_X2_readAsk hR_X2_readOne 8589934592 h5 0 s5 (by have := w0; have := w2; have := w1; have := gi_of_ne c1; have := gi_of_ne c3; have : (2 : Int32).toInt = 2 := rfl; have : (5 : Int32).toInt = 5 := rfl; have := fb_rng (p1); omega) (by have := w0; have := w2; have := w1; have := fb_rng (p2); omega) (by have := w0; have := w2; have := w1; have := gi_of_ne c1; have := gi_of_ne c3; have : (2 : Int32).toInt = 2 := rfl; have : (5 : Int32).toInt = 5 := rfl; have := fb_rng (p1); have := fb_rng (p2); omega) (by decide) (by have := w0; have := w2; have := w1; have : (0 : Int32).toInt = 0 := rfl; omega)
theorem u_X2_readAsk_0_b   {kR_X2_readLevel : HS → Int32 → Int32 → Option HS} {kR_X2_readAsk : HS → Int32 → Option HS} {kR_X2_readOne : HS → Int32 → Option HS} (m : Int) (hR_X2_readLevel : ∀ (h : HS) (p1 p2 : Int32), IC h → (0 ≤ p1.toInt ∧ p1.toInt ≤ 5) → (0 ≤ p2.toInt ∧ p2.toInt ≤ 8) → 20 * (8 - p2.toInt) + 22 - 2 * p1.toInt < m → ok (kR_X2_readLevel h p1 p2) (fun a => SC h a ∧ True)) (hR_X2_readAsk : ∀ (h : HS) (p1 : Int32), IC h → (0 ≤ p1.toInt ∧ p1.toInt ≤ 8) → 20 * (8 - p1.toInt) + 17 < m → ok (kR_X2_readAsk h p1) (fun a => SC h a ∧ True)) (hR_X2_readOne : ∀ (h : HS) (p1 : Int32), IC h → (0 ≤ p1.toInt ∧ p1.toInt ≤ 8) → 20 * (8 - p1.toInt) + 5 < m → ok (kR_X2_readOne h p1) (fun a => SC h a ∧ True)) (h : HS) (p1 : Int32) (hI : IC h) (w0 : 0 ≤ p1.toInt ∧ p1.toInt ≤ 8) (w1 : 20 * (8 - p1.toInt) + 17 ≤ m) : ok (f_X2_readAsk_0_b kR_X2_readLevel kR_X2_readAsk kR_X2_readOne h p1) (fun a => SC h a ∧ True) := by
  unfold f_X2_readAsk_0_b
  refine ok_ob2 (u_X7_kind h ((SC_refl hI)).1) (fun r1 h1 k1 => ?_)
  have e1 : h = h1 := k1.1.symm
  subst e1
  refine ok_if (fun c2 => ?_) (fun c2 => ?_)
  · refine ok_ob2 (u_X2_opens h p1 ((SC_refl hI)).1) (fun r3 h3 k3 => ?_)
    have s3 : SC h h3 := SC_trans (b := h) (SC_refl hI) k3.1
    refine ok_if (fun c4 => ?_) (fun c4 => ?_)
    · unfold f_X2_readAsk_0_34
      exact ok_some ⟨s3, trivial⟩
    · refine ok_ob1 (hR_X2_readAsk h3 (p1 + 1) (s3).1 (by have := w0; have := w1; have : ((r3).toInt = 0 ∨ (p1).toInt < 8) := k3.2; have := gi_of_ne c4; have : (0 : Int32).toInt = 0 := rfl; have : (1 : Int32).toInt = 1 := rfl; have := fb_rng (r3); have := fb_rng (p1); (try have := fb_addI (x := p1) (y := 1) (by omega) (by omega)); omega) (by have := w0; have := w1; have : ((r3).toInt = 0 ∨ (p1).toInt < 8) := k3.2; have := gi_of_ne c4; have : (0 : Int32).toInt = 0 := rfl; have : (1 : Int32).toInt = 1 := rfl; have := fb_rng (r3); have := fb_rng (p1); (try have := fb_addI (x := p1) (y := 1) (by omega) (by omega)); omega)) (fun h5 k5 => ?_)
      have s5 : SC h h5 := SC_trans (b := h3) s3 k5.1
      refine ok_ob1 (u_X6_addStep_0 h5 20028 (s5).1) (fun h6 k6 => ?_)
      have s6 : SC h h6 := SC_trans (b := h5) s5 k6.1
      unfold f_X2_readAsk_0_34
      exact ok_some ⟨s6, trivial⟩
  · refine ok_ob1 (hR_X2_readLevel h 3 p1 ((SC_refl hI)).1 (by have := w0; have := w1; have : (3 : Int32).toInt = 3 := rfl; have := fb_rng (p1); omega) (by have := w0; have := w1; have : (3 : Int32).toInt = 3 := rfl; have := fb_rng (p1); omega) (by have := w0; have := w1; have : (3 : Int32).toInt = 3 := rfl; have := fb_rng (p1); omega)) (fun h7 k7 => ?_)
    have s7 : SC h h7 := SC_trans (b := h) (SC_refl hI) k7.1
    refine ok_ob2 (u_X7_kind h7 (s7).1) (fun r8 h8 k8 => ?_)
    have e8 : h7 = h8 := k8.1.symm
    subst e8
    refine ok_if (fun c9 => ?_) (fun c9 => ?_)
    · unfold f_X2_readAsk_0_62
      refine ok_ob1 (u_X2_fail h7 1 (s7).1) (fun h10 k10 => ?_)
      have s10 : SC h h10 := SC_trans (b := h7) s7 k10.1
      unfold f_X2_readAsk_0_68
      refine ok_if (fun c11 => ?_) (fun c11 => ?_)
      · refine ok_ob1 (u_X7_advance h10 (s10).1) (fun h12 k12 => ?_)
        have s12 : SC h h12 := SC_trans (b := h10) s10 k12.1
        refine ok_ob1 (hR_X2_readLevel h12 3 p1 (s12).1 (by have := w0; have := w1; have : (3 : Int32).toInt = 3 := rfl; have := fb_rng (p1); omega) (by have := w0; have := w1; have : (3 : Int32).toInt = 3 := rfl; have := fb_rng (p1); omega) (by have := w0; have := w1; have : (3 : Int32).toInt = 3 := rfl; have := fb_rng (p1); omega)) (fun h13 k13 => ?_)
        have s13 : SC h h13 := SC_trans (b := h12) s12 k13.1
        refine ok_ob1 (u_X6_addStep_0 h13 (20000 + r8) (s13).1) (fun h14 k14 => ?_)
        have s14 : SC h h14 := SC_trans (b := h13) s13 k14.1
        unfold f_X2_readAsk_0_97
        exact ok_some ⟨s14, trivial⟩
      · unfold f_X2_readAsk_0_97
        exact ok_some ⟨s10, trivial⟩
    · refine ok_if (fun c15 => ?_) (fun c15 => ?_)
      · unfold f_X2_readAsk_0_68
        refine ok_if (fun c16 => ?_) (fun c16 => ?_)
        · refine ok_ob1 (u_X7_advance h7 (s7).1) (fun h17 k17 => ?_)
          have s17 : SC h h17 := SC_trans (b := h7) s7 k17.1
          refine ok_ob1 (hR_X2_readLevel h17 3 p1 (s17).1 (by have := w0; have := w1; have : (3 : Int32).toInt = 3 := rfl; have := fb_rng (p1); omega) (by have := w0; have := w1; have : (3 : Int32).toInt = 3 := rfl; have := fb_rng (p1); omega) (by have := w0; have := w1; have : (3 : Int32).toInt = 3 := rfl; have := fb_rng (p1); omega)) (fun h18 k18 => ?_)
          have s18 : SC h h18 := SC_trans (b := h17) s17 k18.1
          refine ok_ob1 (u_X6_addStep_0 h18 (20000 + r8) (s18).1) (fun h19 k19 => ?_)
          have s19 : SC h h19 := SC_trans (b := h18) s18 k19.1
          unfold f_X2_readAsk_0_97
          exact ok_some ⟨s19, trivial⟩
        · unfold f_X2_readAsk_0_97
          exact ok_some ⟨s7, trivial⟩
      · unfold f_X2_readAsk_0_62
        refine ok_ob1 (u_X2_fail h7 1 (s7).1) (fun h20 k20 => ?_)
        have s20 : SC h h20 := SC_trans (b := h7) s7 k20.1
        unfold f_X2_readAsk_0_68
        refine ok_if (fun c21 => ?_) (fun c21 => ?_)
        · refine ok_ob1 (u_X7_advance h20 (s20).1) (fun h22 k22 => ?_)
          have s22 : SC h h22 := SC_trans (b := h20) s20 k22.1
          refine ok_ob1 (hR_X2_readLevel h22 3 p1 (s22).1 (by have := w0; have := w1; have : (3 : Int32).toInt = 3 := rfl; have := fb_rng (p1); omega) (by have := w0; have := w1; have : (3 : Int32).toInt = 3 := rfl; have := fb_rng (p1); omega) (by have := w0; have := w1; have : (3 : Int32).toInt = 3 := rfl; have := fb_rng (p1); omega)) (fun h23 k23 => ?_)
          have s23 : SC h h23 := SC_trans (b := h22) s22 k23.1
          refine ok_ob1 (u_X6_addStep_0 h23 (20000 + r8) (s23).1) (fun h24 k24 => ?_)
          have s24 : SC h h24 := SC_trans (b := h23) s23 k24.1
          unfold f_X2_readAsk_0_97
          exact ok_some ⟨s24, trivial⟩
        · unfold f_X2_readAsk_0_97
          exact ok_some ⟨s20, trivial⟩
theorem u_X2_readOne_0_b   {kR_X2_readLevel : HS → Int32 → Int32 → Option HS} {kR_X2_readAsk : HS → Int32 → Option HS} {kR_X2_readOne : HS → Int32 → Option HS} (m : Int) (hR_X2_readLevel : ∀ (h : HS) (p1 p2 : Int32), IC h → (0 ≤ p1.toInt ∧ p1.toInt ≤ 5) → (0 ≤ p2.toInt ∧ p2.toInt ≤ 8) → 20 * (8 - p2.toInt) + 22 - 2 * p1.toInt < m → ok (kR_X2_readLevel h p1 p2) (fun a => SC h a ∧ True)) (hR_X2_readAsk : ∀ (h : HS) (p1 : Int32), IC h → (0 ≤ p1.toInt ∧ p1.toInt ≤ 8) → 20 * (8 - p1.toInt) + 17 < m → ok (kR_X2_readAsk h p1) (fun a => SC h a ∧ True)) (hR_X2_readOne : ∀ (h : HS) (p1 : Int32), IC h → (0 ≤ p1.toInt ∧ p1.toInt ≤ 8) → 20 * (8 - p1.toInt) + 5 < m → ok (kR_X2_readOne h p1) (fun a => SC h a ∧ True)) (h : HS) (p1 : Int32) (hI : IC h) (w0 : 0 ≤ p1.toInt ∧ p1.toInt ≤ 8) (w1 : 20 * (8 - p1.toInt) + 5 ≤ m) : ok (f_X2_readOne_0_b kR_X2_readLevel kR_X2_readAsk kR_X2_readOne h p1) (fun a => SC h a ∧ True) := by
  unfold f_X2_readOne_0_b
  refine ok_ob2 (u_X7_kind h ((SC_refl hI)).1) (fun r1 h1 k1 => ?_)
  have e1 : h = h1 := k1.1.symm
  subst e1
  refine ok_if (fun c2 => ?_) (fun c2 => ?_)
  · refine ok_ob1 (u_X2_readValue_0 h ((SC_refl hI)).1) (fun h3 k3 => ?_)
    have s3 : SC h h3 := SC_trans (b := h) (SC_refl hI) k3.1
    unfold f_X2_readOne_0_121
    exact ok_some ⟨s3, trivial⟩
  · refine ok_if (fun c4 => ?_) (fun c4 => ?_)
    · unfold f_X2_readOne_0_44
      refine ok_if (fun c5 => ?_) (fun c5 => ?_)
      · refine ok_ob2 (u_X2_opens h p1 ((SC_refl hI)).1) (fun r6 h6 k6 => ?_)
        have s6 : SC h h6 := SC_trans (b := h) (SC_refl hI) k6.1
        refine ok_if (fun c7 => ?_) (fun c7 => ?_)
        · unfold f_X2_readOne_0_121
          exact ok_some ⟨s6, trivial⟩
        · refine ok_ob1 (hR_X2_readLevel h6 3 (p1 + 1) (s6).1 (by have := w0; have := w1; have : ((r6).toInt = 0 ∨ (p1).toInt < 8) := k6.2; have := gi_of_ne c7; have : (0 : Int32).toInt = 0 := rfl; have : (1 : Int32).toInt = 1 := rfl; have : (3 : Int32).toInt = 3 := rfl; have := fb_rng (r6); have := fb_rng (p1); (try have := fb_addI (x := p1) (y := 1) (by omega) (by omega)); omega) (by have := w0; have := w1; have : ((r6).toInt = 0 ∨ (p1).toInt < 8) := k6.2; have := gi_of_ne c7; have : (0 : Int32).toInt = 0 := rfl; have : (1 : Int32).toInt = 1 := rfl; have : (3 : Int32).toInt = 3 := rfl; have := fb_rng (r6); have := fb_rng (p1); (try have := fb_addI (x := p1) (y := 1) (by omega) (by omega)); omega) (by have := w0; have := w1; have : ((r6).toInt = 0 ∨ (p1).toInt < 8) := k6.2; have := gi_of_ne c7; have : (0 : Int32).toInt = 0 := rfl; have : (1 : Int32).toInt = 1 := rfl; have : (3 : Int32).toInt = 3 := rfl; have := fb_rng (r6); have := fb_rng (p1); (try have := fb_addI (x := p1) (y := 1) (by omega) (by omega)); omega)) (fun h8 k8 => ?_)
          have s8 : SC h h8 := SC_trans (b := h6) s6 k8.1
          refine ok_ob1 (u_X2_expect h8 14 (s8).1) (fun h9 k9 => ?_)
          have s9 : SC h h9 := SC_trans (b := h8) s8 k9.1
          unfold f_X2_readOne_0_121
          exact ok_some ⟨s9, trivial⟩
      · refine ok_if (fun c10 => ?_) (fun c10 => ?_)
        · refine ok_ob2 (u_X2_opens h p1 ((SC_refl hI)).1) (fun r11 h11 k11 => ?_)
          have s11 : SC h h11 := SC_trans (b := h) (SC_refl hI) k11.1
          refine ok_if (fun c12 => ?_) (fun c12 => ?_)
          · unfold f_X2_readOne_0_121
            exact ok_some ⟨s11, trivial⟩
          · refine ok_ob1 (hR_X2_readOne h11 (p1 + 1) (s11).1 (by have := w0; have := w1; have : ((r11).toInt = 0 ∨ (p1).toInt < 8) := k11.2; have := gi_of_ne c12; have : (0 : Int32).toInt = 0 := rfl; have : (1 : Int32).toInt = 1 := rfl; have := fb_rng (r11); have := fb_rng (p1); (try have := fb_addI (x := p1) (y := 1) (by omega) (by omega)); omega) (by have := w0; have := w1; have : ((r11).toInt = 0 ∨ (p1).toInt < 8) := k11.2; have := gi_of_ne c12; have : (0 : Int32).toInt = 0 := rfl; have : (1 : Int32).toInt = 1 := rfl; have := fb_rng (r11); have := fb_rng (p1); (try have := fb_addI (x := p1) (y := 1) (by omega) (by omega)); omega)) (fun h13 k13 => ?_)
            have s13 : SC h h13 := SC_trans (b := h11) s11 k13.1
            refine ok_ob1 (u_X6_addStep_0 h13 20038 (s13).1) (fun h14 k14 => ?_)
            have s14 : SC h h14 := SC_trans (b := h13) s13 k14.1
            unfold f_X2_readOne_0_121
            exact ok_some ⟨s14, trivial⟩
        · refine ok_ob1 (u_X2_fail h 1 ((SC_refl hI)).1) (fun h15 k15 => ?_)
          have s15 : SC h h15 := SC_trans (b := h) (SC_refl hI) k15.1
          unfold f_X2_readOne_0_121
          exact ok_some ⟨s15, trivial⟩
    · refine ok_if (fun c16 => ?_) (fun c16 => ?_)
      · unfold f_X2_readOne_0_44
        refine ok_if (fun c17 => ?_) (fun c17 => ?_)
        · refine ok_ob2 (u_X2_opens h p1 ((SC_refl hI)).1) (fun r18 h18 k18 => ?_)
          have s18 : SC h h18 := SC_trans (b := h) (SC_refl hI) k18.1
          refine ok_if (fun c19 => ?_) (fun c19 => ?_)
          · unfold f_X2_readOne_0_121
            exact ok_some ⟨s18, trivial⟩
          · refine ok_ob1 (hR_X2_readLevel h18 3 (p1 + 1) (s18).1 (by have := w0; have := w1; have : ((r18).toInt = 0 ∨ (p1).toInt < 8) := k18.2; have := gi_of_ne c19; have : (0 : Int32).toInt = 0 := rfl; have : (1 : Int32).toInt = 1 := rfl; have : (3 : Int32).toInt = 3 := rfl; have := fb_rng (r18); have := fb_rng (p1); (try have := fb_addI (x := p1) (y := 1) (by omega) (by omega)); omega) (by have := w0; have := w1; have : ((r18).toInt = 0 ∨ (p1).toInt < 8) := k18.2; have := gi_of_ne c19; have : (0 : Int32).toInt = 0 := rfl; have : (1 : Int32).toInt = 1 := rfl; have : (3 : Int32).toInt = 3 := rfl; have := fb_rng (r18); have := fb_rng (p1); (try have := fb_addI (x := p1) (y := 1) (by omega) (by omega)); omega) (by have := w0; have := w1; have : ((r18).toInt = 0 ∨ (p1).toInt < 8) := k18.2; have := gi_of_ne c19; have : (0 : Int32).toInt = 0 := rfl; have : (1 : Int32).toInt = 1 := rfl; have : (3 : Int32).toInt = 3 := rfl; have := fb_rng (r18); have := fb_rng (p1); (try have := fb_addI (x := p1) (y := 1) (by omega) (by omega)); omega)) (fun h20 k20 => ?_)
            have s20 : SC h h20 := SC_trans (b := h18) s18 k20.1
            refine ok_ob1 (u_X2_expect h20 14 (s20).1) (fun h21 k21 => ?_)
            have s21 : SC h h21 := SC_trans (b := h20) s20 k21.1
            unfold f_X2_readOne_0_121
            exact ok_some ⟨s21, trivial⟩
        · refine ok_if (fun c22 => ?_) (fun c22 => ?_)
          · refine ok_ob2 (u_X2_opens h p1 ((SC_refl hI)).1) (fun r23 h23 k23 => ?_)
            have s23 : SC h h23 := SC_trans (b := h) (SC_refl hI) k23.1
            refine ok_if (fun c24 => ?_) (fun c24 => ?_)
            · unfold f_X2_readOne_0_121
              exact ok_some ⟨s23, trivial⟩
            · refine ok_ob1 (hR_X2_readOne h23 (p1 + 1) (s23).1 (by have := w0; have := w1; have : ((r23).toInt = 0 ∨ (p1).toInt < 8) := k23.2; have := gi_of_ne c24; have : (0 : Int32).toInt = 0 := rfl; have : (1 : Int32).toInt = 1 := rfl; have := fb_rng (r23); have := fb_rng (p1); (try have := fb_addI (x := p1) (y := 1) (by omega) (by omega)); omega) (by have := w0; have := w1; have : ((r23).toInt = 0 ∨ (p1).toInt < 8) := k23.2; have := gi_of_ne c24; have : (0 : Int32).toInt = 0 := rfl; have : (1 : Int32).toInt = 1 := rfl; have := fb_rng (r23); have := fb_rng (p1); (try have := fb_addI (x := p1) (y := 1) (by omega) (by omega)); omega)) (fun h25 k25 => ?_)
              have s25 : SC h h25 := SC_trans (b := h23) s23 k25.1
              refine ok_ob1 (u_X6_addStep_0 h25 20038 (s25).1) (fun h26 k26 => ?_)
              have s26 : SC h h26 := SC_trans (b := h25) s25 k26.1
              unfold f_X2_readOne_0_121
              exact ok_some ⟨s26, trivial⟩
          · refine ok_ob1 (u_X2_fail h 1 ((SC_refl hI)).1) (fun h27 k27 => ?_)
            have s27 : SC h h27 := SC_trans (b := h) (SC_refl hI) k27.1
            unfold f_X2_readOne_0_121
            exact ok_some ⟨s27, trivial⟩
      · refine ok_ob1 (u_X2_readName_0 h ((SC_refl hI)).1) (fun h28 k28 => ?_)
        have s28 : SC h h28 := SC_trans (b := h) (SC_refl hI) k28.1
        unfold f_X2_readOne_0_121
        exact ok_some ⟨s28, trivial⟩
theorem u_G_read_0 : ∀ (n : Nat), (∀ (h : HS) (p1 p2 : Int32), IC h → (0 ≤ p1.toInt ∧ p1.toInt ≤ 5) → (0 ≤ p2.toInt ∧ p2.toInt ≤ 8) → 20 * (8 - p2.toInt) + 22 - 2 * p1.toInt < (n : Int) → ok (G_read_0 n 0 h p1 p2) (fun a => SC h a ∧ True)) ∧ (∀ (h : HS) (p1 : Int32), IC h → (0 ≤ p1.toInt ∧ p1.toInt ≤ 8) → 20 * (8 - p1.toInt) + 17 < (n : Int) → ok (G_read_0 n 1 h p1 0) (fun a => SC h a ∧ True)) ∧ (∀ (h : HS) (p1 : Int32), IC h → (0 ≤ p1.toInt ∧ p1.toInt ≤ 8) → 20 * (8 - p1.toInt) + 5 < (n : Int) → ok (G_read_0 n 2 h p1 0) (fun a => SC h a ∧ True)) := by
  intro n
  induction n with
  | zero => exact ⟨fun h p1 p2 hI h0 h2 hm => absurd hm (by omega), fun h p1 hI h0 hm => absurd hm (by omega), fun h p1 hI h0 hm => absurd hm (by omega)⟩
  | succ n ih =>
    obtain ⟨i0, i1, i2⟩ := ih
    refine ⟨fun h p1 p2 hI h0 h2 hm => ?_, fun h p1 hI h0 hm => ?_, fun h p1 hI h0 hm => ?_⟩
    · exact u_X2_readLevel_0_b (m := n) i0 i1 i2 h p1 p2 hI h0 h2 (by omega)
    · exact u_X2_readAsk_0_b (m := n) i0 i1 i2 h p1 hI h0 (by omega)
    · exact u_X2_readOne_0_b (m := n) i0 i1 i2 h p1 hI h0 (by omega)
theorem u_X2_readClause_0 (h : HS) (hI : IC h) : ok (f_X2_readClause_0 h) (fun a => SC h a ∧ True) := by
  unfold f_X2_readClause_0
  refine ok_ob2 (u_X7_kind h ((SC_refl hI)).1) (fun r1 h1 k1 => ?_)
  have e1 : h = h1 := k1.1.symm
  subst e1
  refine ok_if (fun c2 => ?_) (fun c2 => ?_)
  · unfold f_X2_readClause_0_25
    refine ok_ob1 (u_X2_fail (sI h 5 2 (r1 - 16)) 1 ((SC_refl hI)).1) (fun h3 k3 => ?_)
    have s3 : SC h h3 := SC_trans (b := (sI h 5 2 (r1 - 16))) (SC_refl hI) k3.1
    unfold f_X2_readClause_0_158
    exact ok_some ⟨s3, trivial⟩
  · refine ok_if (fun c4 => ?_) (fun c4 => ?_)
    · refine ok_ob2 (u_X6_hasLaw_0 (sI h 5 2 (r1 - 16)) (r1 - 16) ((SC_refl hI)).1) (fun r5 h5 k5 => ?_)
      have e5 : (sI h 5 2 (r1 - 16)) = h5 := k5.1.symm
      subst e5
      refine ok_if (fun c6 => ?_) (fun c6 => ?_)
      · refine ok_if (fun c7 => ?_) (fun c7 => ?_)
        · refine ok_ob1 (u_X6_setClause_0 (sI h 5 2 (r1 - 16)) (eI (sI h 5 2 (r1 - 16)) 9 1) 0 r1 ((SC_refl hI)).1) (fun h8 k8 => ?_)
          have s8 : SC h h8 := SC_trans (b := (sI h 5 2 (r1 - 16))) (SC_refl hI) k8.1
          refine ok_ob1 (u_X7_advance h8 (s8).1) (fun h9 k9 => ?_)
          have s9 : SC h h9 := SC_trans (b := h8) s8 k9.1
          refine ok_if (fun c10 => ?_) (fun c10 => ?_)
          · refine ok_ob1 (u_X2_readDeed_0 h9 r1 (s9).1) (fun h11 k11 => ?_)
            have s11 : SC h h11 := SC_trans (b := h9) s9 k11.1
            unfold f_X2_readClause_0_141
            refine ok_ob1 (u_X2_expect h11 15 (s11).1) (fun h12 k12 => ?_)
            have s12 : SC h h12 := SC_trans (b := h11) s11 k12.1
            unfold f_X2_readClause_0_158
            exact ok_some ⟨s12, trivial⟩
          · refine ok_ob1 (u_X6_beginLaw_0 h9 (eI h9 5 2) (s9).1) (fun h13 k13 => ?_)
            have s13 : SC h h13 := SC_trans (b := h9) s9 k13.1
            refine ok_if (fun c14 => ?_) (fun c14 => ?_)
            · unfold f_X2_readClause_0_119
              refine ok_ob1 ((u_G_read_0 200).1 h13 0 0 (s13).1 (by have : (0 : Int32).toInt = 0 := rfl; omega) (by have : (0 : Int32).toInt = 0 := rfl; omega) (by have : (0 : Int32).toInt = 0 := rfl; omega)) (fun h15 k15 => ?_)
              have s15 : SC h h15 := SC_trans (b := h13) s13 k15.1
              refine ok_ob1 (u_X6_closeLaw_0 h15 (eI h15 5 2) (s15).1) (fun h16 k16 => ?_)
              have s16 : SC h h16 := SC_trans (b := h15) s15 k16.1
              unfold f_X2_readClause_0_141
              refine ok_ob1 (u_X2_expect h16 15 (s16).1) (fun h17 k17 => ?_)
              have s17 : SC h h17 := SC_trans (b := h16) s16 k17.1
              unfold f_X2_readClause_0_158
              exact ok_some ⟨s17, trivial⟩
            · unfold f_X2_readClause_0_119
              refine ok_ob1 ((u_G_read_0 200).1 h13 3 0 (s13).1 (by have : (0 : Int32).toInt = 0 := rfl; have : (3 : Int32).toInt = 3 := rfl; omega) (by have : (0 : Int32).toInt = 0 := rfl; have : (3 : Int32).toInt = 3 := rfl; omega) (by have : (0 : Int32).toInt = 0 := rfl; have : (3 : Int32).toInt = 3 := rfl; omega)) (fun h18 k18 => ?_)
              have s18 : SC h h18 := SC_trans (b := h13) s13 k18.1
              refine ok_ob1 (u_X6_closeLaw_0 h18 (eI h18 5 2) (s18).1) (fun h19 k19 => ?_)
              have s19 : SC h h19 := SC_trans (b := h18) s18 k19.1
              unfold f_X2_readClause_0_141
              refine ok_ob1 (u_X2_expect h19 15 (s19).1) (fun h20 k20 => ?_)
              have s20 : SC h h20 := SC_trans (b := h19) s19 k20.1
              unfold f_X2_readClause_0_158
              exact ok_some ⟨s20, trivial⟩
        · refine ok_ob1 (u_X2_fail (sI h 5 2 (r1 - 16)) 6 ((SC_refl hI)).1) (fun h21 k21 => ?_)
          have s21 : SC h h21 := SC_trans (b := (sI h 5 2 (r1 - 16))) (SC_refl hI) k21.1
          unfold f_X2_readClause_0_158
          exact ok_some ⟨s21, trivial⟩
      · refine ok_ob1 (u_X2_fail (sI h 5 2 (r1 - 16)) 4 ((SC_refl hI)).1) (fun h22 k22 => ?_)
        have s22 : SC h h22 := SC_trans (b := (sI h 5 2 (r1 - 16))) (SC_refl hI) k22.1
        unfold f_X2_readClause_0_158
        exact ok_some ⟨s22, trivial⟩
    · unfold f_X2_readClause_0_25
      refine ok_ob1 (u_X2_fail (sI h 5 2 (r1 - 16)) 1 ((SC_refl hI)).1) (fun h23 k23 => ?_)
      have s23 : SC h h23 := SC_trans (b := (sI h 5 2 (r1 - 16))) (SC_refl hI) k23.1
      unfold f_X2_readClause_0_158
      exact ok_some ⟨s23, trivial⟩
theorem u_X2_parse_0_16 {h0 : HS} : ∀ (n : Nat) (h : HS) (x3 : Int32), SC h0 h → 0 < n → (25 - x3.toInt : Int) < (n : Int) → ok (f_X2_parse_0_16  n h x3) (fun a => SC h0 a ∧ True) := by
  intro n
  induction n with
  | zero =>
    intro h x3 hSC hn hm
    exact absurd hn (by decide)
  | succ n ih_X2_parse_0_16 =>
    intro h x3 hSC hn hm
    rw [f_X2_parse_0_16_s]
    refine ok_if (fun c1 => ?_) (fun c1 => ?_)
    · unfold f_X2_parse_0_48
      exact ok_some ⟨hSC, trivial⟩
    · refine ok_if (fun c2 => ?_) (fun c2 => ?_)
      · refine ok_ob2 (u_X7_kind h (hSC).1) (fun r3 h3 k3 => ?_)
        have e3 : h = h3 := k3.1.symm
        subst e3
        refine ok_if (fun c4 => ?_) (fun c4 => ?_)
        · unfold f_X2_parse_0_48
          exact ok_some ⟨hSC, trivial⟩
        · refine ok_ob1 (u_X2_readClause_0 h (hSC).1) (fun h5 k5 => ?_)
          have s5 : SC h0 h5 := SC_trans (b := h) hSC k5.1
          exact ih_X2_parse_0_16 h5 (x3 + 1) s5 (by have := hm; have := gi_of_nlt c1; have : (1 : Int32).toInt = 1 := rfl; have : (24 : Int32).toInt = 24 := rfl; have := fb_rng (x3); (try have := fb_addI (x := x3) (y := 1) (by omega) (by omega)); omega) (by have := hm; have := gi_of_nlt c1; have : (1 : Int32).toInt = 1 := rfl; have : (24 : Int32).toInt = 24 := rfl; have := fb_rng (x3); (try have := fb_addI (x := x3) (y := 1) (by omega) (by omega)); omega)
      · unfold f_X2_parse_0_48
        exact ok_some ⟨hSC, trivial⟩
theorem u_X2_parse_0 (h : HS) (hI : IC h) : ok (f_X2_parse_0 h) (fun a => SC h a ∧ True) := by
  unfold f_X2_parse_0
  refine ok_ob1 (u_X6_clear_0 (sI (sI h 5 0 0) 5 1 (-1)) ((SC_refl hI)).1) (fun h1 k1 => ?_)
  have s1 : SC h h1 := SC_trans (b := (sI (sI h 5 0 0) 5 1 (-1))) (SC_refl hI) k1.1
  exact u_X2_parse_0_16 (h0 := h) 8589934592 h1 0 s1 (by decide) (by have : (0 : Int32).toInt = 0 := rfl; omega)
theorem u_X2_readValue_1 (h : HS) (hI : IC h) : ok (f_X2_readValue_1 h) (fun a => SC h a ∧ True) := by
  unfold f_X2_readValue_1
  refine ok_ob2 (u_X7_value h ((SC_refl hI)).1) (fun r1 h1 k1 => ?_)
  have e1 : h = h1 := k1.1.symm
  subst e1
  refine ok_if (fun c2 => ?_) (fun c2 => ?_)
  · refine ok_ob2 (u_X7_value h ((SC_refl hI)).1) (fun r3 h3 k3 => ?_)
    have e3 : h = h3 := k3.1.symm
    subst e3
    refine ok_ob1 (u_X6_addStep_1 h r3 ((SC_refl hI)).1) (fun h4 k4 => ?_)
    have s4 : SC h h4 := SC_trans (b := h) (SC_refl hI) k4.1
    refine ok_ob1 (u_X7_advance h4 (s4).1) (fun h5 k5 => ?_)
    have s5 : SC h h5 := SC_trans (b := h4) s4 k5.1
    exact ok_some ⟨s5, trivial⟩
  · refine ok_ob1 (u_X2_fail h 2 ((SC_refl hI)).1) (fun h6 k6 => ?_)
    have s6 : SC h h6 := SC_trans (b := h) (SC_refl hI) k6.1
    exact ok_some ⟨s6, trivial⟩
theorem u_X2_readName_1 (h : HS) (hI : IC h) : ok (f_X2_readName_1 h) (fun a => SC h a ∧ True) := by
  unfold f_X2_readName_1
  refine ok_ob2 (u_X7_kind h ((SC_refl hI)).1) (fun r1 h1 k1 => ?_)
  have e1 : h = h1 := k1.1.symm
  subst e1
  refine ok_if (fun c2 => ?_) (fun c2 => ?_)
  · unfold f_X2_readName_1_31
    refine ok_ob2 (u_X7_kind h ((SC_refl hI)).1) (fun r3 h3 k3 => ?_)
    have e3 : h = h3 := k3.1.symm
    subst e3
    refine ok_ob1 (u_X6_addStep_1 h ((10000 + r3) - 29) ((SC_refl hI)).1) (fun h4 k4 => ?_)
    have s4 : SC h h4 := SC_trans (b := h) (SC_refl hI) k4.1
    refine ok_ob1 (u_X7_advance h4 (s4).1) (fun h5 k5 => ?_)
    have s5 : SC h h5 := SC_trans (b := h4) s4 k5.1
    exact ok_some ⟨s5, trivial⟩
  · refine ok_if (fun c6 => ?_) (fun c6 => ?_)
    · unfold f_X2_readName_1_31
      refine ok_ob2 (u_X7_kind h ((SC_refl hI)).1) (fun r7 h7 k7 => ?_)
      have e7 : h = h7 := k7.1.symm
      subst e7
      refine ok_ob1 (u_X6_addStep_1 h ((10000 + r7) - 29) ((SC_refl hI)).1) (fun h8 k8 => ?_)
      have s8 : SC h h8 := SC_trans (b := h) (SC_refl hI) k8.1
      refine ok_ob1 (u_X7_advance h8 (s8).1) (fun h9 k9 => ?_)
      have s9 : SC h h9 := SC_trans (b := h8) s8 k9.1
      exact ok_some ⟨s9, trivial⟩
    · refine ok_if (fun c10 => ?_) (fun c10 => ?_)
      · unfold f_X2_readName_1_31
        refine ok_ob2 (u_X7_kind h ((SC_refl hI)).1) (fun r11 h11 k11 => ?_)
        have e11 : h = h11 := k11.1.symm
        subst e11
        refine ok_ob1 (u_X6_addStep_1 h ((10000 + r11) - 29) ((SC_refl hI)).1) (fun h12 k12 => ?_)
        have s12 : SC h h12 := SC_trans (b := h) (SC_refl hI) k12.1
        refine ok_ob1 (u_X7_advance h12 (s12).1) (fun h13 k13 => ?_)
        have s13 : SC h h13 := SC_trans (b := h12) s12 k13.1
        exact ok_some ⟨s13, trivial⟩
      · refine ok_ob1 (u_X2_fail h 5 ((SC_refl hI)).1) (fun h14 k14 => ?_)
        have s14 : SC h h14 := SC_trans (b := h) (SC_refl hI) k14.1
        exact ok_some ⟨s14, trivial⟩
theorem u_X2_readNumber_1 (h : HS) (p1 : Int32) (p2 : Int32) (p3 : Int32) (hI : IC h) : ok (f_X2_readNumber_1 h p1 p2 p3) (fun a => SC h a ∧ True) := by
  unfold f_X2_readNumber_1
  refine ok_if (fun c1 => ?_) (fun c1 => ?_)
  · refine ok_ob2 (u_X7_kind h ((SC_refl hI)).1) (fun r2 h2 k2 => ?_)
    have e2 : h = h2 := k2.1.symm
    subst e2
    refine ok_if (fun c3 => ?_) (fun c3 => ?_)
    · refine ok_ob2 (u_X7_value h ((SC_refl hI)).1) (fun r4 h4 k4 => ?_)
      have e4 : h = h4 := k4.1.symm
      subst e4
      refine ok_if (fun c5 => ?_) (fun c5 => ?_)
      · unfold f_X2_readNumber_1_43
        refine ok_ob1 (u_X2_fail h 2 ((SC_refl hI)).1) (fun h6 k6 => ?_)
        have s6 : SC h h6 := SC_trans (b := h) (SC_refl hI) k6.1
        unfold f_X2_readNumber_1_69
        exact ok_some ⟨s6, trivial⟩
      · refine ok_ob2 (u_X7_value h ((SC_refl hI)).1) (fun r7 h7 k7 => ?_)
        have e7 : h = h7 := k7.1.symm
        subst e7
        refine ok_if (fun c8 => ?_) (fun c8 => ?_)
        · refine ok_ob2 (u_X7_value h ((SC_refl hI)).1) (fun r9 h9 k9 => ?_)
          have e9 : h = h9 := k9.1.symm
          subst e9
          refine ok_ob1 (u_X6_setClause_1 h (eI h 10 1) p1 r9 ((SC_refl hI)).1) (fun h10 k10 => ?_)
          have s10 : SC h h10 := SC_trans (b := h) (SC_refl hI) k10.1
          refine ok_ob1 (u_X7_advance h10 (s10).1) (fun h11 k11 => ?_)
          have s11 : SC h h11 := SC_trans (b := h10) s10 k11.1
          unfold f_X2_readNumber_1_69
          exact ok_some ⟨s11, trivial⟩
        · unfold f_X2_readNumber_1_43
          refine ok_ob1 (u_X2_fail h 2 ((SC_refl hI)).1) (fun h12 k12 => ?_)
          have s12 : SC h h12 := SC_trans (b := h) (SC_refl hI) k12.1
          unfold f_X2_readNumber_1_69
          exact ok_some ⟨s12, trivial⟩
    · refine ok_ob1 (u_X2_fail h 1 ((SC_refl hI)).1) (fun h13 k13 => ?_)
      have s13 : SC h h13 := SC_trans (b := h) (SC_refl hI) k13.1
      unfold f_X2_readNumber_1_69
      exact ok_some ⟨s13, trivial⟩
  · exact ok_some ⟨(SC_refl hI), trivial⟩
theorem u_X2_readDeed_1 (h : HS) (p1 : Int32) (hI : IC h) : ok (f_X2_readDeed_1 h p1) (fun a => SC h a ∧ True) := by
  unfold f_X2_readDeed_1
  refine ok_if (fun c1 => ?_) (fun c1 => ?_)
  · refine ok_ob1 (u_X2_readNumber_1 h 1 1 99 ((SC_refl hI)).1) (fun h2 k2 => ?_)
    have s2 : SC h h2 := SC_trans (b := h) (SC_refl hI) k2.1
    exact ok_some ⟨s2, trivial⟩
  · refine ok_ob1 (u_X2_readNumber_1 h 1 0 9 ((SC_refl hI)).1) (fun h3 k3 => ?_)
    have s3 : SC h h3 := SC_trans (b := h) (SC_refl hI) k3.1
    refine ok_if (fun c4 => ?_) (fun c4 => ?_)
    · refine ok_ob1 (u_X2_expect h3 24 (s3).1) (fun h5 k5 => ?_)
      have s5 : SC h h5 := SC_trans (b := h3) s3 k5.1
      refine ok_ob1 (u_X2_readNumber_1 h5 2 0 5 (s5).1) (fun h6 k6 => ?_)
      have s6 : SC h h6 := SC_trans (b := h5) s5 k6.1
      refine ok_ob1 (u_X2_expect h6 33 (s6).1) (fun h7 k7 => ?_)
      have s7 : SC h h7 := SC_trans (b := h6) s6 k7.1
      refine ok_ob1 (u_X2_readNumber_1 h7 3 0 2 (s7).1) (fun h8 k8 => ?_)
      have s8 : SC h h8 := SC_trans (b := h7) s7 k8.1
      unfold f_X2_readDeed_1_90
      exact ok_some ⟨s8, trivial⟩
    · refine ok_if (fun c9 => ?_) (fun c9 => ?_)
      · refine ok_ob1 (u_X2_expect h3 25 (s3).1) (fun h10 k10 => ?_)
        have s10 : SC h h10 := SC_trans (b := h3) s3 k10.1
        refine ok_ob1 (u_X2_readNumber_1 h10 2 0 3 (s10).1) (fun h11 k11 => ?_)
        have s11 : SC h h11 := SC_trans (b := h10) s10 k11.1
        unfold f_X2_readDeed_1_90
        exact ok_some ⟨s11, trivial⟩
      · unfold f_X2_readDeed_1_90
        exact ok_some ⟨s3, trivial⟩
theorem u_X2_readLevel_1_42 {h0 : HS} (x3 : Int32) (x4 : Int32) {kR_X2_readLevel : HS → Int32 → Int32 → Option HS} {kR_X2_readAsk : HS → Int32 → Option HS} {kR_X2_readOne : HS → Int32 → Option HS} (m : Int) (hR_X2_readLevel : ∀ (h : HS) (p1 p2 : Int32), IC h → (0 ≤ p1.toInt ∧ p1.toInt ≤ 5) → (0 ≤ p2.toInt ∧ p2.toInt ≤ 8) → 20 * (8 - p2.toInt) + 22 - 2 * p1.toInt < m → ok (kR_X2_readLevel h p1 p2) (fun a => SC h a ∧ True)) (hR_X2_readAsk : ∀ (h : HS) (p1 : Int32), IC h → (0 ≤ p1.toInt ∧ p1.toInt ≤ 8) → 20 * (8 - p1.toInt) + 17 < m → ok (kR_X2_readAsk h p1) (fun a => SC h a ∧ True)) (hR_X2_readOne : ∀ (h : HS) (p1 : Int32), IC h → (0 ≤ p1.toInt ∧ p1.toInt ≤ 8) → 20 * (8 - p1.toInt) + 5 < m → ok (kR_X2_readOne h p1) (fun a => SC h a ∧ True))   : ∀ (n : Nat) (h : HS) (x5 : Int32), SC h0 h → (0 ≤ x3.toInt ∧ x3.toInt ≤ 4) → (0 ≤ x4.toInt ∧ x4.toInt ≤ 8) → 20 * (8 - x4.toInt) + 22 - 2 * x3.toInt ≤ m → 0 < n → (300 - (x5).toInt : Int) < (n : Int) → ok (f_X2_readLevel_1_42 kR_X2_readLevel kR_X2_readAsk kR_X2_readOne n h x3 x4 x5) (fun a => SC h0 a ∧ True) := by
  intro n
  induction n with
  | zero =>
    intro h x5 hSC i0 i1 i2 hn hm
    exact absurd hn (by decide)
  | succ n ih_X2_readLevel_1_42 =>
    intro h x5 hSC i0 i1 i2 hn hm
    rw [f_X2_readLevel_1_42_s]
    refine ok_if (fun c1 => ?_) (fun c1 => ?_)
    · unfold f_X2_readLevel_1_105
      exact ok_some ⟨hSC, trivial⟩
    · refine ok_if (fun c2 => ?_) (fun c2 => ?_)
      · refine ok_ob2 (u_X7_kind h (hSC).1) (fun r3 h3 k3 => ?_)
        have e3 : h = h3 := k3.1.symm
        subst e3
        refine ok_ob1 (u_X2_levelOf r3) (fun r4 k4 => ?_)
        refine ok_if (fun c5 => ?_) (fun c5 => ?_)
        · refine ok_ob2 (u_X7_kind h (hSC).1) (fun r6 h6 k6 => ?_)
          have e6 : h = h6 := k6.1.symm
          subst e6
          refine ok_ob1 (u_X7_advance h (hSC).1) (fun h7 k7 => ?_)
          have s7 : SC h0 h7 := SC_trans (b := h) hSC k7.1
          refine ok_ob1 (hR_X2_readLevel h7 (x3 + 1) x4 (s7).1 (by have := i0; have := i1; have := i2; have := hm; have := gi_of_nle c1; have := gi_of_eq c5; have : (1 : Int32).toInt = 1 := rfl; have : (300 : Int32).toInt = 300 := rfl; have := fb_rng (x5); have := fb_rng (r4); have := fb_rng (x3); (try have := fb_addI (x := x3) (y := 1) (by omega) (by omega)); have := fb_rng (x4); omega) (by have := i0; have := i1; have := i2; have := hm; have := gi_of_nle c1; have := gi_of_eq c5; have : (1 : Int32).toInt = 1 := rfl; have : (300 : Int32).toInt = 300 := rfl; have := fb_rng (x5); have := fb_rng (r4); have := fb_rng (x3); (try have := fb_addI (x := x3) (y := 1) (by omega) (by omega)); have := fb_rng (x4); omega) (by have := i0; have := i1; have := i2; have := hm; have := gi_of_nle c1; have := gi_of_eq c5; have : (1 : Int32).toInt = 1 := rfl; have : (300 : Int32).toInt = 300 := rfl; have := fb_rng (x5); have := fb_rng (r4); have := fb_rng (x3); (try have := fb_addI (x := x3) (y := 1) (by omega) (by omega)); have := fb_rng (x4); omega)) (fun h8 k8 => ?_)
          have s8 : SC h0 h8 := SC_trans (b := h7) s7 k8.1
          refine ok_ob1 (u_X6_addStep_1 h8 (20000 + r6) (s8).1) (fun h9 k9 => ?_)
          have s9 : SC h0 h9 := SC_trans (b := h8) s8 k9.1
          exact ih_X2_readLevel_1_42 h9 (x5 + 1) s9 (by have := i0; have := i1; have := i2; have := hm; have := gi_of_eq c5; have := fb_rng (r4); have := fb_rng (x3); omega) (by have := i0; have := i1; have := i2; have := hm; have := fb_rng (x4); omega) (by have := i0; have := i1; have := i2; have := hm; have := gi_of_eq c5; have := fb_rng (r4); have := fb_rng (x3); have := fb_rng (x4); omega) (by have := i0; have := i1; have := i2; have := hm; have := gi_of_nle c1; have : (1 : Int32).toInt = 1 := rfl; have : (300 : Int32).toInt = 300 := rfl; have := fb_rng (x5); (try have := fb_addI (x := x5) (y := 1) (by omega) (by omega)); omega) (by have := i0; have := i1; have := i2; have := hm; have := gi_of_nle c1; have : (1 : Int32).toInt = 1 := rfl; have : (300 : Int32).toInt = 300 := rfl; have := fb_rng (x5); (try have := fb_addI (x := x5) (y := 1) (by omega) (by omega)); omega)
        · unfold f_X2_readLevel_1_105
          exact ok_some ⟨hSC, trivial⟩
      · unfold f_X2_readLevel_1_105
        exact ok_some ⟨hSC, trivial⟩
theorem u_X2_readLevel_1_b   {kR_X2_readLevel : HS → Int32 → Int32 → Option HS} {kR_X2_readAsk : HS → Int32 → Option HS} {kR_X2_readOne : HS → Int32 → Option HS} (m : Int) (hR_X2_readLevel : ∀ (h : HS) (p1 p2 : Int32), IC h → (0 ≤ p1.toInt ∧ p1.toInt ≤ 5) → (0 ≤ p2.toInt ∧ p2.toInt ≤ 8) → 20 * (8 - p2.toInt) + 22 - 2 * p1.toInt < m → ok (kR_X2_readLevel h p1 p2) (fun a => SC h a ∧ True)) (hR_X2_readAsk : ∀ (h : HS) (p1 : Int32), IC h → (0 ≤ p1.toInt ∧ p1.toInt ≤ 8) → 20 * (8 - p1.toInt) + 17 < m → ok (kR_X2_readAsk h p1) (fun a => SC h a ∧ True)) (hR_X2_readOne : ∀ (h : HS) (p1 : Int32), IC h → (0 ≤ p1.toInt ∧ p1.toInt ≤ 8) → 20 * (8 - p1.toInt) + 5 < m → ok (kR_X2_readOne h p1) (fun a => SC h a ∧ True)) (h : HS) (p1 : Int32) (p2 : Int32) (hI : IC h) (w0 : 0 ≤ p1.toInt ∧ p1.toInt ≤ 5) (w2 : 0 ≤ p2.toInt ∧ p2.toInt ≤ 8) (w1 : 20 * (8 - p2.toInt) + 22 - 2 * p1.toInt ≤ m) : ok (f_X2_readLevel_1_b kR_X2_readLevel kR_X2_readAsk kR_X2_readOne h p1 p2) (fun a => SC h a ∧ True) := by
  unfold f_X2_readLevel_1_b
  refine ok_if (fun c1 => ?_) (fun c1 => ?_)
  · refine ok_ob1 (hR_X2_readAsk h p2 ((SC_refl hI)).1 (by have := w0; have := w2; have := w1; have := gi_of_eq c1; have : (2 : Int32).toInt = 2 := rfl; have := fb_rng (p1); have := fb_rng (p2); omega) (by have := w0; have := w2; have := w1; have := gi_of_eq c1; have : (2 : Int32).toInt = 2 := rfl; have := fb_rng (p1); have := fb_rng (p2); omega)) (fun h2 k2 => ?_)
    have s2 : SC h h2 := SC_trans (b := h) (SC_refl hI) k2.1
    exact ok_some ⟨s2, trivial⟩
  · refine ok_if (fun c3 => ?_) (fun c3 => ?_)
    · refine ok_ob1 (hR_X2_readOne h p2 ((SC_refl hI)).1 (by have := w0; have := w2; have := w1; have := gi_of_ne c1; have := gi_of_eq c3; have : (2 : Int32).toInt = 2 := rfl; have : (5 : Int32).toInt = 5 := rfl; have := fb_rng (p1); have := fb_rng (p2); omega) (by have := w0; have := w2; have := w1; have := gi_of_ne c1; have := gi_of_eq c3; have : (2 : Int32).toInt = 2 := rfl; have : (5 : Int32).toInt = 5 := rfl; have := fb_rng (p1); have := fb_rng (p2); omega)) (fun h4 k4 => ?_)
      have s4 : SC h h4 := SC_trans (b := h) (SC_refl hI) k4.1
      exact ok_some ⟨s4, trivial⟩
    · refine ok_ob1 (hR_X2_readLevel h (p1 + 1) p2 ((SC_refl hI)).1 (by have := w0; have := w2; have := w1; have := gi_of_ne c1; have := gi_of_ne c3; have : (1 : Int32).toInt = 1 := rfl; have : (2 : Int32).toInt = 2 := rfl; have : (5 : Int32).toInt = 5 := rfl; have := fb_rng (p1); (try have := fb_addI (x := p1) (y := 1) (by omega) (by omega)); have := fb_rng (p2); omega) (by have := w0; have := w2; have := w1; have := gi_of_ne c1; have := gi_of_ne c3; have : (1 : Int32).toInt = 1 := rfl; have : (2 : Int32).toInt = 2 := rfl; have : (5 : Int32).toInt = 5 := rfl; have := fb_rng (p1); (try have := fb_addI (x := p1) (y := 1) (by omega) (by omega)); have := fb_rng (p2); omega) (by have := w0; have := w2; have := w1; have := gi_of_ne c1; have := gi_of_ne c3; have : (1 : Int32).toInt = 1 := rfl; have : (2 : Int32).toInt = 2 := rfl; have : (5 : Int32).toInt = 5 := rfl; have := fb_rng (p1); (try have := fb_addI (x := p1) (y := 1) (by omega) (by omega)); have := fb_rng (p2); omega)) (fun h5 k5 => ?_)
      have s5 : SC h h5 := SC_trans (b := h) (SC_refl hI) k5.1
      exact u_X2_readLevel_1_42 (h0 := h) p1 p2 (m := m) hR_X2_readLevel hR_X2_readAsk hR_X2_readOne 8589934592 h5 0 s5 (by have := w0; have := w2; have := w1; have := gi_of_ne c1; have := gi_of_ne c3; have : (2 : Int32).toInt = 2 := rfl; have : (5 : Int32).toInt = 5 := rfl; have := fb_rng (p1); omega) (by have := w0; have := w2; have := w1; have := fb_rng (p2); omega) (by have := w0; have := w2; have := w1; have := gi_of_ne c1; have := gi_of_ne c3; have : (2 : Int32).toInt = 2 := rfl; have : (5 : Int32).toInt = 5 := rfl; have := fb_rng (p1); have := fb_rng (p2); omega) (by decide) (by have := w0; have := w2; have := w1; have : (0 : Int32).toInt = 0 := rfl; omega)
theorem u_X2_readAsk_1_b   {kR_X2_readLevel : HS → Int32 → Int32 → Option HS} {kR_X2_readAsk : HS → Int32 → Option HS} {kR_X2_readOne : HS → Int32 → Option HS} (m : Int) (hR_X2_readLevel : ∀ (h : HS) (p1 p2 : Int32), IC h → (0 ≤ p1.toInt ∧ p1.toInt ≤ 5) → (0 ≤ p2.toInt ∧ p2.toInt ≤ 8) → 20 * (8 - p2.toInt) + 22 - 2 * p1.toInt < m → ok (kR_X2_readLevel h p1 p2) (fun a => SC h a ∧ True)) (hR_X2_readAsk : ∀ (h : HS) (p1 : Int32), IC h → (0 ≤ p1.toInt ∧ p1.toInt ≤ 8) → 20 * (8 - p1.toInt) + 17 < m → ok (kR_X2_readAsk h p1) (fun a => SC h a ∧ True)) (hR_X2_readOne : ∀ (h : HS) (p1 : Int32), IC h → (0 ≤ p1.toInt ∧ p1.toInt ≤ 8) → 20 * (8 - p1.toInt) + 5 < m → ok (kR_X2_readOne h p1) (fun a => SC h a ∧ True)) (h : HS) (p1 : Int32) (hI : IC h) (w0 : 0 ≤ p1.toInt ∧ p1.toInt ≤ 8) (w1 : 20 * (8 - p1.toInt) + 17 ≤ m) : ok (f_X2_readAsk_1_b kR_X2_readLevel kR_X2_readAsk kR_X2_readOne h p1) (fun a => SC h a ∧ True) := by
  unfold f_X2_readAsk_1_b
  refine ok_ob2 (u_X7_kind h ((SC_refl hI)).1) (fun r1 h1 k1 => ?_)
  have e1 : h = h1 := k1.1.symm
  subst e1
  refine ok_if (fun c2 => ?_) (fun c2 => ?_)
  · refine ok_ob2 (u_X2_opens h p1 ((SC_refl hI)).1) (fun r3 h3 k3 => ?_)
    have s3 : SC h h3 := SC_trans (b := h) (SC_refl hI) k3.1
    refine ok_if (fun c4 => ?_) (fun c4 => ?_)
    · unfold f_X2_readAsk_1_34
      exact ok_some ⟨s3, trivial⟩
    · refine ok_ob1 (hR_X2_readAsk h3 (p1 + 1) (s3).1 (by have := w0; have := w1; have : ((r3).toInt = 0 ∨ (p1).toInt < 8) := k3.2; have := gi_of_ne c4; have : (0 : Int32).toInt = 0 := rfl; have : (1 : Int32).toInt = 1 := rfl; have := fb_rng (r3); have := fb_rng (p1); (try have := fb_addI (x := p1) (y := 1) (by omega) (by omega)); omega) (by have := w0; have := w1; have : ((r3).toInt = 0 ∨ (p1).toInt < 8) := k3.2; have := gi_of_ne c4; have : (0 : Int32).toInt = 0 := rfl; have : (1 : Int32).toInt = 1 := rfl; have := fb_rng (r3); have := fb_rng (p1); (try have := fb_addI (x := p1) (y := 1) (by omega) (by omega)); omega)) (fun h5 k5 => ?_)
      have s5 : SC h h5 := SC_trans (b := h3) s3 k5.1
      refine ok_ob1 (u_X6_addStep_1 h5 20028 (s5).1) (fun h6 k6 => ?_)
      have s6 : SC h h6 := SC_trans (b := h5) s5 k6.1
      unfold f_X2_readAsk_1_34
      exact ok_some ⟨s6, trivial⟩
  · refine ok_ob1 (hR_X2_readLevel h 3 p1 ((SC_refl hI)).1 (by have := w0; have := w1; have : (3 : Int32).toInt = 3 := rfl; have := fb_rng (p1); omega) (by have := w0; have := w1; have : (3 : Int32).toInt = 3 := rfl; have := fb_rng (p1); omega) (by have := w0; have := w1; have : (3 : Int32).toInt = 3 := rfl; have := fb_rng (p1); omega)) (fun h7 k7 => ?_)
    have s7 : SC h h7 := SC_trans (b := h) (SC_refl hI) k7.1
    refine ok_ob2 (u_X7_kind h7 (s7).1) (fun r8 h8 k8 => ?_)
    have e8 : h7 = h8 := k8.1.symm
    subst e8
    refine ok_if (fun c9 => ?_) (fun c9 => ?_)
    · unfold f_X2_readAsk_1_62
      refine ok_ob1 (u_X2_fail h7 1 (s7).1) (fun h10 k10 => ?_)
      have s10 : SC h h10 := SC_trans (b := h7) s7 k10.1
      unfold f_X2_readAsk_1_68
      refine ok_if (fun c11 => ?_) (fun c11 => ?_)
      · refine ok_ob1 (u_X7_advance h10 (s10).1) (fun h12 k12 => ?_)
        have s12 : SC h h12 := SC_trans (b := h10) s10 k12.1
        refine ok_ob1 (hR_X2_readLevel h12 3 p1 (s12).1 (by have := w0; have := w1; have : (3 : Int32).toInt = 3 := rfl; have := fb_rng (p1); omega) (by have := w0; have := w1; have : (3 : Int32).toInt = 3 := rfl; have := fb_rng (p1); omega) (by have := w0; have := w1; have : (3 : Int32).toInt = 3 := rfl; have := fb_rng (p1); omega)) (fun h13 k13 => ?_)
        have s13 : SC h h13 := SC_trans (b := h12) s12 k13.1
        refine ok_ob1 (u_X6_addStep_1 h13 (20000 + r8) (s13).1) (fun h14 k14 => ?_)
        have s14 : SC h h14 := SC_trans (b := h13) s13 k14.1
        unfold f_X2_readAsk_1_97
        exact ok_some ⟨s14, trivial⟩
      · unfold f_X2_readAsk_1_97
        exact ok_some ⟨s10, trivial⟩
    · refine ok_if (fun c15 => ?_) (fun c15 => ?_)
      · unfold f_X2_readAsk_1_68
        refine ok_if (fun c16 => ?_) (fun c16 => ?_)
        · refine ok_ob1 (u_X7_advance h7 (s7).1) (fun h17 k17 => ?_)
          have s17 : SC h h17 := SC_trans (b := h7) s7 k17.1
          refine ok_ob1 (hR_X2_readLevel h17 3 p1 (s17).1 (by have := w0; have := w1; have : (3 : Int32).toInt = 3 := rfl; have := fb_rng (p1); omega) (by have := w0; have := w1; have : (3 : Int32).toInt = 3 := rfl; have := fb_rng (p1); omega) (by have := w0; have := w1; have : (3 : Int32).toInt = 3 := rfl; have := fb_rng (p1); omega)) (fun h18 k18 => ?_)
          have s18 : SC h h18 := SC_trans (b := h17) s17 k18.1
          refine ok_ob1 (u_X6_addStep_1 h18 (20000 + r8) (s18).1) (fun h19 k19 => ?_)
          have s19 : SC h h19 := SC_trans (b := h18) s18 k19.1
          unfold f_X2_readAsk_1_97
          exact ok_some ⟨s19, trivial⟩
        · unfold f_X2_readAsk_1_97
          exact ok_some ⟨s7, trivial⟩
      · unfold f_X2_readAsk_1_62
        refine ok_ob1 (u_X2_fail h7 1 (s7).1) (fun h20 k20 => ?_)
        have s20 : SC h h20 := SC_trans (b := h7) s7 k20.1
        unfold f_X2_readAsk_1_68
        refine ok_if (fun c21 => ?_) (fun c21 => ?_)
        · refine ok_ob1 (u_X7_advance h20 (s20).1) (fun h22 k22 => ?_)
          have s22 : SC h h22 := SC_trans (b := h20) s20 k22.1
          refine ok_ob1 (hR_X2_readLevel h22 3 p1 (s22).1 (by have := w0; have := w1; have : (3 : Int32).toInt = 3 := rfl; have := fb_rng (p1); omega) (by have := w0; have := w1; have : (3 : Int32).toInt = 3 := rfl; have := fb_rng (p1); omega) (by have := w0; have := w1; have : (3 : Int32).toInt = 3 := rfl; have := fb_rng (p1); omega)) (fun h23 k23 => ?_)
          have s23 : SC h h23 := SC_trans (b := h22) s22 k23.1
          refine ok_ob1 (u_X6_addStep_1 h23 (20000 + r8) (s23).1) (fun h24 k24 => ?_)
          have s24 : SC h h24 := SC_trans (b := h23) s23 k24.1
          unfold f_X2_readAsk_1_97
          exact ok_some ⟨s24, trivial⟩
        · unfold f_X2_readAsk_1_97
          exact ok_some ⟨s20, trivial⟩
theorem u_X2_readOne_1_b   {kR_X2_readLevel : HS → Int32 → Int32 → Option HS} {kR_X2_readAsk : HS → Int32 → Option HS} {kR_X2_readOne : HS → Int32 → Option HS} (m : Int) (hR_X2_readLevel : ∀ (h : HS) (p1 p2 : Int32), IC h → (0 ≤ p1.toInt ∧ p1.toInt ≤ 5) → (0 ≤ p2.toInt ∧ p2.toInt ≤ 8) → 20 * (8 - p2.toInt) + 22 - 2 * p1.toInt < m → ok (kR_X2_readLevel h p1 p2) (fun a => SC h a ∧ True)) (hR_X2_readAsk : ∀ (h : HS) (p1 : Int32), IC h → (0 ≤ p1.toInt ∧ p1.toInt ≤ 8) → 20 * (8 - p1.toInt) + 17 < m → ok (kR_X2_readAsk h p1) (fun a => SC h a ∧ True)) (hR_X2_readOne : ∀ (h : HS) (p1 : Int32), IC h → (0 ≤ p1.toInt ∧ p1.toInt ≤ 8) → 20 * (8 - p1.toInt) + 5 < m → ok (kR_X2_readOne h p1) (fun a => SC h a ∧ True)) (h : HS) (p1 : Int32) (hI : IC h) (w0 : 0 ≤ p1.toInt ∧ p1.toInt ≤ 8) (w1 : 20 * (8 - p1.toInt) + 5 ≤ m) : ok (f_X2_readOne_1_b kR_X2_readLevel kR_X2_readAsk kR_X2_readOne h p1) (fun a => SC h a ∧ True) := by
  unfold f_X2_readOne_1_b
  refine ok_ob2 (u_X7_kind h ((SC_refl hI)).1) (fun r1 h1 k1 => ?_)
  have e1 : h = h1 := k1.1.symm
  subst e1
  refine ok_if (fun c2 => ?_) (fun c2 => ?_)
  · refine ok_ob1 (u_X2_readValue_1 h ((SC_refl hI)).1) (fun h3 k3 => ?_)
    have s3 : SC h h3 := SC_trans (b := h) (SC_refl hI) k3.1
    unfold f_X2_readOne_1_121
    exact ok_some ⟨s3, trivial⟩
  · refine ok_if (fun c4 => ?_) (fun c4 => ?_)
    · unfold f_X2_readOne_1_44
      refine ok_if (fun c5 => ?_) (fun c5 => ?_)
      · refine ok_ob2 (u_X2_opens h p1 ((SC_refl hI)).1) (fun r6 h6 k6 => ?_)
        have s6 : SC h h6 := SC_trans (b := h) (SC_refl hI) k6.1
        refine ok_if (fun c7 => ?_) (fun c7 => ?_)
        · unfold f_X2_readOne_1_121
          exact ok_some ⟨s6, trivial⟩
        · refine ok_ob1 (hR_X2_readLevel h6 3 (p1 + 1) (s6).1 (by have := w0; have := w1; have : ((r6).toInt = 0 ∨ (p1).toInt < 8) := k6.2; have := gi_of_ne c7; have : (0 : Int32).toInt = 0 := rfl; have : (1 : Int32).toInt = 1 := rfl; have : (3 : Int32).toInt = 3 := rfl; have := fb_rng (r6); have := fb_rng (p1); (try have := fb_addI (x := p1) (y := 1) (by omega) (by omega)); omega) (by have := w0; have := w1; have : ((r6).toInt = 0 ∨ (p1).toInt < 8) := k6.2; have := gi_of_ne c7; have : (0 : Int32).toInt = 0 := rfl; have : (1 : Int32).toInt = 1 := rfl; have : (3 : Int32).toInt = 3 := rfl; have := fb_rng (r6); have := fb_rng (p1); (try have := fb_addI (x := p1) (y := 1) (by omega) (by omega)); omega) (by have := w0; have := w1; have : ((r6).toInt = 0 ∨ (p1).toInt < 8) := k6.2; have := gi_of_ne c7; have : (0 : Int32).toInt = 0 := rfl; have : (1 : Int32).toInt = 1 := rfl; have : (3 : Int32).toInt = 3 := rfl; have := fb_rng (r6); have := fb_rng (p1); (try have := fb_addI (x := p1) (y := 1) (by omega) (by omega)); omega)) (fun h8 k8 => ?_)
          have s8 : SC h h8 := SC_trans (b := h6) s6 k8.1
          refine ok_ob1 (u_X2_expect h8 14 (s8).1) (fun h9 k9 => ?_)
          have s9 : SC h h9 := SC_trans (b := h8) s8 k9.1
          unfold f_X2_readOne_1_121
          exact ok_some ⟨s9, trivial⟩
      · refine ok_if (fun c10 => ?_) (fun c10 => ?_)
        · refine ok_ob2 (u_X2_opens h p1 ((SC_refl hI)).1) (fun r11 h11 k11 => ?_)
          have s11 : SC h h11 := SC_trans (b := h) (SC_refl hI) k11.1
          refine ok_if (fun c12 => ?_) (fun c12 => ?_)
          · unfold f_X2_readOne_1_121
            exact ok_some ⟨s11, trivial⟩
          · refine ok_ob1 (hR_X2_readOne h11 (p1 + 1) (s11).1 (by have := w0; have := w1; have : ((r11).toInt = 0 ∨ (p1).toInt < 8) := k11.2; have := gi_of_ne c12; have : (0 : Int32).toInt = 0 := rfl; have : (1 : Int32).toInt = 1 := rfl; have := fb_rng (r11); have := fb_rng (p1); (try have := fb_addI (x := p1) (y := 1) (by omega) (by omega)); omega) (by have := w0; have := w1; have : ((r11).toInt = 0 ∨ (p1).toInt < 8) := k11.2; have := gi_of_ne c12; have : (0 : Int32).toInt = 0 := rfl; have : (1 : Int32).toInt = 1 := rfl; have := fb_rng (r11); have := fb_rng (p1); (try have := fb_addI (x := p1) (y := 1) (by omega) (by omega)); omega)) (fun h13 k13 => ?_)
            have s13 : SC h h13 := SC_trans (b := h11) s11 k13.1
            refine ok_ob1 (u_X6_addStep_1 h13 20038 (s13).1) (fun h14 k14 => ?_)
            have s14 : SC h h14 := SC_trans (b := h13) s13 k14.1
            unfold f_X2_readOne_1_121
            exact ok_some ⟨s14, trivial⟩
        · refine ok_ob1 (u_X2_fail h 1 ((SC_refl hI)).1) (fun h15 k15 => ?_)
          have s15 : SC h h15 := SC_trans (b := h) (SC_refl hI) k15.1
          unfold f_X2_readOne_1_121
          exact ok_some ⟨s15, trivial⟩
    · refine ok_if (fun c16 => ?_) (fun c16 => ?_)
      · unfold f_X2_readOne_1_44
        refine ok_if (fun c17 => ?_) (fun c17 => ?_)
        · refine ok_ob2 (u_X2_opens h p1 ((SC_refl hI)).1) (fun r18 h18 k18 => ?_)
          have s18 : SC h h18 := SC_trans (b := h) (SC_refl hI) k18.1
          refine ok_if (fun c19 => ?_) (fun c19 => ?_)
          · unfold f_X2_readOne_1_121
            exact ok_some ⟨s18, trivial⟩
          · refine ok_ob1 (hR_X2_readLevel h18 3 (p1 + 1) (s18).1 (by have := w0; have := w1; have : ((r18).toInt = 0 ∨ (p1).toInt < 8) := k18.2; have := gi_of_ne c19; have : (0 : Int32).toInt = 0 := rfl; have : (1 : Int32).toInt = 1 := rfl; have : (3 : Int32).toInt = 3 := rfl; have := fb_rng (r18); have := fb_rng (p1); (try have := fb_addI (x := p1) (y := 1) (by omega) (by omega)); omega) (by have := w0; have := w1; have : ((r18).toInt = 0 ∨ (p1).toInt < 8) := k18.2; have := gi_of_ne c19; have : (0 : Int32).toInt = 0 := rfl; have : (1 : Int32).toInt = 1 := rfl; have : (3 : Int32).toInt = 3 := rfl; have := fb_rng (r18); have := fb_rng (p1); (try have := fb_addI (x := p1) (y := 1) (by omega) (by omega)); omega) (by have := w0; have := w1; have : ((r18).toInt = 0 ∨ (p1).toInt < 8) := k18.2; have := gi_of_ne c19; have : (0 : Int32).toInt = 0 := rfl; have : (1 : Int32).toInt = 1 := rfl; have : (3 : Int32).toInt = 3 := rfl; have := fb_rng (r18); have := fb_rng (p1); (try have := fb_addI (x := p1) (y := 1) (by omega) (by omega)); omega)) (fun h20 k20 => ?_)
            have s20 : SC h h20 := SC_trans (b := h18) s18 k20.1
            refine ok_ob1 (u_X2_expect h20 14 (s20).1) (fun h21 k21 => ?_)
            have s21 : SC h h21 := SC_trans (b := h20) s20 k21.1
            unfold f_X2_readOne_1_121
            exact ok_some ⟨s21, trivial⟩
        · refine ok_if (fun c22 => ?_) (fun c22 => ?_)
          · refine ok_ob2 (u_X2_opens h p1 ((SC_refl hI)).1) (fun r23 h23 k23 => ?_)
            have s23 : SC h h23 := SC_trans (b := h) (SC_refl hI) k23.1
            refine ok_if (fun c24 => ?_) (fun c24 => ?_)
            · unfold f_X2_readOne_1_121
              exact ok_some ⟨s23, trivial⟩
            · refine ok_ob1 (hR_X2_readOne h23 (p1 + 1) (s23).1 (by have := w0; have := w1; have : ((r23).toInt = 0 ∨ (p1).toInt < 8) := k23.2; have := gi_of_ne c24; have : (0 : Int32).toInt = 0 := rfl; have : (1 : Int32).toInt = 1 := rfl; have := fb_rng (r23); have := fb_rng (p1); (try have := fb_addI (x := p1) (y := 1) (by omega) (by omega)); omega) (by have := w0; have := w1; have : ((r23).toInt = 0 ∨ (p1).toInt < 8) := k23.2; have := gi_of_ne c24; have : (0 : Int32).toInt = 0 := rfl; have : (1 : Int32).toInt = 1 := rfl; have := fb_rng (r23); have := fb_rng (p1); (try have := fb_addI (x := p1) (y := 1) (by omega) (by omega)); omega)) (fun h25 k25 => ?_)
              have s25 : SC h h25 := SC_trans (b := h23) s23 k25.1
              refine ok_ob1 (u_X6_addStep_1 h25 20038 (s25).1) (fun h26 k26 => ?_)
              have s26 : SC h h26 := SC_trans (b := h25) s25 k26.1
              unfold f_X2_readOne_1_121
              exact ok_some ⟨s26, trivial⟩
          · refine ok_ob1 (u_X2_fail h 1 ((SC_refl hI)).1) (fun h27 k27 => ?_)
            have s27 : SC h h27 := SC_trans (b := h) (SC_refl hI) k27.1
            unfold f_X2_readOne_1_121
            exact ok_some ⟨s27, trivial⟩
      · refine ok_ob1 (u_X2_readName_1 h ((SC_refl hI)).1) (fun h28 k28 => ?_)
        have s28 : SC h h28 := SC_trans (b := h) (SC_refl hI) k28.1
        unfold f_X2_readOne_1_121
        exact ok_some ⟨s28, trivial⟩
theorem u_G_read_1 : ∀ (n : Nat), (∀ (h : HS) (p1 p2 : Int32), IC h → (0 ≤ p1.toInt ∧ p1.toInt ≤ 5) → (0 ≤ p2.toInt ∧ p2.toInt ≤ 8) → 20 * (8 - p2.toInt) + 22 - 2 * p1.toInt < (n : Int) → ok (G_read_1 n 0 h p1 p2) (fun a => SC h a ∧ True)) ∧ (∀ (h : HS) (p1 : Int32), IC h → (0 ≤ p1.toInt ∧ p1.toInt ≤ 8) → 20 * (8 - p1.toInt) + 17 < (n : Int) → ok (G_read_1 n 1 h p1 0) (fun a => SC h a ∧ True)) ∧ (∀ (h : HS) (p1 : Int32), IC h → (0 ≤ p1.toInt ∧ p1.toInt ≤ 8) → 20 * (8 - p1.toInt) + 5 < (n : Int) → ok (G_read_1 n 2 h p1 0) (fun a => SC h a ∧ True)) := by
  intro n
  induction n with
  | zero => exact ⟨fun h p1 p2 hI h0 h2 hm => absurd hm (by omega), fun h p1 hI h0 hm => absurd hm (by omega), fun h p1 hI h0 hm => absurd hm (by omega)⟩
  | succ n ih =>
    obtain ⟨i0, i1, i2⟩ := ih
    refine ⟨fun h p1 p2 hI h0 h2 hm => ?_, fun h p1 hI h0 hm => ?_, fun h p1 hI h0 hm => ?_⟩
    · exact u_X2_readLevel_1_b (m := n) i0 i1 i2 h p1 p2 hI h0 h2 (by omega)
    · exact u_X2_readAsk_1_b (m := n) i0 i1 i2 h p1 hI h0 (by omega)
    · exact u_X2_readOne_1_b (m := n) i0 i1 i2 h p1 hI h0 (by omega)
theorem u_X2_readClause_1 (h : HS) (hI : IC h) : ok (f_X2_readClause_1 h) (fun a => SC h a ∧ True) := by
  unfold f_X2_readClause_1
  refine ok_ob2 (u_X7_kind h ((SC_refl hI)).1) (fun r1 h1 k1 => ?_)
  have e1 : h = h1 := k1.1.symm
  subst e1
  refine ok_if (fun c2 => ?_) (fun c2 => ?_)
  · unfold f_X2_readClause_1_25
    refine ok_ob1 (u_X2_fail (sI h 5 2 (r1 - 16)) 1 ((SC_refl hI)).1) (fun h3 k3 => ?_)
    have s3 : SC h h3 := SC_trans (b := (sI h 5 2 (r1 - 16))) (SC_refl hI) k3.1
    unfold f_X2_readClause_1_158
    exact ok_some ⟨s3, trivial⟩
  · refine ok_if (fun c4 => ?_) (fun c4 => ?_)
    · refine ok_ob2 (u_X6_hasLaw_1 (sI h 5 2 (r1 - 16)) (r1 - 16) ((SC_refl hI)).1) (fun r5 h5 k5 => ?_)
      have e5 : (sI h 5 2 (r1 - 16)) = h5 := k5.1.symm
      subst e5
      refine ok_if (fun c6 => ?_) (fun c6 => ?_)
      · refine ok_if (fun c7 => ?_) (fun c7 => ?_)
        · refine ok_ob1 (u_X6_setClause_1 (sI h 5 2 (r1 - 16)) (eI (sI h 5 2 (r1 - 16)) 10 1) 0 r1 ((SC_refl hI)).1) (fun h8 k8 => ?_)
          have s8 : SC h h8 := SC_trans (b := (sI h 5 2 (r1 - 16))) (SC_refl hI) k8.1
          refine ok_ob1 (u_X7_advance h8 (s8).1) (fun h9 k9 => ?_)
          have s9 : SC h h9 := SC_trans (b := h8) s8 k9.1
          refine ok_if (fun c10 => ?_) (fun c10 => ?_)
          · refine ok_ob1 (u_X2_readDeed_1 h9 r1 (s9).1) (fun h11 k11 => ?_)
            have s11 : SC h h11 := SC_trans (b := h9) s9 k11.1
            unfold f_X2_readClause_1_141
            refine ok_ob1 (u_X2_expect h11 15 (s11).1) (fun h12 k12 => ?_)
            have s12 : SC h h12 := SC_trans (b := h11) s11 k12.1
            unfold f_X2_readClause_1_158
            exact ok_some ⟨s12, trivial⟩
          · refine ok_ob1 (u_X6_beginLaw_1 h9 (eI h9 5 2) (s9).1) (fun h13 k13 => ?_)
            have s13 : SC h h13 := SC_trans (b := h9) s9 k13.1
            refine ok_if (fun c14 => ?_) (fun c14 => ?_)
            · unfold f_X2_readClause_1_119
              refine ok_ob1 ((u_G_read_1 200).1 h13 0 0 (s13).1 (by have : (0 : Int32).toInt = 0 := rfl; omega) (by have : (0 : Int32).toInt = 0 := rfl; omega) (by have : (0 : Int32).toInt = 0 := rfl; omega)) (fun h15 k15 => ?_)
              have s15 : SC h h15 := SC_trans (b := h13) s13 k15.1
              refine ok_ob1 (u_X6_closeLaw_1 h15 (eI h15 5 2) (s15).1) (fun h16 k16 => ?_)
              have s16 : SC h h16 := SC_trans (b := h15) s15 k16.1
              unfold f_X2_readClause_1_141
              refine ok_ob1 (u_X2_expect h16 15 (s16).1) (fun h17 k17 => ?_)
              have s17 : SC h h17 := SC_trans (b := h16) s16 k17.1
              unfold f_X2_readClause_1_158
              exact ok_some ⟨s17, trivial⟩
            · unfold f_X2_readClause_1_119
              refine ok_ob1 ((u_G_read_1 200).1 h13 3 0 (s13).1 (by have : (0 : Int32).toInt = 0 := rfl; have : (3 : Int32).toInt = 3 := rfl; omega) (by have : (0 : Int32).toInt = 0 := rfl; have : (3 : Int32).toInt = 3 := rfl; omega) (by have : (0 : Int32).toInt = 0 := rfl; have : (3 : Int32).toInt = 3 := rfl; omega)) (fun h18 k18 => ?_)
              have s18 : SC h h18 := SC_trans (b := h13) s13 k18.1
              refine ok_ob1 (u_X6_closeLaw_1 h18 (eI h18 5 2) (s18).1) (fun h19 k19 => ?_)
              have s19 : SC h h19 := SC_trans (b := h18) s18 k19.1
              unfold f_X2_readClause_1_141
              refine ok_ob1 (u_X2_expect h19 15 (s19).1) (fun h20 k20 => ?_)
              have s20 : SC h h20 := SC_trans (b := h19) s19 k20.1
              unfold f_X2_readClause_1_158
              exact ok_some ⟨s20, trivial⟩
        · refine ok_ob1 (u_X2_fail (sI h 5 2 (r1 - 16)) 6 ((SC_refl hI)).1) (fun h21 k21 => ?_)
          have s21 : SC h h21 := SC_trans (b := (sI h 5 2 (r1 - 16))) (SC_refl hI) k21.1
          unfold f_X2_readClause_1_158
          exact ok_some ⟨s21, trivial⟩
      · refine ok_ob1 (u_X2_fail (sI h 5 2 (r1 - 16)) 4 ((SC_refl hI)).1) (fun h22 k22 => ?_)
        have s22 : SC h h22 := SC_trans (b := (sI h 5 2 (r1 - 16))) (SC_refl hI) k22.1
        unfold f_X2_readClause_1_158
        exact ok_some ⟨s22, trivial⟩
    · unfold f_X2_readClause_1_25
      refine ok_ob1 (u_X2_fail (sI h 5 2 (r1 - 16)) 1 ((SC_refl hI)).1) (fun h23 k23 => ?_)
      have s23 : SC h h23 := SC_trans (b := (sI h 5 2 (r1 - 16))) (SC_refl hI) k23.1
      unfold f_X2_readClause_1_158
      exact ok_some ⟨s23, trivial⟩
theorem u_X2_parse_1_16 {h0 : HS} : ∀ (n : Nat) (h : HS) (x3 : Int32), SC h0 h → 0 < n → (25 - x3.toInt : Int) < (n : Int) → ok (f_X2_parse_1_16  n h x3) (fun a => SC h0 a ∧ True) := by
  intro n
  induction n with
  | zero =>
    intro h x3 hSC hn hm
    exact absurd hn (by decide)
  | succ n ih_X2_parse_1_16 =>
    intro h x3 hSC hn hm
    rw [f_X2_parse_1_16_s]
    refine ok_if (fun c1 => ?_) (fun c1 => ?_)
    · unfold f_X2_parse_1_48
      exact ok_some ⟨hSC, trivial⟩
    · refine ok_if (fun c2 => ?_) (fun c2 => ?_)
      · refine ok_ob2 (u_X7_kind h (hSC).1) (fun r3 h3 k3 => ?_)
        have e3 : h = h3 := k3.1.symm
        subst e3
        refine ok_if (fun c4 => ?_) (fun c4 => ?_)
        · unfold f_X2_parse_1_48
          exact ok_some ⟨hSC, trivial⟩
        · refine ok_ob1 (u_X2_readClause_1 h (hSC).1) (fun h5 k5 => ?_)
          have s5 : SC h0 h5 := SC_trans (b := h) hSC k5.1
          exact ih_X2_parse_1_16 h5 (x3 + 1) s5 (by have := hm; have := gi_of_nlt c1; have : (1 : Int32).toInt = 1 := rfl; have : (24 : Int32).toInt = 24 := rfl; have := fb_rng (x3); (try have := fb_addI (x := x3) (y := 1) (by omega) (by omega)); omega) (by have := hm; have := gi_of_nlt c1; have : (1 : Int32).toInt = 1 := rfl; have : (24 : Int32).toInt = 24 := rfl; have := fb_rng (x3); (try have := fb_addI (x := x3) (y := 1) (by omega) (by omega)); omega)
      · unfold f_X2_parse_1_48
        exact ok_some ⟨hSC, trivial⟩
theorem u_X2_parse_1 (h : HS) (hI : IC h) : ok (f_X2_parse_1 h) (fun a => SC h a ∧ True) := by
  unfold f_X2_parse_1
  refine ok_ob1 (u_X6_clear_1 (sI (sI h 5 0 0) 5 1 (-1)) ((SC_refl hI)).1) (fun h1 k1 => ?_)
  have s1 : SC h h1 := SC_trans (b := (sI (sI h 5 0 0) 5 1 (-1))) (SC_refl hI) k1.1
  exact u_X2_parse_1_16 (h0 := h) 8589934592 h1 0 s1 (by decide) (by have : (0 : Int32).toInt = 0 := rfl; omega)
theorem u_X2_readValue_2 (h : HS) (hI : IC h) : ok (f_X2_readValue_2 h) (fun a => SC h a ∧ True) := by
  unfold f_X2_readValue_2
  refine ok_ob2 (u_X7_value h ((SC_refl hI)).1) (fun r1 h1 k1 => ?_)
  have e1 : h = h1 := k1.1.symm
  subst e1
  refine ok_if (fun c2 => ?_) (fun c2 => ?_)
  · refine ok_ob2 (u_X7_value h ((SC_refl hI)).1) (fun r3 h3 k3 => ?_)
    have e3 : h = h3 := k3.1.symm
    subst e3
    refine ok_ob1 (u_X6_addStep_2 h r3 ((SC_refl hI)).1) (fun h4 k4 => ?_)
    have s4 : SC h h4 := SC_trans (b := h) (SC_refl hI) k4.1
    refine ok_ob1 (u_X7_advance h4 (s4).1) (fun h5 k5 => ?_)
    have s5 : SC h h5 := SC_trans (b := h4) s4 k5.1
    exact ok_some ⟨s5, trivial⟩
  · refine ok_ob1 (u_X2_fail h 2 ((SC_refl hI)).1) (fun h6 k6 => ?_)
    have s6 : SC h h6 := SC_trans (b := h) (SC_refl hI) k6.1
    exact ok_some ⟨s6, trivial⟩
theorem u_X2_readName_2 (h : HS) (hI : IC h) : ok (f_X2_readName_2 h) (fun a => SC h a ∧ True) := by
  unfold f_X2_readName_2
  refine ok_ob2 (u_X7_kind h ((SC_refl hI)).1) (fun r1 h1 k1 => ?_)
  have e1 : h = h1 := k1.1.symm
  subst e1
  refine ok_if (fun c2 => ?_) (fun c2 => ?_)
  · unfold f_X2_readName_2_31
    refine ok_ob2 (u_X7_kind h ((SC_refl hI)).1) (fun r3 h3 k3 => ?_)
    have e3 : h = h3 := k3.1.symm
    subst e3
    refine ok_ob1 (u_X6_addStep_2 h ((10000 + r3) - 29) ((SC_refl hI)).1) (fun h4 k4 => ?_)
    have s4 : SC h h4 := SC_trans (b := h) (SC_refl hI) k4.1
    refine ok_ob1 (u_X7_advance h4 (s4).1) (fun h5 k5 => ?_)
    have s5 : SC h h5 := SC_trans (b := h4) s4 k5.1
    exact ok_some ⟨s5, trivial⟩
  · refine ok_if (fun c6 => ?_) (fun c6 => ?_)
    · unfold f_X2_readName_2_31
      refine ok_ob2 (u_X7_kind h ((SC_refl hI)).1) (fun r7 h7 k7 => ?_)
      have e7 : h = h7 := k7.1.symm
      subst e7
      refine ok_ob1 (u_X6_addStep_2 h ((10000 + r7) - 29) ((SC_refl hI)).1) (fun h8 k8 => ?_)
      have s8 : SC h h8 := SC_trans (b := h) (SC_refl hI) k8.1
      refine ok_ob1 (u_X7_advance h8 (s8).1) (fun h9 k9 => ?_)
      have s9 : SC h h9 := SC_trans (b := h8) s8 k9.1
      exact ok_some ⟨s9, trivial⟩
    · refine ok_if (fun c10 => ?_) (fun c10 => ?_)
      · unfold f_X2_readName_2_31
        refine ok_ob2 (u_X7_kind h ((SC_refl hI)).1) (fun r11 h11 k11 => ?_)
        have e11 : h = h11 := k11.1.symm
        subst e11
        refine ok_ob1 (u_X6_addStep_2 h ((10000 + r11) - 29) ((SC_refl hI)).1) (fun h12 k12 => ?_)
        have s12 : SC h h12 := SC_trans (b := h) (SC_refl hI) k12.1
        refine ok_ob1 (u_X7_advance h12 (s12).1) (fun h13 k13 => ?_)
        have s13 : SC h h13 := SC_trans (b := h12) s12 k13.1
        exact ok_some ⟨s13, trivial⟩
      · refine ok_ob1 (u_X2_fail h 5 ((SC_refl hI)).1) (fun h14 k14 => ?_)
        have s14 : SC h h14 := SC_trans (b := h) (SC_refl hI) k14.1
        exact ok_some ⟨s14, trivial⟩
theorem u_X2_readNumber_2 (h : HS) (p1 : Int32) (p2 : Int32) (p3 : Int32) (hI : IC h) : ok (f_X2_readNumber_2 h p1 p2 p3) (fun a => SC h a ∧ True) := by
  unfold f_X2_readNumber_2
  refine ok_if (fun c1 => ?_) (fun c1 => ?_)
  · refine ok_ob2 (u_X7_kind h ((SC_refl hI)).1) (fun r2 h2 k2 => ?_)
    have e2 : h = h2 := k2.1.symm
    subst e2
    refine ok_if (fun c3 => ?_) (fun c3 => ?_)
    · refine ok_ob2 (u_X7_value h ((SC_refl hI)).1) (fun r4 h4 k4 => ?_)
      have e4 : h = h4 := k4.1.symm
      subst e4
      refine ok_if (fun c5 => ?_) (fun c5 => ?_)
      · unfold f_X2_readNumber_2_43
        refine ok_ob1 (u_X2_fail h 2 ((SC_refl hI)).1) (fun h6 k6 => ?_)
        have s6 : SC h h6 := SC_trans (b := h) (SC_refl hI) k6.1
        unfold f_X2_readNumber_2_69
        exact ok_some ⟨s6, trivial⟩
      · refine ok_ob2 (u_X7_value h ((SC_refl hI)).1) (fun r7 h7 k7 => ?_)
        have e7 : h = h7 := k7.1.symm
        subst e7
        refine ok_if (fun c8 => ?_) (fun c8 => ?_)
        · refine ok_ob2 (u_X7_value h ((SC_refl hI)).1) (fun r9 h9 k9 => ?_)
          have e9 : h = h9 := k9.1.symm
          subst e9
          refine ok_ob1 (u_X6_setClause_2 h (eI h 11 1) p1 r9 ((SC_refl hI)).1) (fun h10 k10 => ?_)
          have s10 : SC h h10 := SC_trans (b := h) (SC_refl hI) k10.1
          refine ok_ob1 (u_X7_advance h10 (s10).1) (fun h11 k11 => ?_)
          have s11 : SC h h11 := SC_trans (b := h10) s10 k11.1
          unfold f_X2_readNumber_2_69
          exact ok_some ⟨s11, trivial⟩
        · unfold f_X2_readNumber_2_43
          refine ok_ob1 (u_X2_fail h 2 ((SC_refl hI)).1) (fun h12 k12 => ?_)
          have s12 : SC h h12 := SC_trans (b := h) (SC_refl hI) k12.1
          unfold f_X2_readNumber_2_69
          exact ok_some ⟨s12, trivial⟩
    · refine ok_ob1 (u_X2_fail h 1 ((SC_refl hI)).1) (fun h13 k13 => ?_)
      have s13 : SC h h13 := SC_trans (b := h) (SC_refl hI) k13.1
      unfold f_X2_readNumber_2_69
      exact ok_some ⟨s13, trivial⟩
  · exact ok_some ⟨(SC_refl hI), trivial⟩
theorem u_X2_readDeed_2 (h : HS) (p1 : Int32) (hI : IC h) : ok (f_X2_readDeed_2 h p1) (fun a => SC h a ∧ True) := by
  unfold f_X2_readDeed_2
  refine ok_if (fun c1 => ?_) (fun c1 => ?_)
  · refine ok_ob1 (u_X2_readNumber_2 h 1 1 99 ((SC_refl hI)).1) (fun h2 k2 => ?_)
    have s2 : SC h h2 := SC_trans (b := h) (SC_refl hI) k2.1
    exact ok_some ⟨s2, trivial⟩
  · refine ok_ob1 (u_X2_readNumber_2 h 1 0 9 ((SC_refl hI)).1) (fun h3 k3 => ?_)
    have s3 : SC h h3 := SC_trans (b := h) (SC_refl hI) k3.1
    refine ok_if (fun c4 => ?_) (fun c4 => ?_)
    · refine ok_ob1 (u_X2_expect h3 24 (s3).1) (fun h5 k5 => ?_)
      have s5 : SC h h5 := SC_trans (b := h3) s3 k5.1
      refine ok_ob1 (u_X2_readNumber_2 h5 2 0 5 (s5).1) (fun h6 k6 => ?_)
      have s6 : SC h h6 := SC_trans (b := h5) s5 k6.1
      refine ok_ob1 (u_X2_expect h6 33 (s6).1) (fun h7 k7 => ?_)
      have s7 : SC h h7 := SC_trans (b := h6) s6 k7.1
      refine ok_ob1 (u_X2_readNumber_2 h7 3 0 2 (s7).1) (fun h8 k8 => ?_)
      have s8 : SC h h8 := SC_trans (b := h7) s7 k8.1
      unfold f_X2_readDeed_2_90
      exact ok_some ⟨s8, trivial⟩
    · refine ok_if (fun c9 => ?_) (fun c9 => ?_)
      · refine ok_ob1 (u_X2_expect h3 25 (s3).1) (fun h10 k10 => ?_)
        have s10 : SC h h10 := SC_trans (b := h3) s3 k10.1
        refine ok_ob1 (u_X2_readNumber_2 h10 2 0 3 (s10).1) (fun h11 k11 => ?_)
        have s11 : SC h h11 := SC_trans (b := h10) s10 k11.1
        unfold f_X2_readDeed_2_90
        exact ok_some ⟨s11, trivial⟩
      · unfold f_X2_readDeed_2_90
        exact ok_some ⟨s3, trivial⟩
theorem u_X2_readLevel_2_42 {h0 : HS} (x3 : Int32) (x4 : Int32) {kR_X2_readLevel : HS → Int32 → Int32 → Option HS} {kR_X2_readAsk : HS → Int32 → Option HS} {kR_X2_readOne : HS → Int32 → Option HS} (m : Int) (hR_X2_readLevel : ∀ (h : HS) (p1 p2 : Int32), IC h → (0 ≤ p1.toInt ∧ p1.toInt ≤ 5) → (0 ≤ p2.toInt ∧ p2.toInt ≤ 8) → 20 * (8 - p2.toInt) + 22 - 2 * p1.toInt < m → ok (kR_X2_readLevel h p1 p2) (fun a => SC h a ∧ True)) (hR_X2_readAsk : ∀ (h : HS) (p1 : Int32), IC h → (0 ≤ p1.toInt ∧ p1.toInt ≤ 8) → 20 * (8 - p1.toInt) + 17 < m → ok (kR_X2_readAsk h p1) (fun a => SC h a ∧ True)) (hR_X2_readOne : ∀ (h : HS) (p1 : Int32), IC h → (0 ≤ p1.toInt ∧ p1.toInt ≤ 8) → 20 * (8 - p1.toInt) + 5 < m → ok (kR_X2_readOne h p1) (fun a => SC h a ∧ True))   : ∀ (n : Nat) (h : HS) (x5 : Int32), SC h0 h → (0 ≤ x3.toInt ∧ x3.toInt ≤ 4) → (0 ≤ x4.toInt ∧ x4.toInt ≤ 8) → 20 * (8 - x4.toInt) + 22 - 2 * x3.toInt ≤ m → 0 < n → (300 - (x5).toInt : Int) < (n : Int) → ok (f_X2_readLevel_2_42 kR_X2_readLevel kR_X2_readAsk kR_X2_readOne n h x3 x4 x5) (fun a => SC h0 a ∧ True) := by
  intro n
  induction n with
  | zero =>
    intro h x5 hSC i0 i1 i2 hn hm
    exact absurd hn (by decide)
  | succ n ih_X2_readLevel_2_42 =>
    intro h x5 hSC i0 i1 i2 hn hm
    rw [f_X2_readLevel_2_42_s]
    refine ok_if (fun c1 => ?_) (fun c1 => ?_)
    · unfold f_X2_readLevel_2_105
      exact ok_some ⟨hSC, trivial⟩
    · refine ok_if (fun c2 => ?_) (fun c2 => ?_)
      · refine ok_ob2 (u_X7_kind h (hSC).1) (fun r3 h3 k3 => ?_)
        have e3 : h = h3 := k3.1.symm
        subst e3
        refine ok_ob1 (u_X2_levelOf r3) (fun r4 k4 => ?_)
        refine ok_if (fun c5 => ?_) (fun c5 => ?_)
        · refine ok_ob2 (u_X7_kind h (hSC).1) (fun r6 h6 k6 => ?_)
          have e6 : h = h6 := k6.1.symm
          subst e6
          refine ok_ob1 (u_X7_advance h (hSC).1) (fun h7 k7 => ?_)
          have s7 : SC h0 h7 := SC_trans (b := h) hSC k7.1
          refine ok_ob1 (hR_X2_readLevel h7 (x3 + 1) x4 (s7).1 (by have := i0; have := i1; have := i2; have := hm; have := gi_of_nle c1; have := gi_of_eq c5; have : (1 : Int32).toInt = 1 := rfl; have : (300 : Int32).toInt = 300 := rfl; have := fb_rng (x5); have := fb_rng (r4); have := fb_rng (x3); (try have := fb_addI (x := x3) (y := 1) (by omega) (by omega)); have := fb_rng (x4); omega) (by have := i0; have := i1; have := i2; have := hm; have := gi_of_nle c1; have := gi_of_eq c5; have : (1 : Int32).toInt = 1 := rfl; have : (300 : Int32).toInt = 300 := rfl; have := fb_rng (x5); have := fb_rng (r4); have := fb_rng (x3); (try have := fb_addI (x := x3) (y := 1) (by omega) (by omega)); have := fb_rng (x4); omega) (by have := i0; have := i1; have := i2; have := hm; have := gi_of_nle c1; have := gi_of_eq c5; have : (1 : Int32).toInt = 1 := rfl; have : (300 : Int32).toInt = 300 := rfl; have := fb_rng (x5); have := fb_rng (r4); have := fb_rng (x3); (try have := fb_addI (x := x3) (y := 1) (by omega) (by omega)); have := fb_rng (x4); omega)) (fun h8 k8 => ?_)
          have s8 : SC h0 h8 := SC_trans (b := h7) s7 k8.1
          refine ok_ob1 (u_X6_addStep_2 h8 (20000 + r6) (s8).1) (fun h9 k9 => ?_)
          have s9 : SC h0 h9 := SC_trans (b := h8) s8 k9.1
          exact ih_X2_readLevel_2_42 h9 (x5 + 1) s9 (by have := i0; have := i1; have := i2; have := hm; have := gi_of_eq c5; have := fb_rng (r4); have := fb_rng (x3); omega) (by have := i0; have := i1; have := i2; have := hm; have := fb_rng (x4); omega) (by have := i0; have := i1; have := i2; have := hm; have := gi_of_eq c5; have := fb_rng (r4); have := fb_rng (x3); have := fb_rng (x4); omega) (by have := i0; have := i1; have := i2; have := hm; have := gi_of_nle c1; have : (1 : Int32).toInt = 1 := rfl; have : (300 : Int32).toInt = 300 := rfl; have := fb_rng (x5); (try have := fb_addI (x := x5) (y := 1) (by omega) (by omega)); omega) (by have := i0; have := i1; have := i2; have := hm; have := gi_of_nle c1; have : (1 : Int32).toInt = 1 := rfl; have : (300 : Int32).toInt = 300 := rfl; have := fb_rng (x5); (try have := fb_addI (x := x5) (y := 1) (by omega) (by omega)); omega)
        · unfold f_X2_readLevel_2_105
          exact ok_some ⟨hSC, trivial⟩
      · unfold f_X2_readLevel_2_105
        exact ok_some ⟨hSC, trivial⟩
theorem u_X2_readLevel_2_b   {kR_X2_readLevel : HS → Int32 → Int32 → Option HS} {kR_X2_readAsk : HS → Int32 → Option HS} {kR_X2_readOne : HS → Int32 → Option HS} (m : Int) (hR_X2_readLevel : ∀ (h : HS) (p1 p2 : Int32), IC h → (0 ≤ p1.toInt ∧ p1.toInt ≤ 5) → (0 ≤ p2.toInt ∧ p2.toInt ≤ 8) → 20 * (8 - p2.toInt) + 22 - 2 * p1.toInt < m → ok (kR_X2_readLevel h p1 p2) (fun a => SC h a ∧ True)) (hR_X2_readAsk : ∀ (h : HS) (p1 : Int32), IC h → (0 ≤ p1.toInt ∧ p1.toInt ≤ 8) → 20 * (8 - p1.toInt) + 17 < m → ok (kR_X2_readAsk h p1) (fun a => SC h a ∧ True)) (hR_X2_readOne : ∀ (h : HS) (p1 : Int32), IC h → (0 ≤ p1.toInt ∧ p1.toInt ≤ 8) → 20 * (8 - p1.toInt) + 5 < m → ok (kR_X2_readOne h p1) (fun a => SC h a ∧ True)) (h : HS) (p1 : Int32) (p2 : Int32) (hI : IC h) (w0 : 0 ≤ p1.toInt ∧ p1.toInt ≤ 5) (w2 : 0 ≤ p2.toInt ∧ p2.toInt ≤ 8) (w1 : 20 * (8 - p2.toInt) + 22 - 2 * p1.toInt ≤ m) : ok (f_X2_readLevel_2_b kR_X2_readLevel kR_X2_readAsk kR_X2_readOne h p1 p2) (fun a => SC h a ∧ True) := by
  unfold f_X2_readLevel_2_b
  refine ok_if (fun c1 => ?_) (fun c1 => ?_)
  · refine ok_ob1 (hR_X2_readAsk h p2 ((SC_refl hI)).1 (by have := w0; have := w2; have := w1; have := gi_of_eq c1; have : (2 : Int32).toInt = 2 := rfl; have := fb_rng (p1); have := fb_rng (p2); omega) (by have := w0; have := w2; have := w1; have := gi_of_eq c1; have : (2 : Int32).toInt = 2 := rfl; have := fb_rng (p1); have := fb_rng (p2); omega)) (fun h2 k2 => ?_)
    have s2 : SC h h2 := SC_trans (b := h) (SC_refl hI) k2.1
    exact ok_some ⟨s2, trivial⟩
  · refine ok_if (fun c3 => ?_) (fun c3 => ?_)
    · refine ok_ob1 (hR_X2_readOne h p2 ((SC_refl hI)).1 (by have := w0; have := w2; have := w1; have := gi_of_ne c1; have := gi_of_eq c3; have : (2 : Int32).toInt = 2 := rfl; have : (5 : Int32).toInt = 5 := rfl; have := fb_rng (p1); have := fb_rng (p2); omega) (by have := w0; have := w2; have := w1; have := gi_of_ne c1; have := gi_of_eq c3; have : (2 : Int32).toInt = 2 := rfl; have : (5 : Int32).toInt = 5 := rfl; have := fb_rng (p1); have := fb_rng (p2); omega)) (fun h4 k4 => ?_)
      have s4 : SC h h4 := SC_trans (b := h) (SC_refl hI) k4.1
      exact ok_some ⟨s4, trivial⟩
    · refine ok_ob1 (hR_X2_readLevel h (p1 + 1) p2 ((SC_refl hI)).1 (by have := w0; have := w2; have := w1; have := gi_of_ne c1; have := gi_of_ne c3; have : (1 : Int32).toInt = 1 := rfl; have : (2 : Int32).toInt = 2 := rfl; have : (5 : Int32).toInt = 5 := rfl; have := fb_rng (p1); (try have := fb_addI (x := p1) (y := 1) (by omega) (by omega)); have := fb_rng (p2); omega) (by have := w0; have := w2; have := w1; have := gi_of_ne c1; have := gi_of_ne c3; have : (1 : Int32).toInt = 1 := rfl; have : (2 : Int32).toInt = 2 := rfl; have : (5 : Int32).toInt = 5 := rfl; have := fb_rng (p1); (try have := fb_addI (x := p1) (y := 1) (by omega) (by omega)); have := fb_rng (p2); omega) (by have := w0; have := w2; have := w1; have := gi_of_ne c1; have := gi_of_ne c3; have : (1 : Int32).toInt = 1 := rfl; have : (2 : Int32).toInt = 2 := rfl; have : (5 : Int32).toInt = 5 := rfl; have := fb_rng (p1); (try have := fb_addI (x := p1) (y := 1) (by omega) (by omega)); have := fb_rng (p2); omega)) (fun h5 k5 => ?_)
      have s5 : SC h h5 := SC_trans (b := h) (SC_refl hI) k5.1
      exact u_X2_readLevel_2_42 (h0 := h) p1 p2 (m := m) hR_X2_readLevel hR_X2_readAsk hR_X2_readOne 8589934592 h5 0 s5 (by have := w0; have := w2; have := w1; have := gi_of_ne c1; have := gi_of_ne c3; have : (2 : Int32).toInt = 2 := rfl; have : (5 : Int32).toInt = 5 := rfl; have := fb_rng (p1); omega) (by have := w0; have := w2; have := w1; have := fb_rng (p2); omega) (by have := w0; have := w2; have := w1; have := gi_of_ne c1; have := gi_of_ne c3; have : (2 : Int32).toInt = 2 := rfl; have : (5 : Int32).toInt = 5 := rfl; have := fb_rng (p1); have := fb_rng (p2); omega) (by decide) (by have := w0; have := w2; have := w1; have : (0 : Int32).toInt = 0 := rfl; omega)
theorem u_X2_readAsk_2_b   {kR_X2_readLevel : HS → Int32 → Int32 → Option HS} {kR_X2_readAsk : HS → Int32 → Option HS} {kR_X2_readOne : HS → Int32 → Option HS} (m : Int) (hR_X2_readLevel : ∀ (h : HS) (p1 p2 : Int32), IC h → (0 ≤ p1.toInt ∧ p1.toInt ≤ 5) → (0 ≤ p2.toInt ∧ p2.toInt ≤ 8) → 20 * (8 - p2.toInt) + 22 - 2 * p1.toInt < m → ok (kR_X2_readLevel h p1 p2) (fun a => SC h a ∧ True)) (hR_X2_readAsk : ∀ (h : HS) (p1 : Int32), IC h → (0 ≤ p1.toInt ∧ p1.toInt ≤ 8) → 20 * (8 - p1.toInt) + 17 < m → ok (kR_X2_readAsk h p1) (fun a => SC h a ∧ True)) (hR_X2_readOne : ∀ (h : HS) (p1 : Int32), IC h → (0 ≤ p1.toInt ∧ p1.toInt ≤ 8) → 20 * (8 - p1.toInt) + 5 < m → ok (kR_X2_readOne h p1) (fun a => SC h a ∧ True)) (h : HS) (p1 : Int32) (hI : IC h) (w0 : 0 ≤ p1.toInt ∧ p1.toInt ≤ 8) (w1 : 20 * (8 - p1.toInt) + 17 ≤ m) : ok (f_X2_readAsk_2_b kR_X2_readLevel kR_X2_readAsk kR_X2_readOne h p1) (fun a => SC h a ∧ True) := by
  unfold f_X2_readAsk_2_b
  refine ok_ob2 (u_X7_kind h ((SC_refl hI)).1) (fun r1 h1 k1 => ?_)
  have e1 : h = h1 := k1.1.symm
  subst e1
  refine ok_if (fun c2 => ?_) (fun c2 => ?_)
  · refine ok_ob2 (u_X2_opens h p1 ((SC_refl hI)).1) (fun r3 h3 k3 => ?_)
    have s3 : SC h h3 := SC_trans (b := h) (SC_refl hI) k3.1
    refine ok_if (fun c4 => ?_) (fun c4 => ?_)
    · unfold f_X2_readAsk_2_34
      exact ok_some ⟨s3, trivial⟩
    · refine ok_ob1 (hR_X2_readAsk h3 (p1 + 1) (s3).1 (by have := w0; have := w1; have : ((r3).toInt = 0 ∨ (p1).toInt < 8) := k3.2; have := gi_of_ne c4; have : (0 : Int32).toInt = 0 := rfl; have : (1 : Int32).toInt = 1 := rfl; have := fb_rng (r3); have := fb_rng (p1); (try have := fb_addI (x := p1) (y := 1) (by omega) (by omega)); omega) (by have := w0; have := w1; have : ((r3).toInt = 0 ∨ (p1).toInt < 8) := k3.2; have := gi_of_ne c4; have : (0 : Int32).toInt = 0 := rfl; have : (1 : Int32).toInt = 1 := rfl; have := fb_rng (r3); have := fb_rng (p1); (try have := fb_addI (x := p1) (y := 1) (by omega) (by omega)); omega)) (fun h5 k5 => ?_)
      have s5 : SC h h5 := SC_trans (b := h3) s3 k5.1
      refine ok_ob1 (u_X6_addStep_2 h5 20028 (s5).1) (fun h6 k6 => ?_)
      have s6 : SC h h6 := SC_trans (b := h5) s5 k6.1
      unfold f_X2_readAsk_2_34
      exact ok_some ⟨s6, trivial⟩
  · refine ok_ob1 (hR_X2_readLevel h 3 p1 ((SC_refl hI)).1 (by have := w0; have := w1; have : (3 : Int32).toInt = 3 := rfl; have := fb_rng (p1); omega) (by have := w0; have := w1; have : (3 : Int32).toInt = 3 := rfl; have := fb_rng (p1); omega) (by have := w0; have := w1; have : (3 : Int32).toInt = 3 := rfl; have := fb_rng (p1); omega)) (fun h7 k7 => ?_)
    have s7 : SC h h7 := SC_trans (b := h) (SC_refl hI) k7.1
    refine ok_ob2 (u_X7_kind h7 (s7).1) (fun r8 h8 k8 => ?_)
    have e8 : h7 = h8 := k8.1.symm
    subst e8
    refine ok_if (fun c9 => ?_) (fun c9 => ?_)
    · unfold f_X2_readAsk_2_62
      refine ok_ob1 (u_X2_fail h7 1 (s7).1) (fun h10 k10 => ?_)
      have s10 : SC h h10 := SC_trans (b := h7) s7 k10.1
      unfold f_X2_readAsk_2_68
      refine ok_if (fun c11 => ?_) (fun c11 => ?_)
      · refine ok_ob1 (u_X7_advance h10 (s10).1) (fun h12 k12 => ?_)
        have s12 : SC h h12 := SC_trans (b := h10) s10 k12.1
        refine ok_ob1 (hR_X2_readLevel h12 3 p1 (s12).1 (by have := w0; have := w1; have : (3 : Int32).toInt = 3 := rfl; have := fb_rng (p1); omega) (by have := w0; have := w1; have : (3 : Int32).toInt = 3 := rfl; have := fb_rng (p1); omega) (by have := w0; have := w1; have : (3 : Int32).toInt = 3 := rfl; have := fb_rng (p1); omega)) (fun h13 k13 => ?_)
        have s13 : SC h h13 := SC_trans (b := h12) s12 k13.1
        refine ok_ob1 (u_X6_addStep_2 h13 (20000 + r8) (s13).1) (fun h14 k14 => ?_)
        have s14 : SC h h14 := SC_trans (b := h13) s13 k14.1
        unfold f_X2_readAsk_2_97
        exact ok_some ⟨s14, trivial⟩
      · unfold f_X2_readAsk_2_97
        exact ok_some ⟨s10, trivial⟩
    · refine ok_if (fun c15 => ?_) (fun c15 => ?_)
      · unfold f_X2_readAsk_2_68
        refine ok_if (fun c16 => ?_) (fun c16 => ?_)
        · refine ok_ob1 (u_X7_advance h7 (s7).1) (fun h17 k17 => ?_)
          have s17 : SC h h17 := SC_trans (b := h7) s7 k17.1
          refine ok_ob1 (hR_X2_readLevel h17 3 p1 (s17).1 (by have := w0; have := w1; have : (3 : Int32).toInt = 3 := rfl; have := fb_rng (p1); omega) (by have := w0; have := w1; have : (3 : Int32).toInt = 3 := rfl; have := fb_rng (p1); omega) (by have := w0; have := w1; have : (3 : Int32).toInt = 3 := rfl; have := fb_rng (p1); omega)) (fun h18 k18 => ?_)
          have s18 : SC h h18 := SC_trans (b := h17) s17 k18.1
          refine ok_ob1 (u_X6_addStep_2 h18 (20000 + r8) (s18).1) (fun h19 k19 => ?_)
          have s19 : SC h h19 := SC_trans (b := h18) s18 k19.1
          unfold f_X2_readAsk_2_97
          exact ok_some ⟨s19, trivial⟩
        · unfold f_X2_readAsk_2_97
          exact ok_some ⟨s7, trivial⟩
      · unfold f_X2_readAsk_2_62
        refine ok_ob1 (u_X2_fail h7 1 (s7).1) (fun h20 k20 => ?_)
        have s20 : SC h h20 := SC_trans (b := h7) s7 k20.1
        unfold f_X2_readAsk_2_68
        refine ok_if (fun c21 => ?_) (fun c21 => ?_)
        · refine ok_ob1 (u_X7_advance h20 (s20).1) (fun h22 k22 => ?_)
          have s22 : SC h h22 := SC_trans (b := h20) s20 k22.1
          refine ok_ob1 (hR_X2_readLevel h22 3 p1 (s22).1 (by have := w0; have := w1; have : (3 : Int32).toInt = 3 := rfl; have := fb_rng (p1); omega) (by have := w0; have := w1; have : (3 : Int32).toInt = 3 := rfl; have := fb_rng (p1); omega) (by have := w0; have := w1; have : (3 : Int32).toInt = 3 := rfl; have := fb_rng (p1); omega)) (fun h23 k23 => ?_)
          have s23 : SC h h23 := SC_trans (b := h22) s22 k23.1
          refine ok_ob1 (u_X6_addStep_2 h23 (20000 + r8) (s23).1) (fun h24 k24 => ?_)
          have s24 : SC h h24 := SC_trans (b := h23) s23 k24.1
          unfold f_X2_readAsk_2_97
          exact ok_some ⟨s24, trivial⟩
        · unfold f_X2_readAsk_2_97
          exact ok_some ⟨s20, trivial⟩
theorem u_X2_readOne_2_b   {kR_X2_readLevel : HS → Int32 → Int32 → Option HS} {kR_X2_readAsk : HS → Int32 → Option HS} {kR_X2_readOne : HS → Int32 → Option HS} (m : Int) (hR_X2_readLevel : ∀ (h : HS) (p1 p2 : Int32), IC h → (0 ≤ p1.toInt ∧ p1.toInt ≤ 5) → (0 ≤ p2.toInt ∧ p2.toInt ≤ 8) → 20 * (8 - p2.toInt) + 22 - 2 * p1.toInt < m → ok (kR_X2_readLevel h p1 p2) (fun a => SC h a ∧ True)) (hR_X2_readAsk : ∀ (h : HS) (p1 : Int32), IC h → (0 ≤ p1.toInt ∧ p1.toInt ≤ 8) → 20 * (8 - p1.toInt) + 17 < m → ok (kR_X2_readAsk h p1) (fun a => SC h a ∧ True)) (hR_X2_readOne : ∀ (h : HS) (p1 : Int32), IC h → (0 ≤ p1.toInt ∧ p1.toInt ≤ 8) → 20 * (8 - p1.toInt) + 5 < m → ok (kR_X2_readOne h p1) (fun a => SC h a ∧ True)) (h : HS) (p1 : Int32) (hI : IC h) (w0 : 0 ≤ p1.toInt ∧ p1.toInt ≤ 8) (w1 : 20 * (8 - p1.toInt) + 5 ≤ m) : ok (f_X2_readOne_2_b kR_X2_readLevel kR_X2_readAsk kR_X2_readOne h p1) (fun a => SC h a ∧ True) := by
  unfold f_X2_readOne_2_b
  refine ok_ob2 (u_X7_kind h ((SC_refl hI)).1) (fun r1 h1 k1 => ?_)
  have e1 : h = h1 := k1.1.symm
  subst e1
  refine ok_if (fun c2 => ?_) (fun c2 => ?_)
  · refine ok_ob1 (u_X2_readValue_2 h ((SC_refl hI)).1) (fun h3 k3 => ?_)
    have s3 : SC h h3 := SC_trans (b := h) (SC_refl hI) k3.1
    unfold f_X2_readOne_2_121
    exact ok_some ⟨s3, trivial⟩
  · refine ok_if (fun c4 => ?_) (fun c4 => ?_)
    · unfold f_X2_readOne_2_44
      refine ok_if (fun c5 => ?_) (fun c5 => ?_)
      · refine ok_ob2 (u_X2_opens h p1 ((SC_refl hI)).1) (fun r6 h6 k6 => ?_)
        have s6 : SC h h6 := SC_trans (b := h) (SC_refl hI) k6.1
        refine ok_if (fun c7 => ?_) (fun c7 => ?_)
        · unfold f_X2_readOne_2_121
          exact ok_some ⟨s6, trivial⟩
        · refine ok_ob1 (hR_X2_readLevel h6 3 (p1 + 1) (s6).1 (by have := w0; have := w1; have : ((r6).toInt = 0 ∨ (p1).toInt < 8) := k6.2; have := gi_of_ne c7; have : (0 : Int32).toInt = 0 := rfl; have : (1 : Int32).toInt = 1 := rfl; have : (3 : Int32).toInt = 3 := rfl; have := fb_rng (r6); have := fb_rng (p1); (try have := fb_addI (x := p1) (y := 1) (by omega) (by omega)); omega) (by have := w0; have := w1; have : ((r6).toInt = 0 ∨ (p1).toInt < 8) := k6.2; have := gi_of_ne c7; have : (0 : Int32).toInt = 0 := rfl; have : (1 : Int32).toInt = 1 := rfl; have : (3 : Int32).toInt = 3 := rfl; have := fb_rng (r6); have := fb_rng (p1); (try have := fb_addI (x := p1) (y := 1) (by omega) (by omega)); omega) (by have := w0; have := w1; have : ((r6).toInt = 0 ∨ (p1).toInt < 8) := k6.2; have := gi_of_ne c7; have : (0 : Int32).toInt = 0 := rfl; have : (1 : Int32).toInt = 1 := rfl; have : (3 : Int32).toInt = 3 := rfl; have := fb_rng (r6); have := fb_rng (p1); (try have := fb_addI (x := p1) (y := 1) (by omega) (by omega)); omega)) (fun h8 k8 => ?_)
          have s8 : SC h h8 := SC_trans (b := h6) s6 k8.1
          refine ok_ob1 (u_X2_expect h8 14 (s8).1) (fun h9 k9 => ?_)
          have s9 : SC h h9 := SC_trans (b := h8) s8 k9.1
          unfold f_X2_readOne_2_121
          exact ok_some ⟨s9, trivial⟩
      · refine ok_if (fun c10 => ?_) (fun c10 => ?_)
        · refine ok_ob2 (u_X2_opens h p1 ((SC_refl hI)).1) (fun r11 h11 k11 => ?_)
          have s11 : SC h h11 := SC_trans (b := h) (SC_refl hI) k11.1
          refine ok_if (fun c12 => ?_) (fun c12 => ?_)
          · unfold f_X2_readOne_2_121
            exact ok_some ⟨s11, trivial⟩
          · refine ok_ob1 (hR_X2_readOne h11 (p1 + 1) (s11).1 (by have := w0; have := w1; have : ((r11).toInt = 0 ∨ (p1).toInt < 8) := k11.2; have := gi_of_ne c12; have : (0 : Int32).toInt = 0 := rfl; have : (1 : Int32).toInt = 1 := rfl; have := fb_rng (r11); have := fb_rng (p1); (try have := fb_addI (x := p1) (y := 1) (by omega) (by omega)); omega) (by have := w0; have := w1; have : ((r11).toInt = 0 ∨ (p1).toInt < 8) := k11.2; have := gi_of_ne c12; have : (0 : Int32).toInt = 0 := rfl; have : (1 : Int32).toInt = 1 := rfl; have := fb_rng (r11); have := fb_rng (p1); (try have := fb_addI (x := p1) (y := 1) (by omega) (by omega)); omega)) (fun h13 k13 => ?_)
            have s13 : SC h h13 := SC_trans (b := h11) s11 k13.1
            refine ok_ob1 (u_X6_addStep_2 h13 20038 (s13).1) (fun h14 k14 => ?_)
            have s14 : SC h h14 := SC_trans (b := h13) s13 k14.1
            unfold f_X2_readOne_2_121
            exact ok_some ⟨s14, trivial⟩
        · refine ok_ob1 (u_X2_fail h 1 ((SC_refl hI)).1) (fun h15 k15 => ?_)
          have s15 : SC h h15 := SC_trans (b := h) (SC_refl hI) k15.1
          unfold f_X2_readOne_2_121
          exact ok_some ⟨s15, trivial⟩
    · refine ok_if (fun c16 => ?_) (fun c16 => ?_)
      · unfold f_X2_readOne_2_44
        refine ok_if (fun c17 => ?_) (fun c17 => ?_)
        · refine ok_ob2 (u_X2_opens h p1 ((SC_refl hI)).1) (fun r18 h18 k18 => ?_)
          have s18 : SC h h18 := SC_trans (b := h) (SC_refl hI) k18.1
          refine ok_if (fun c19 => ?_) (fun c19 => ?_)
          · unfold f_X2_readOne_2_121
            exact ok_some ⟨s18, trivial⟩
          · refine ok_ob1 (hR_X2_readLevel h18 3 (p1 + 1) (s18).1 (by have := w0; have := w1; have : ((r18).toInt = 0 ∨ (p1).toInt < 8) := k18.2; have := gi_of_ne c19; have : (0 : Int32).toInt = 0 := rfl; have : (1 : Int32).toInt = 1 := rfl; have : (3 : Int32).toInt = 3 := rfl; have := fb_rng (r18); have := fb_rng (p1); (try have := fb_addI (x := p1) (y := 1) (by omega) (by omega)); omega) (by have := w0; have := w1; have : ((r18).toInt = 0 ∨ (p1).toInt < 8) := k18.2; have := gi_of_ne c19; have : (0 : Int32).toInt = 0 := rfl; have : (1 : Int32).toInt = 1 := rfl; have : (3 : Int32).toInt = 3 := rfl; have := fb_rng (r18); have := fb_rng (p1); (try have := fb_addI (x := p1) (y := 1) (by omega) (by omega)); omega) (by have := w0; have := w1; have : ((r18).toInt = 0 ∨ (p1).toInt < 8) := k18.2; have := gi_of_ne c19; have : (0 : Int32).toInt = 0 := rfl; have : (1 : Int32).toInt = 1 := rfl; have : (3 : Int32).toInt = 3 := rfl; have := fb_rng (r18); have := fb_rng (p1); (try have := fb_addI (x := p1) (y := 1) (by omega) (by omega)); omega)) (fun h20 k20 => ?_)
            have s20 : SC h h20 := SC_trans (b := h18) s18 k20.1
            refine ok_ob1 (u_X2_expect h20 14 (s20).1) (fun h21 k21 => ?_)
            have s21 : SC h h21 := SC_trans (b := h20) s20 k21.1
            unfold f_X2_readOne_2_121
            exact ok_some ⟨s21, trivial⟩
        · refine ok_if (fun c22 => ?_) (fun c22 => ?_)
          · refine ok_ob2 (u_X2_opens h p1 ((SC_refl hI)).1) (fun r23 h23 k23 => ?_)
            have s23 : SC h h23 := SC_trans (b := h) (SC_refl hI) k23.1
            refine ok_if (fun c24 => ?_) (fun c24 => ?_)
            · unfold f_X2_readOne_2_121
              exact ok_some ⟨s23, trivial⟩
            · refine ok_ob1 (hR_X2_readOne h23 (p1 + 1) (s23).1 (by have := w0; have := w1; have : ((r23).toInt = 0 ∨ (p1).toInt < 8) := k23.2; have := gi_of_ne c24; have : (0 : Int32).toInt = 0 := rfl; have : (1 : Int32).toInt = 1 := rfl; have := fb_rng (r23); have := fb_rng (p1); (try have := fb_addI (x := p1) (y := 1) (by omega) (by omega)); omega) (by have := w0; have := w1; have : ((r23).toInt = 0 ∨ (p1).toInt < 8) := k23.2; have := gi_of_ne c24; have : (0 : Int32).toInt = 0 := rfl; have : (1 : Int32).toInt = 1 := rfl; have := fb_rng (r23); have := fb_rng (p1); (try have := fb_addI (x := p1) (y := 1) (by omega) (by omega)); omega)) (fun h25 k25 => ?_)
              have s25 : SC h h25 := SC_trans (b := h23) s23 k25.1
              refine ok_ob1 (u_X6_addStep_2 h25 20038 (s25).1) (fun h26 k26 => ?_)
              have s26 : SC h h26 := SC_trans (b := h25) s25 k26.1
              unfold f_X2_readOne_2_121
              exact ok_some ⟨s26, trivial⟩
          · refine ok_ob1 (u_X2_fail h 1 ((SC_refl hI)).1) (fun h27 k27 => ?_)
            have s27 : SC h h27 := SC_trans (b := h) (SC_refl hI) k27.1
            unfold f_X2_readOne_2_121
            exact ok_some ⟨s27, trivial⟩
      · refine ok_ob1 (u_X2_readName_2 h ((SC_refl hI)).1) (fun h28 k28 => ?_)
        have s28 : SC h h28 := SC_trans (b := h) (SC_refl hI) k28.1
        unfold f_X2_readOne_2_121
        exact ok_some ⟨s28, trivial⟩
theorem u_G_read_2 : ∀ (n : Nat), (∀ (h : HS) (p1 p2 : Int32), IC h → (0 ≤ p1.toInt ∧ p1.toInt ≤ 5) → (0 ≤ p2.toInt ∧ p2.toInt ≤ 8) → 20 * (8 - p2.toInt) + 22 - 2 * p1.toInt < (n : Int) → ok (G_read_2 n 0 h p1 p2) (fun a => SC h a ∧ True)) ∧ (∀ (h : HS) (p1 : Int32), IC h → (0 ≤ p1.toInt ∧ p1.toInt ≤ 8) → 20 * (8 - p1.toInt) + 17 < (n : Int) → ok (G_read_2 n 1 h p1 0) (fun a => SC h a ∧ True)) ∧ (∀ (h : HS) (p1 : Int32), IC h → (0 ≤ p1.toInt ∧ p1.toInt ≤ 8) → 20 * (8 - p1.toInt) + 5 < (n : Int) → ok (G_read_2 n 2 h p1 0) (fun a => SC h a ∧ True)) := by
  intro n
  induction n with
  | zero => exact ⟨fun h p1 p2 hI h0 h2 hm => absurd hm (by omega), fun h p1 hI h0 hm => absurd hm (by omega), fun h p1 hI h0 hm => absurd hm (by omega)⟩
  | succ n ih =>
    obtain ⟨i0, i1, i2⟩ := ih
    refine ⟨fun h p1 p2 hI h0 h2 hm => ?_, fun h p1 hI h0 hm => ?_, fun h p1 hI h0 hm => ?_⟩
    · exact u_X2_readLevel_2_b (m := n) i0 i1 i2 h p1 p2 hI h0 h2 (by omega)
    · exact u_X2_readAsk_2_b (m := n) i0 i1 i2 h p1 hI h0 (by omega)
    · exact u_X2_readOne_2_b (m := n) i0 i1 i2 h p1 hI h0 (by omega)
theorem u_X2_readClause_2 (h : HS) (hI : IC h) : ok (f_X2_readClause_2 h) (fun a => SC h a ∧ True) := by
  unfold f_X2_readClause_2
  refine ok_ob2 (u_X7_kind h ((SC_refl hI)).1) (fun r1 h1 k1 => ?_)
  have e1 : h = h1 := k1.1.symm
  subst e1
  refine ok_if (fun c2 => ?_) (fun c2 => ?_)
  · unfold f_X2_readClause_2_25
    refine ok_ob1 (u_X2_fail (sI h 5 2 (r1 - 16)) 1 ((SC_refl hI)).1) (fun h3 k3 => ?_)
    have s3 : SC h h3 := SC_trans (b := (sI h 5 2 (r1 - 16))) (SC_refl hI) k3.1
    unfold f_X2_readClause_2_158
    exact ok_some ⟨s3, trivial⟩
  · refine ok_if (fun c4 => ?_) (fun c4 => ?_)
    · refine ok_ob2 (u_X6_hasLaw_2 (sI h 5 2 (r1 - 16)) (r1 - 16) ((SC_refl hI)).1) (fun r5 h5 k5 => ?_)
      have e5 : (sI h 5 2 (r1 - 16)) = h5 := k5.1.symm
      subst e5
      refine ok_if (fun c6 => ?_) (fun c6 => ?_)
      · refine ok_if (fun c7 => ?_) (fun c7 => ?_)
        · refine ok_ob1 (u_X6_setClause_2 (sI h 5 2 (r1 - 16)) (eI (sI h 5 2 (r1 - 16)) 11 1) 0 r1 ((SC_refl hI)).1) (fun h8 k8 => ?_)
          have s8 : SC h h8 := SC_trans (b := (sI h 5 2 (r1 - 16))) (SC_refl hI) k8.1
          refine ok_ob1 (u_X7_advance h8 (s8).1) (fun h9 k9 => ?_)
          have s9 : SC h h9 := SC_trans (b := h8) s8 k9.1
          refine ok_if (fun c10 => ?_) (fun c10 => ?_)
          · refine ok_ob1 (u_X2_readDeed_2 h9 r1 (s9).1) (fun h11 k11 => ?_)
            have s11 : SC h h11 := SC_trans (b := h9) s9 k11.1
            unfold f_X2_readClause_2_141
            refine ok_ob1 (u_X2_expect h11 15 (s11).1) (fun h12 k12 => ?_)
            have s12 : SC h h12 := SC_trans (b := h11) s11 k12.1
            unfold f_X2_readClause_2_158
            exact ok_some ⟨s12, trivial⟩
          · refine ok_ob1 (u_X6_beginLaw_2 h9 (eI h9 5 2) (s9).1) (fun h13 k13 => ?_)
            have s13 : SC h h13 := SC_trans (b := h9) s9 k13.1
            refine ok_if (fun c14 => ?_) (fun c14 => ?_)
            · unfold f_X2_readClause_2_119
              refine ok_ob1 ((u_G_read_2 200).1 h13 0 0 (s13).1 (by have : (0 : Int32).toInt = 0 := rfl; omega) (by have : (0 : Int32).toInt = 0 := rfl; omega) (by have : (0 : Int32).toInt = 0 := rfl; omega)) (fun h15 k15 => ?_)
              have s15 : SC h h15 := SC_trans (b := h13) s13 k15.1
              refine ok_ob1 (u_X6_closeLaw_2 h15 (eI h15 5 2) (s15).1) (fun h16 k16 => ?_)
              have s16 : SC h h16 := SC_trans (b := h15) s15 k16.1
              unfold f_X2_readClause_2_141
              refine ok_ob1 (u_X2_expect h16 15 (s16).1) (fun h17 k17 => ?_)
              have s17 : SC h h17 := SC_trans (b := h16) s16 k17.1
              unfold f_X2_readClause_2_158
              exact ok_some ⟨s17, trivial⟩
            · unfold f_X2_readClause_2_119
              refine ok_ob1 ((u_G_read_2 200).1 h13 3 0 (s13).1 (by have : (0 : Int32).toInt = 0 := rfl; have : (3 : Int32).toInt = 3 := rfl; omega) (by have : (0 : Int32).toInt = 0 := rfl; have : (3 : Int32).toInt = 3 := rfl; omega) (by have : (0 : Int32).toInt = 0 := rfl; have : (3 : Int32).toInt = 3 := rfl; omega)) (fun h18 k18 => ?_)
              have s18 : SC h h18 := SC_trans (b := h13) s13 k18.1
              refine ok_ob1 (u_X6_closeLaw_2 h18 (eI h18 5 2) (s18).1) (fun h19 k19 => ?_)
              have s19 : SC h h19 := SC_trans (b := h18) s18 k19.1
              unfold f_X2_readClause_2_141
              refine ok_ob1 (u_X2_expect h19 15 (s19).1) (fun h20 k20 => ?_)
              have s20 : SC h h20 := SC_trans (b := h19) s19 k20.1
              unfold f_X2_readClause_2_158
              exact ok_some ⟨s20, trivial⟩
        · refine ok_ob1 (u_X2_fail (sI h 5 2 (r1 - 16)) 6 ((SC_refl hI)).1) (fun h21 k21 => ?_)
          have s21 : SC h h21 := SC_trans (b := (sI h 5 2 (r1 - 16))) (SC_refl hI) k21.1
          unfold f_X2_readClause_2_158
          exact ok_some ⟨s21, trivial⟩
      · refine ok_ob1 (u_X2_fail (sI h 5 2 (r1 - 16)) 4 ((SC_refl hI)).1) (fun h22 k22 => ?_)
        have s22 : SC h h22 := SC_trans (b := (sI h 5 2 (r1 - 16))) (SC_refl hI) k22.1
        unfold f_X2_readClause_2_158
        exact ok_some ⟨s22, trivial⟩
    · unfold f_X2_readClause_2_25
      refine ok_ob1 (u_X2_fail (sI h 5 2 (r1 - 16)) 1 ((SC_refl hI)).1) (fun h23 k23 => ?_)
      have s23 : SC h h23 := SC_trans (b := (sI h 5 2 (r1 - 16))) (SC_refl hI) k23.1
      unfold f_X2_readClause_2_158
      exact ok_some ⟨s23, trivial⟩
theorem u_X2_parse_2_16 {h0 : HS} : ∀ (n : Nat) (h : HS) (x3 : Int32), SC h0 h → 0 < n → (25 - x3.toInt : Int) < (n : Int) → ok (f_X2_parse_2_16  n h x3) (fun a => SC h0 a ∧ True) := by
  intro n
  induction n with
  | zero =>
    intro h x3 hSC hn hm
    exact absurd hn (by decide)
  | succ n ih_X2_parse_2_16 =>
    intro h x3 hSC hn hm
    rw [f_X2_parse_2_16_s]
    refine ok_if (fun c1 => ?_) (fun c1 => ?_)
    · unfold f_X2_parse_2_48
      exact ok_some ⟨hSC, trivial⟩
    · refine ok_if (fun c2 => ?_) (fun c2 => ?_)
      · refine ok_ob2 (u_X7_kind h (hSC).1) (fun r3 h3 k3 => ?_)
        have e3 : h = h3 := k3.1.symm
        subst e3
        refine ok_if (fun c4 => ?_) (fun c4 => ?_)
        · unfold f_X2_parse_2_48
          exact ok_some ⟨hSC, trivial⟩
        · refine ok_ob1 (u_X2_readClause_2 h (hSC).1) (fun h5 k5 => ?_)
          have s5 : SC h0 h5 := SC_trans (b := h) hSC k5.1
          exact ih_X2_parse_2_16 h5 (x3 + 1) s5 (by have := hm; have := gi_of_nlt c1; have : (1 : Int32).toInt = 1 := rfl; have : (24 : Int32).toInt = 24 := rfl; have := fb_rng (x3); (try have := fb_addI (x := x3) (y := 1) (by omega) (by omega)); omega) (by have := hm; have := gi_of_nlt c1; have : (1 : Int32).toInt = 1 := rfl; have : (24 : Int32).toInt = 24 := rfl; have := fb_rng (x3); (try have := fb_addI (x := x3) (y := 1) (by omega) (by omega)); omega)
      · unfold f_X2_parse_2_48
        exact ok_some ⟨hSC, trivial⟩
theorem u_X2_parse_2 (h : HS) (hI : IC h) : ok (f_X2_parse_2 h) (fun a => SC h a ∧ True) := by
  unfold f_X2_parse_2
  refine ok_ob1 (u_X6_clear_2 (sI (sI h 5 0 0) 5 1 (-1)) ((SC_refl hI)).1) (fun h1 k1 => ?_)
  have s1 : SC h h1 := SC_trans (b := (sI (sI h 5 0 0) 5 1 (-1))) (SC_refl hI) k1.1
  exact u_X2_parse_2_16 (h0 := h) 8589934592 h1 0 s1 (by decide) (by have : (0 : Int32).toInt = 0 := rfl; omega)
theorem u_X2_readValue_3 (h : HS) (hI : IC h) : ok (f_X2_readValue_3 h) (fun a => SC h a ∧ True) := by
  unfold f_X2_readValue_3
  refine ok_ob2 (u_X7_value h ((SC_refl hI)).1) (fun r1 h1 k1 => ?_)
  have e1 : h = h1 := k1.1.symm
  subst e1
  refine ok_if (fun c2 => ?_) (fun c2 => ?_)
  · refine ok_ob2 (u_X7_value h ((SC_refl hI)).1) (fun r3 h3 k3 => ?_)
    have e3 : h = h3 := k3.1.symm
    subst e3
    refine ok_ob1 (u_X6_addStep_3 h r3 ((SC_refl hI)).1) (fun h4 k4 => ?_)
    have s4 : SC h h4 := SC_trans (b := h) (SC_refl hI) k4.1
    refine ok_ob1 (u_X7_advance h4 (s4).1) (fun h5 k5 => ?_)
    have s5 : SC h h5 := SC_trans (b := h4) s4 k5.1
    exact ok_some ⟨s5, trivial⟩
  · refine ok_ob1 (u_X2_fail h 2 ((SC_refl hI)).1) (fun h6 k6 => ?_)
    have s6 : SC h h6 := SC_trans (b := h) (SC_refl hI) k6.1
    exact ok_some ⟨s6, trivial⟩
theorem u_X2_readName_3 (h : HS) (hI : IC h) : ok (f_X2_readName_3 h) (fun a => SC h a ∧ True) := by
  unfold f_X2_readName_3
  refine ok_ob2 (u_X7_kind h ((SC_refl hI)).1) (fun r1 h1 k1 => ?_)
  have e1 : h = h1 := k1.1.symm
  subst e1
  refine ok_if (fun c2 => ?_) (fun c2 => ?_)
  · unfold f_X2_readName_3_31
    refine ok_ob2 (u_X7_kind h ((SC_refl hI)).1) (fun r3 h3 k3 => ?_)
    have e3 : h = h3 := k3.1.symm
    subst e3
    refine ok_ob1 (u_X6_addStep_3 h ((10000 + r3) - 29) ((SC_refl hI)).1) (fun h4 k4 => ?_)
    have s4 : SC h h4 := SC_trans (b := h) (SC_refl hI) k4.1
    refine ok_ob1 (u_X7_advance h4 (s4).1) (fun h5 k5 => ?_)
    have s5 : SC h h5 := SC_trans (b := h4) s4 k5.1
    exact ok_some ⟨s5, trivial⟩
  · refine ok_if (fun c6 => ?_) (fun c6 => ?_)
    · unfold f_X2_readName_3_31
      refine ok_ob2 (u_X7_kind h ((SC_refl hI)).1) (fun r7 h7 k7 => ?_)
      have e7 : h = h7 := k7.1.symm
      subst e7
      refine ok_ob1 (u_X6_addStep_3 h ((10000 + r7) - 29) ((SC_refl hI)).1) (fun h8 k8 => ?_)
      have s8 : SC h h8 := SC_trans (b := h) (SC_refl hI) k8.1
      refine ok_ob1 (u_X7_advance h8 (s8).1) (fun h9 k9 => ?_)
      have s9 : SC h h9 := SC_trans (b := h8) s8 k9.1
      exact ok_some ⟨s9, trivial⟩
    · refine ok_if (fun c10 => ?_) (fun c10 => ?_)
      · unfold f_X2_readName_3_31
        refine ok_ob2 (u_X7_kind h ((SC_refl hI)).1) (fun r11 h11 k11 => ?_)
        have e11 : h = h11 := k11.1.symm
        subst e11
        refine ok_ob1 (u_X6_addStep_3 h ((10000 + r11) - 29) ((SC_refl hI)).1) (fun h12 k12 => ?_)
        have s12 : SC h h12 := SC_trans (b := h) (SC_refl hI) k12.1
        refine ok_ob1 (u_X7_advance h12 (s12).1) (fun h13 k13 => ?_)
        have s13 : SC h h13 := SC_trans (b := h12) s12 k13.1
        exact ok_some ⟨s13, trivial⟩
      · refine ok_ob1 (u_X2_fail h 5 ((SC_refl hI)).1) (fun h14 k14 => ?_)
        have s14 : SC h h14 := SC_trans (b := h) (SC_refl hI) k14.1
        exact ok_some ⟨s14, trivial⟩
theorem u_X2_readNumber_3 (h : HS) (p1 : Int32) (p2 : Int32) (p3 : Int32) (hI : IC h) : ok (f_X2_readNumber_3 h p1 p2 p3) (fun a => SC h a ∧ True) := by
  unfold f_X2_readNumber_3
  refine ok_if (fun c1 => ?_) (fun c1 => ?_)
  · refine ok_ob2 (u_X7_kind h ((SC_refl hI)).1) (fun r2 h2 k2 => ?_)
    have e2 : h = h2 := k2.1.symm
    subst e2
    refine ok_if (fun c3 => ?_) (fun c3 => ?_)
    · refine ok_ob2 (u_X7_value h ((SC_refl hI)).1) (fun r4 h4 k4 => ?_)
      have e4 : h = h4 := k4.1.symm
      subst e4
      refine ok_if (fun c5 => ?_) (fun c5 => ?_)
      · unfold f_X2_readNumber_3_43
        refine ok_ob1 (u_X2_fail h 2 ((SC_refl hI)).1) (fun h6 k6 => ?_)
        have s6 : SC h h6 := SC_trans (b := h) (SC_refl hI) k6.1
        unfold f_X2_readNumber_3_69
        exact ok_some ⟨s6, trivial⟩
      · refine ok_ob2 (u_X7_value h ((SC_refl hI)).1) (fun r7 h7 k7 => ?_)
        have e7 : h = h7 := k7.1.symm
        subst e7
        refine ok_if (fun c8 => ?_) (fun c8 => ?_)
        · refine ok_ob2 (u_X7_value h ((SC_refl hI)).1) (fun r9 h9 k9 => ?_)
          have e9 : h = h9 := k9.1.symm
          subst e9
          refine ok_ob1 (u_X6_setClause_3 h (eI h 12 1) p1 r9 ((SC_refl hI)).1) (fun h10 k10 => ?_)
          have s10 : SC h h10 := SC_trans (b := h) (SC_refl hI) k10.1
          refine ok_ob1 (u_X7_advance h10 (s10).1) (fun h11 k11 => ?_)
          have s11 : SC h h11 := SC_trans (b := h10) s10 k11.1
          unfold f_X2_readNumber_3_69
          exact ok_some ⟨s11, trivial⟩
        · unfold f_X2_readNumber_3_43
          refine ok_ob1 (u_X2_fail h 2 ((SC_refl hI)).1) (fun h12 k12 => ?_)
          have s12 : SC h h12 := SC_trans (b := h) (SC_refl hI) k12.1
          unfold f_X2_readNumber_3_69
          exact ok_some ⟨s12, trivial⟩
    · refine ok_ob1 (u_X2_fail h 1 ((SC_refl hI)).1) (fun h13 k13 => ?_)
      have s13 : SC h h13 := SC_trans (b := h) (SC_refl hI) k13.1
      unfold f_X2_readNumber_3_69
      exact ok_some ⟨s13, trivial⟩
  · exact ok_some ⟨(SC_refl hI), trivial⟩
theorem u_X2_readDeed_3 (h : HS) (p1 : Int32) (hI : IC h) : ok (f_X2_readDeed_3 h p1) (fun a => SC h a ∧ True) := by
  unfold f_X2_readDeed_3
  refine ok_if (fun c1 => ?_) (fun c1 => ?_)
  · refine ok_ob1 (u_X2_readNumber_3 h 1 1 99 ((SC_refl hI)).1) (fun h2 k2 => ?_)
    have s2 : SC h h2 := SC_trans (b := h) (SC_refl hI) k2.1
    exact ok_some ⟨s2, trivial⟩
  · refine ok_ob1 (u_X2_readNumber_3 h 1 0 9 ((SC_refl hI)).1) (fun h3 k3 => ?_)
    have s3 : SC h h3 := SC_trans (b := h) (SC_refl hI) k3.1
    refine ok_if (fun c4 => ?_) (fun c4 => ?_)
    · refine ok_ob1 (u_X2_expect h3 24 (s3).1) (fun h5 k5 => ?_)
      have s5 : SC h h5 := SC_trans (b := h3) s3 k5.1
      refine ok_ob1 (u_X2_readNumber_3 h5 2 0 5 (s5).1) (fun h6 k6 => ?_)
      have s6 : SC h h6 := SC_trans (b := h5) s5 k6.1
      refine ok_ob1 (u_X2_expect h6 33 (s6).1) (fun h7 k7 => ?_)
      have s7 : SC h h7 := SC_trans (b := h6) s6 k7.1
      refine ok_ob1 (u_X2_readNumber_3 h7 3 0 2 (s7).1) (fun h8 k8 => ?_)
      have s8 : SC h h8 := SC_trans (b := h7) s7 k8.1
      unfold f_X2_readDeed_3_90
      exact ok_some ⟨s8, trivial⟩
    · refine ok_if (fun c9 => ?_) (fun c9 => ?_)
      · refine ok_ob1 (u_X2_expect h3 25 (s3).1) (fun h10 k10 => ?_)
        have s10 : SC h h10 := SC_trans (b := h3) s3 k10.1
        refine ok_ob1 (u_X2_readNumber_3 h10 2 0 3 (s10).1) (fun h11 k11 => ?_)
        have s11 : SC h h11 := SC_trans (b := h10) s10 k11.1
        unfold f_X2_readDeed_3_90
        exact ok_some ⟨s11, trivial⟩
      · unfold f_X2_readDeed_3_90
        exact ok_some ⟨s3, trivial⟩
theorem u_X2_readLevel_3_42 {h0 : HS} (x3 : Int32) (x4 : Int32) {kR_X2_readLevel : HS → Int32 → Int32 → Option HS} {kR_X2_readAsk : HS → Int32 → Option HS} {kR_X2_readOne : HS → Int32 → Option HS} (m : Int) (hR_X2_readLevel : ∀ (h : HS) (p1 p2 : Int32), IC h → (0 ≤ p1.toInt ∧ p1.toInt ≤ 5) → (0 ≤ p2.toInt ∧ p2.toInt ≤ 8) → 20 * (8 - p2.toInt) + 22 - 2 * p1.toInt < m → ok (kR_X2_readLevel h p1 p2) (fun a => SC h a ∧ True)) (hR_X2_readAsk : ∀ (h : HS) (p1 : Int32), IC h → (0 ≤ p1.toInt ∧ p1.toInt ≤ 8) → 20 * (8 - p1.toInt) + 17 < m → ok (kR_X2_readAsk h p1) (fun a => SC h a ∧ True)) (hR_X2_readOne : ∀ (h : HS) (p1 : Int32), IC h → (0 ≤ p1.toInt ∧ p1.toInt ≤ 8) → 20 * (8 - p1.toInt) + 5 < m → ok (kR_X2_readOne h p1) (fun a => SC h a ∧ True))   : ∀ (n : Nat) (h : HS) (x5 : Int32), SC h0 h → (0 ≤ x3.toInt ∧ x3.toInt ≤ 4) → (0 ≤ x4.toInt ∧ x4.toInt ≤ 8) → 20 * (8 - x4.toInt) + 22 - 2 * x3.toInt ≤ m → 0 < n → (300 - (x5).toInt : Int) < (n : Int) → ok (f_X2_readLevel_3_42 kR_X2_readLevel kR_X2_readAsk kR_X2_readOne n h x3 x4 x5) (fun a => SC h0 a ∧ True) := by
  intro n
  induction n with
  | zero =>
    intro h x5 hSC i0 i1 i2 hn hm
    exact absurd hn (by decide)
  | succ n ih_X2_readLevel_3_42 =>
    intro h x5 hSC i0 i1 i2 hn hm
    rw [f_X2_readLevel_3_42_s]
    refine ok_if (fun c1 => ?_) (fun c1 => ?_)
    · unfold f_X2_readLevel_3_105
      exact ok_some ⟨hSC, trivial⟩
    · refine ok_if (fun c2 => ?_) (fun c2 => ?_)
      · refine ok_ob2 (u_X7_kind h (hSC).1) (fun r3 h3 k3 => ?_)
        have e3 : h = h3 := k3.1.symm
        subst e3
        refine ok_ob1 (u_X2_levelOf r3) (fun r4 k4 => ?_)
        refine ok_if (fun c5 => ?_) (fun c5 => ?_)
        · refine ok_ob2 (u_X7_kind h (hSC).1) (fun r6 h6 k6 => ?_)
          have e6 : h = h6 := k6.1.symm
          subst e6
          refine ok_ob1 (u_X7_advance h (hSC).1) (fun h7 k7 => ?_)
          have s7 : SC h0 h7 := SC_trans (b := h) hSC k7.1
          refine ok_ob1 (hR_X2_readLevel h7 (x3 + 1) x4 (s7).1 (by have := i0; have := i1; have := i2; have := hm; have := gi_of_nle c1; have := gi_of_eq c5; have : (1 : Int32).toInt = 1 := rfl; have : (300 : Int32).toInt = 300 := rfl; have := fb_rng (x5); have := fb_rng (r4); have := fb_rng (x3); (try have := fb_addI (x := x3) (y := 1) (by omega) (by omega)); have := fb_rng (x4); omega) (by have := i0; have := i1; have := i2; have := hm; have := gi_of_nle c1; have := gi_of_eq c5; have : (1 : Int32).toInt = 1 := rfl; have : (300 : Int32).toInt = 300 := rfl; have := fb_rng (x5); have := fb_rng (r4); have := fb_rng (x3); (try have := fb_addI (x := x3) (y := 1) (by omega) (by omega)); have := fb_rng (x4); omega) (by have := i0; have := i1; have := i2; have := hm; have := gi_of_nle c1; have := gi_of_eq c5; have : (1 : Int32).toInt = 1 := rfl; have : (300 : Int32).toInt = 300 := rfl; have := fb_rng (x5); have := fb_rng (r4); have := fb_rng (x3); (try have := fb_addI (x := x3) (y := 1) (by omega) (by omega)); have := fb_rng (x4); omega)) (fun h8 k8 => ?_)
          have s8 : SC h0 h8 := SC_trans (b := h7) s7 k8.1
          refine ok_ob1 (u_X6_addStep_3 h8 (20000 + r6) (s8).1) (fun h9 k9 => ?_)
          have s9 : SC h0 h9 := SC_trans (b := h8) s8 k9.1
          exact ih_X2_readLevel_3_42 h9 (x5 + 1) s9 (by have := i0; have := i1; have := i2; have := hm; have := gi_of_eq c5; have := fb_rng (r4); have := fb_rng (x3); omega) (by have := i0; have := i1; have := i2; have := hm; have := fb_rng (x4); omega) (by have := i0; have := i1; have := i2; have := hm; have := gi_of_eq c5; have := fb_rng (r4); have := fb_rng (x3); have := fb_rng (x4); omega) (by have := i0; have := i1; have := i2; have := hm; have := gi_of_nle c1; have : (1 : Int32).toInt = 1 := rfl; have : (300 : Int32).toInt = 300 := rfl; have := fb_rng (x5); (try have := fb_addI (x := x5) (y := 1) (by omega) (by omega)); omega) (by have := i0; have := i1; have := i2; have := hm; have := gi_of_nle c1; have : (1 : Int32).toInt = 1 := rfl; have : (300 : Int32).toInt = 300 := rfl; have := fb_rng (x5); (try have := fb_addI (x := x5) (y := 1) (by omega) (by omega)); omega)
        · unfold f_X2_readLevel_3_105
          exact ok_some ⟨hSC, trivial⟩
      · unfold f_X2_readLevel_3_105
        exact ok_some ⟨hSC, trivial⟩
theorem u_X2_readLevel_3_b   {kR_X2_readLevel : HS → Int32 → Int32 → Option HS} {kR_X2_readAsk : HS → Int32 → Option HS} {kR_X2_readOne : HS → Int32 → Option HS} (m : Int) (hR_X2_readLevel : ∀ (h : HS) (p1 p2 : Int32), IC h → (0 ≤ p1.toInt ∧ p1.toInt ≤ 5) → (0 ≤ p2.toInt ∧ p2.toInt ≤ 8) → 20 * (8 - p2.toInt) + 22 - 2 * p1.toInt < m → ok (kR_X2_readLevel h p1 p2) (fun a => SC h a ∧ True)) (hR_X2_readAsk : ∀ (h : HS) (p1 : Int32), IC h → (0 ≤ p1.toInt ∧ p1.toInt ≤ 8) → 20 * (8 - p1.toInt) + 17 < m → ok (kR_X2_readAsk h p1) (fun a => SC h a ∧ True)) (hR_X2_readOne : ∀ (h : HS) (p1 : Int32), IC h → (0 ≤ p1.toInt ∧ p1.toInt ≤ 8) → 20 * (8 - p1.toInt) + 5 < m → ok (kR_X2_readOne h p1) (fun a => SC h a ∧ True)) (h : HS) (p1 : Int32) (p2 : Int32) (hI : IC h) (w0 : 0 ≤ p1.toInt ∧ p1.toInt ≤ 5) (w2 : 0 ≤ p2.toInt ∧ p2.toInt ≤ 8) (w1 : 20 * (8 - p2.toInt) + 22 - 2 * p1.toInt ≤ m) : ok (f_X2_readLevel_3_b kR_X2_readLevel kR_X2_readAsk kR_X2_readOne h p1 p2) (fun a => SC h a ∧ True) := by
  unfold f_X2_readLevel_3_b
  refine ok_if (fun c1 => ?_) (fun c1 => ?_)
  · refine ok_ob1 (hR_X2_readAsk h p2 ((SC_refl hI)).1 (by have := w0; have := w2; have := w1; have := gi_of_eq c1; have : (2 : Int32).toInt = 2 := rfl; have := fb_rng (p1); have := fb_rng (p2); omega) (by have := w0; have := w2; have := w1; have := gi_of_eq c1; have : (2 : Int32).toInt = 2 := rfl; have := fb_rng (p1); have := fb_rng (p2); omega)) (fun h2 k2 => ?_)
    have s2 : SC h h2 := SC_trans (b := h) (SC_refl hI) k2.1
    exact ok_some ⟨s2, trivial⟩
  · refine ok_if (fun c3 => ?_) (fun c3 => ?_)
    · refine ok_ob1 (hR_X2_readOne h p2 ((SC_refl hI)).1 (by have := w0; have := w2; have := w1; have := gi_of_ne c1; have := gi_of_eq c3; have : (2 : Int32).toInt = 2 := rfl; have : (5 : Int32).toInt = 5 := rfl; have := fb_rng (p1); have := fb_rng (p2); omega) (by have := w0; have := w2; have := w1; have := gi_of_ne c1; have := gi_of_eq c3; have : (2 : Int32).toInt = 2 := rfl; have : (5 : Int32).toInt = 5 := rfl; have := fb_rng (p1); have := fb_rng (p2); omega)) (fun h4 k4 => ?_)
      have s4 : SC h h4 := SC_trans (b := h) (SC_refl hI) k4.1
      exact ok_some ⟨s4, trivial⟩
    · refine ok_ob1 (hR_X2_readLevel h (p1 + 1) p2 ((SC_refl hI)).1 (by have := w0; have := w2; have := w1; have := gi_of_ne c1; have := gi_of_ne c3; have : (1 : Int32).toInt = 1 := rfl; have : (2 : Int32).toInt = 2 := rfl; have : (5 : Int32).toInt = 5 := rfl; have := fb_rng (p1); (try have := fb_addI (x := p1) (y := 1) (by omega) (by omega)); have := fb_rng (p2); omega) (by have := w0; have := w2; have := w1; have := gi_of_ne c1; have := gi_of_ne c3; have : (1 : Int32).toInt = 1 := rfl; have : (2 : Int32).toInt = 2 := rfl; have : (5 : Int32).toInt = 5 := rfl; have := fb_rng (p1); (try have := fb_addI (x := p1) (y := 1) (by omega) (by omega)); have := fb_rng (p2); omega) (by have := w0; have := w2; have := w1; have := gi_of_ne c1; have := gi_of_ne c3; have : (1 : Int32).toInt = 1 := rfl; have : (2 : Int32).toInt = 2 := rfl; have : (5 : Int32).toInt = 5 := rfl; have := fb_rng (p1); (try have := fb_addI (x := p1) (y := 1) (by omega) (by omega)); have := fb_rng (p2); omega)) (fun h5 k5 => ?_)
      have s5 : SC h h5 := SC_trans (b := h) (SC_refl hI) k5.1
      exact u_X2_readLevel_3_42 (h0 := h) p1 p2 (m := m) hR_X2_readLevel hR_X2_readAsk hR_X2_readOne 8589934592 h5 0 s5 (by have := w0; have := w2; have := w1; have := gi_of_ne c1; have := gi_of_ne c3; have : (2 : Int32).toInt = 2 := rfl; have : (5 : Int32).toInt = 5 := rfl; have := fb_rng (p1); omega) (by have := w0; have := w2; have := w1; have := fb_rng (p2); omega) (by have := w0; have := w2; have := w1; have := gi_of_ne c1; have := gi_of_ne c3; have : (2 : Int32).toInt = 2 := rfl; have : (5 : Int32).toInt = 5 := rfl; have := fb_rng (p1); have := fb_rng (p2); omega) (by decide) (by have := w0; have := w2; have := w1; have : (0 : Int32).toInt = 0 := rfl; omega)
theorem u_X2_readAsk_3_b   {kR_X2_readLevel : HS → Int32 → Int32 → Option HS} {kR_X2_readAsk : HS → Int32 → Option HS} {kR_X2_readOne : HS → Int32 → Option HS} (m : Int) (hR_X2_readLevel : ∀ (h : HS) (p1 p2 : Int32), IC h → (0 ≤ p1.toInt ∧ p1.toInt ≤ 5) → (0 ≤ p2.toInt ∧ p2.toInt ≤ 8) → 20 * (8 - p2.toInt) + 22 - 2 * p1.toInt < m → ok (kR_X2_readLevel h p1 p2) (fun a => SC h a ∧ True)) (hR_X2_readAsk : ∀ (h : HS) (p1 : Int32), IC h → (0 ≤ p1.toInt ∧ p1.toInt ≤ 8) → 20 * (8 - p1.toInt) + 17 < m → ok (kR_X2_readAsk h p1) (fun a => SC h a ∧ True)) (hR_X2_readOne : ∀ (h : HS) (p1 : Int32), IC h → (0 ≤ p1.toInt ∧ p1.toInt ≤ 8) → 20 * (8 - p1.toInt) + 5 < m → ok (kR_X2_readOne h p1) (fun a => SC h a ∧ True)) (h : HS) (p1 : Int32) (hI : IC h) (w0 : 0 ≤ p1.toInt ∧ p1.toInt ≤ 8) (w1 : 20 * (8 - p1.toInt) + 17 ≤ m) : ok (f_X2_readAsk_3_b kR_X2_readLevel kR_X2_readAsk kR_X2_readOne h p1) (fun a => SC h a ∧ True) := by
  unfold f_X2_readAsk_3_b
  refine ok_ob2 (u_X7_kind h ((SC_refl hI)).1) (fun r1 h1 k1 => ?_)
  have e1 : h = h1 := k1.1.symm
  subst e1
  refine ok_if (fun c2 => ?_) (fun c2 => ?_)
  · refine ok_ob2 (u_X2_opens h p1 ((SC_refl hI)).1) (fun r3 h3 k3 => ?_)
    have s3 : SC h h3 := SC_trans (b := h) (SC_refl hI) k3.1
    refine ok_if (fun c4 => ?_) (fun c4 => ?_)
    · unfold f_X2_readAsk_3_34
      exact ok_some ⟨s3, trivial⟩
    · refine ok_ob1 (hR_X2_readAsk h3 (p1 + 1) (s3).1 (by have := w0; have := w1; have : ((r3).toInt = 0 ∨ (p1).toInt < 8) := k3.2; have := gi_of_ne c4; have : (0 : Int32).toInt = 0 := rfl; have : (1 : Int32).toInt = 1 := rfl; have := fb_rng (r3); have := fb_rng (p1); (try have := fb_addI (x := p1) (y := 1) (by omega) (by omega)); omega) (by have := w0; have := w1; have : ((r3).toInt = 0 ∨ (p1).toInt < 8) := k3.2; have := gi_of_ne c4; have : (0 : Int32).toInt = 0 := rfl; have : (1 : Int32).toInt = 1 := rfl; have := fb_rng (r3); have := fb_rng (p1); (try have := fb_addI (x := p1) (y := 1) (by omega) (by omega)); omega)) (fun h5 k5 => ?_)
      have s5 : SC h h5 := SC_trans (b := h3) s3 k5.1
      refine ok_ob1 (u_X6_addStep_3 h5 20028 (s5).1) (fun h6 k6 => ?_)
      have s6 : SC h h6 := SC_trans (b := h5) s5 k6.1
      unfold f_X2_readAsk_3_34
      exact ok_some ⟨s6, trivial⟩
  · refine ok_ob1 (hR_X2_readLevel h 3 p1 ((SC_refl hI)).1 (by have := w0; have := w1; have : (3 : Int32).toInt = 3 := rfl; have := fb_rng (p1); omega) (by have := w0; have := w1; have : (3 : Int32).toInt = 3 := rfl; have := fb_rng (p1); omega) (by have := w0; have := w1; have : (3 : Int32).toInt = 3 := rfl; have := fb_rng (p1); omega)) (fun h7 k7 => ?_)
    have s7 : SC h h7 := SC_trans (b := h) (SC_refl hI) k7.1
    refine ok_ob2 (u_X7_kind h7 (s7).1) (fun r8 h8 k8 => ?_)
    have e8 : h7 = h8 := k8.1.symm
    subst e8
    refine ok_if (fun c9 => ?_) (fun c9 => ?_)
    · unfold f_X2_readAsk_3_62
      refine ok_ob1 (u_X2_fail h7 1 (s7).1) (fun h10 k10 => ?_)
      have s10 : SC h h10 := SC_trans (b := h7) s7 k10.1
      unfold f_X2_readAsk_3_68
      refine ok_if (fun c11 => ?_) (fun c11 => ?_)
      · refine ok_ob1 (u_X7_advance h10 (s10).1) (fun h12 k12 => ?_)
        have s12 : SC h h12 := SC_trans (b := h10) s10 k12.1
        refine ok_ob1 (hR_X2_readLevel h12 3 p1 (s12).1 (by have := w0; have := w1; have : (3 : Int32).toInt = 3 := rfl; have := fb_rng (p1); omega) (by have := w0; have := w1; have : (3 : Int32).toInt = 3 := rfl; have := fb_rng (p1); omega) (by have := w0; have := w1; have : (3 : Int32).toInt = 3 := rfl; have := fb_rng (p1); omega)) (fun h13 k13 => ?_)
        have s13 : SC h h13 := SC_trans (b := h12) s12 k13.1
        refine ok_ob1 (u_X6_addStep_3 h13 (20000 + r8) (s13).1) (fun h14 k14 => ?_)
        have s14 : SC h h14 := SC_trans (b := h13) s13 k14.1
        unfold f_X2_readAsk_3_97
        exact ok_some ⟨s14, trivial⟩
      · unfold f_X2_readAsk_3_97
        exact ok_some ⟨s10, trivial⟩
    · refine ok_if (fun c15 => ?_) (fun c15 => ?_)
      · unfold f_X2_readAsk_3_68
        refine ok_if (fun c16 => ?_) (fun c16 => ?_)
        · refine ok_ob1 (u_X7_advance h7 (s7).1) (fun h17 k17 => ?_)
          have s17 : SC h h17 := SC_trans (b := h7) s7 k17.1
          refine ok_ob1 (hR_X2_readLevel h17 3 p1 (s17).1 (by have := w0; have := w1; have : (3 : Int32).toInt = 3 := rfl; have := fb_rng (p1); omega) (by have := w0; have := w1; have : (3 : Int32).toInt = 3 := rfl; have := fb_rng (p1); omega) (by have := w0; have := w1; have : (3 : Int32).toInt = 3 := rfl; have := fb_rng (p1); omega)) (fun h18 k18 => ?_)
          have s18 : SC h h18 := SC_trans (b := h17) s17 k18.1
          refine ok_ob1 (u_X6_addStep_3 h18 (20000 + r8) (s18).1) (fun h19 k19 => ?_)
          have s19 : SC h h19 := SC_trans (b := h18) s18 k19.1
          unfold f_X2_readAsk_3_97
          exact ok_some ⟨s19, trivial⟩
        · unfold f_X2_readAsk_3_97
          exact ok_some ⟨s7, trivial⟩
      · unfold f_X2_readAsk_3_62
        refine ok_ob1 (u_X2_fail h7 1 (s7).1) (fun h20 k20 => ?_)
        have s20 : SC h h20 := SC_trans (b := h7) s7 k20.1
        unfold f_X2_readAsk_3_68
        refine ok_if (fun c21 => ?_) (fun c21 => ?_)
        · refine ok_ob1 (u_X7_advance h20 (s20).1) (fun h22 k22 => ?_)
          have s22 : SC h h22 := SC_trans (b := h20) s20 k22.1
          refine ok_ob1 (hR_X2_readLevel h22 3 p1 (s22).1 (by have := w0; have := w1; have : (3 : Int32).toInt = 3 := rfl; have := fb_rng (p1); omega) (by have := w0; have := w1; have : (3 : Int32).toInt = 3 := rfl; have := fb_rng (p1); omega) (by have := w0; have := w1; have : (3 : Int32).toInt = 3 := rfl; have := fb_rng (p1); omega)) (fun h23 k23 => ?_)
          have s23 : SC h h23 := SC_trans (b := h22) s22 k23.1
          refine ok_ob1 (u_X6_addStep_3 h23 (20000 + r8) (s23).1) (fun h24 k24 => ?_)
          have s24 : SC h h24 := SC_trans (b := h23) s23 k24.1
          unfold f_X2_readAsk_3_97
          exact ok_some ⟨s24, trivial⟩
        · unfold f_X2_readAsk_3_97
          exact ok_some ⟨s20, trivial⟩
theorem u_X2_readOne_3_b   {kR_X2_readLevel : HS → Int32 → Int32 → Option HS} {kR_X2_readAsk : HS → Int32 → Option HS} {kR_X2_readOne : HS → Int32 → Option HS} (m : Int) (hR_X2_readLevel : ∀ (h : HS) (p1 p2 : Int32), IC h → (0 ≤ p1.toInt ∧ p1.toInt ≤ 5) → (0 ≤ p2.toInt ∧ p2.toInt ≤ 8) → 20 * (8 - p2.toInt) + 22 - 2 * p1.toInt < m → ok (kR_X2_readLevel h p1 p2) (fun a => SC h a ∧ True)) (hR_X2_readAsk : ∀ (h : HS) (p1 : Int32), IC h → (0 ≤ p1.toInt ∧ p1.toInt ≤ 8) → 20 * (8 - p1.toInt) + 17 < m → ok (kR_X2_readAsk h p1) (fun a => SC h a ∧ True)) (hR_X2_readOne : ∀ (h : HS) (p1 : Int32), IC h → (0 ≤ p1.toInt ∧ p1.toInt ≤ 8) → 20 * (8 - p1.toInt) + 5 < m → ok (kR_X2_readOne h p1) (fun a => SC h a ∧ True)) (h : HS) (p1 : Int32) (hI : IC h) (w0 : 0 ≤ p1.toInt ∧ p1.toInt ≤ 8) (w1 : 20 * (8 - p1.toInt) + 5 ≤ m) : ok (f_X2_readOne_3_b kR_X2_readLevel kR_X2_readAsk kR_X2_readOne h p1) (fun a => SC h a ∧ True) := by
  unfold f_X2_readOne_3_b
  refine ok_ob2 (u_X7_kind h ((SC_refl hI)).1) (fun r1 h1 k1 => ?_)
  have e1 : h = h1 := k1.1.symm
  subst e1
  refine ok_if (fun c2 => ?_) (fun c2 => ?_)
  · refine ok_ob1 (u_X2_readValue_3 h ((SC_refl hI)).1) (fun h3 k3 => ?_)
    have s3 : SC h h3 := SC_trans (b := h) (SC_refl hI) k3.1
    unfold f_X2_readOne_3_121
    exact ok_some ⟨s3, trivial⟩
  · refine ok_if (fun c4 => ?_) (fun c4 => ?_)
    · unfold f_X2_readOne_3_44
      refine ok_if (fun c5 => ?_) (fun c5 => ?_)
      · refine ok_ob2 (u_X2_opens h p1 ((SC_refl hI)).1) (fun r6 h6 k6 => ?_)
        have s6 : SC h h6 := SC_trans (b := h) (SC_refl hI) k6.1
        refine ok_if (fun c7 => ?_) (fun c7 => ?_)
        · unfold f_X2_readOne_3_121
          exact ok_some ⟨s6, trivial⟩
        · refine ok_ob1 (hR_X2_readLevel h6 3 (p1 + 1) (s6).1 (by have := w0; have := w1; have : ((r6).toInt = 0 ∨ (p1).toInt < 8) := k6.2; have := gi_of_ne c7; have : (0 : Int32).toInt = 0 := rfl; have : (1 : Int32).toInt = 1 := rfl; have : (3 : Int32).toInt = 3 := rfl; have := fb_rng (r6); have := fb_rng (p1); (try have := fb_addI (x := p1) (y := 1) (by omega) (by omega)); omega) (by have := w0; have := w1; have : ((r6).toInt = 0 ∨ (p1).toInt < 8) := k6.2; have := gi_of_ne c7; have : (0 : Int32).toInt = 0 := rfl; have : (1 : Int32).toInt = 1 := rfl; have : (3 : Int32).toInt = 3 := rfl; have := fb_rng (r6); have := fb_rng (p1); (try have := fb_addI (x := p1) (y := 1) (by omega) (by omega)); omega) (by have := w0; have := w1; have : ((r6).toInt = 0 ∨ (p1).toInt < 8) := k6.2; have := gi_of_ne c7; have : (0 : Int32).toInt = 0 := rfl; have : (1 : Int32).toInt = 1 := rfl; have : (3 : Int32).toInt = 3 := rfl; have := fb_rng (r6); have := fb_rng (p1); (try have := fb_addI (x := p1) (y := 1) (by omega) (by omega)); omega)) (fun h8 k8 => ?_)
          have s8 : SC h h8 := SC_trans (b := h6) s6 k8.1
          refine ok_ob1 (u_X2_expect h8 14 (s8).1) (fun h9 k9 => ?_)
          have s9 : SC h h9 := SC_trans (b := h8) s8 k9.1
          unfold f_X2_readOne_3_121
          exact ok_some ⟨s9, trivial⟩
      · refine ok_if (fun c10 => ?_) (fun c10 => ?_)
        · refine ok_ob2 (u_X2_opens h p1 ((SC_refl hI)).1) (fun r11 h11 k11 => ?_)
          have s11 : SC h h11 := SC_trans (b := h) (SC_refl hI) k11.1
          refine ok_if (fun c12 => ?_) (fun c12 => ?_)
          · unfold f_X2_readOne_3_121
            exact ok_some ⟨s11, trivial⟩
          · refine ok_ob1 (hR_X2_readOne h11 (p1 + 1) (s11).1 (by have := w0; have := w1; have : ((r11).toInt = 0 ∨ (p1).toInt < 8) := k11.2; have := gi_of_ne c12; have : (0 : Int32).toInt = 0 := rfl; have : (1 : Int32).toInt = 1 := rfl; have := fb_rng (r11); have := fb_rng (p1); (try have := fb_addI (x := p1) (y := 1) (by omega) (by omega)); omega) (by have := w0; have := w1; have : ((r11).toInt = 0 ∨ (p1).toInt < 8) := k11.2; have := gi_of_ne c12; have : (0 : Int32).toInt = 0 := rfl; have : (1 : Int32).toInt = 1 := rfl; have := fb_rng (r11); have := fb_rng (p1); (try have := fb_addI (x := p1) (y := 1) (by omega) (by omega)); omega)) (fun h13 k13 => ?_)
            have s13 : SC h h13 := SC_trans (b := h11) s11 k13.1
            refine ok_ob1 (u_X6_addStep_3 h13 20038 (s13).1) (fun h14 k14 => ?_)
            have s14 : SC h h14 := SC_trans (b := h13) s13 k14.1
            unfold f_X2_readOne_3_121
            exact ok_some ⟨s14, trivial⟩
        · refine ok_ob1 (u_X2_fail h 1 ((SC_refl hI)).1) (fun h15 k15 => ?_)
          have s15 : SC h h15 := SC_trans (b := h) (SC_refl hI) k15.1
          unfold f_X2_readOne_3_121
          exact ok_some ⟨s15, trivial⟩
    · refine ok_if (fun c16 => ?_) (fun c16 => ?_)
      · unfold f_X2_readOne_3_44
        refine ok_if (fun c17 => ?_) (fun c17 => ?_)
        · refine ok_ob2 (u_X2_opens h p1 ((SC_refl hI)).1) (fun r18 h18 k18 => ?_)
          have s18 : SC h h18 := SC_trans (b := h) (SC_refl hI) k18.1
          refine ok_if (fun c19 => ?_) (fun c19 => ?_)
          · unfold f_X2_readOne_3_121
            exact ok_some ⟨s18, trivial⟩
          · refine ok_ob1 (hR_X2_readLevel h18 3 (p1 + 1) (s18).1 (by have := w0; have := w1; have : ((r18).toInt = 0 ∨ (p1).toInt < 8) := k18.2; have := gi_of_ne c19; have : (0 : Int32).toInt = 0 := rfl; have : (1 : Int32).toInt = 1 := rfl; have : (3 : Int32).toInt = 3 := rfl; have := fb_rng (r18); have := fb_rng (p1); (try have := fb_addI (x := p1) (y := 1) (by omega) (by omega)); omega) (by have := w0; have := w1; have : ((r18).toInt = 0 ∨ (p1).toInt < 8) := k18.2; have := gi_of_ne c19; have : (0 : Int32).toInt = 0 := rfl; have : (1 : Int32).toInt = 1 := rfl; have : (3 : Int32).toInt = 3 := rfl; have := fb_rng (r18); have := fb_rng (p1); (try have := fb_addI (x := p1) (y := 1) (by omega) (by omega)); omega) (by have := w0; have := w1; have : ((r18).toInt = 0 ∨ (p1).toInt < 8) := k18.2; have := gi_of_ne c19; have : (0 : Int32).toInt = 0 := rfl; have : (1 : Int32).toInt = 1 := rfl; have : (3 : Int32).toInt = 3 := rfl; have := fb_rng (r18); have := fb_rng (p1); (try have := fb_addI (x := p1) (y := 1) (by omega) (by omega)); omega)) (fun h20 k20 => ?_)
            have s20 : SC h h20 := SC_trans (b := h18) s18 k20.1
            refine ok_ob1 (u_X2_expect h20 14 (s20).1) (fun h21 k21 => ?_)
            have s21 : SC h h21 := SC_trans (b := h20) s20 k21.1
            unfold f_X2_readOne_3_121
            exact ok_some ⟨s21, trivial⟩
        · refine ok_if (fun c22 => ?_) (fun c22 => ?_)
          · refine ok_ob2 (u_X2_opens h p1 ((SC_refl hI)).1) (fun r23 h23 k23 => ?_)
            have s23 : SC h h23 := SC_trans (b := h) (SC_refl hI) k23.1
            refine ok_if (fun c24 => ?_) (fun c24 => ?_)
            · unfold f_X2_readOne_3_121
              exact ok_some ⟨s23, trivial⟩
            · refine ok_ob1 (hR_X2_readOne h23 (p1 + 1) (s23).1 (by have := w0; have := w1; have : ((r23).toInt = 0 ∨ (p1).toInt < 8) := k23.2; have := gi_of_ne c24; have : (0 : Int32).toInt = 0 := rfl; have : (1 : Int32).toInt = 1 := rfl; have := fb_rng (r23); have := fb_rng (p1); (try have := fb_addI (x := p1) (y := 1) (by omega) (by omega)); omega) (by have := w0; have := w1; have : ((r23).toInt = 0 ∨ (p1).toInt < 8) := k23.2; have := gi_of_ne c24; have : (0 : Int32).toInt = 0 := rfl; have : (1 : Int32).toInt = 1 := rfl; have := fb_rng (r23); have := fb_rng (p1); (try have := fb_addI (x := p1) (y := 1) (by omega) (by omega)); omega)) (fun h25 k25 => ?_)
              have s25 : SC h h25 := SC_trans (b := h23) s23 k25.1
              refine ok_ob1 (u_X6_addStep_3 h25 20038 (s25).1) (fun h26 k26 => ?_)
              have s26 : SC h h26 := SC_trans (b := h25) s25 k26.1
              unfold f_X2_readOne_3_121
              exact ok_some ⟨s26, trivial⟩
          · refine ok_ob1 (u_X2_fail h 1 ((SC_refl hI)).1) (fun h27 k27 => ?_)
            have s27 : SC h h27 := SC_trans (b := h) (SC_refl hI) k27.1
            unfold f_X2_readOne_3_121
            exact ok_some ⟨s27, trivial⟩
      · refine ok_ob1 (u_X2_readName_3 h ((SC_refl hI)).1) (fun h28 k28 => ?_)
        have s28 : SC h h28 := SC_trans (b := h) (SC_refl hI) k28.1
        unfold f_X2_readOne_3_121
        exact ok_some ⟨s28, trivial⟩
theorem u_G_read_3 : ∀ (n : Nat), (∀ (h : HS) (p1 p2 : Int32), IC h → (0 ≤ p1.toInt ∧ p1.toInt ≤ 5) → (0 ≤ p2.toInt ∧ p2.toInt ≤ 8) → 20 * (8 - p2.toInt) + 22 - 2 * p1.toInt < (n : Int) → ok (G_read_3 n 0 h p1 p2) (fun a => SC h a ∧ True)) ∧ (∀ (h : HS) (p1 : Int32), IC h → (0 ≤ p1.toInt ∧ p1.toInt ≤ 8) → 20 * (8 - p1.toInt) + 17 < (n : Int) → ok (G_read_3 n 1 h p1 0) (fun a => SC h a ∧ True)) ∧ (∀ (h : HS) (p1 : Int32), IC h → (0 ≤ p1.toInt ∧ p1.toInt ≤ 8) → 20 * (8 - p1.toInt) + 5 < (n : Int) → ok (G_read_3 n 2 h p1 0) (fun a => SC h a ∧ True)) := by
  intro n
  induction n with
  | zero => exact ⟨fun h p1 p2 hI h0 h2 hm => absurd hm (by omega), fun h p1 hI h0 hm => absurd hm (by omega), fun h p1 hI h0 hm => absurd hm (by omega)⟩
  | succ n ih =>
    obtain ⟨i0, i1, i2⟩ := ih
    refine ⟨fun h p1 p2 hI h0 h2 hm => ?_, fun h p1 hI h0 hm => ?_, fun h p1 hI h0 hm => ?_⟩
    · exact u_X2_readLevel_3_b (m := n) i0 i1 i2 h p1 p2 hI h0 h2 (by omega)
    · exact u_X2_readAsk_3_b (m := n) i0 i1 i2 h p1 hI h0 (by omega)
    · exact u_X2_readOne_3_b (m := n) i0 i1 i2 h p1 hI h0 (by omega)
theorem u_X2_readClause_3 (h : HS) (hI : IC h) : ok (f_X2_readClause_3 h) (fun a => SC h a ∧ True) := by
  unfold f_X2_readClause_3
  refine ok_ob2 (u_X7_kind h ((SC_refl hI)).1) (fun r1 h1 k1 => ?_)
  have e1 : h = h1 := k1.1.symm
  subst e1
  refine ok_if (fun c2 => ?_) (fun c2 => ?_)
  · unfold f_X2_readClause_3_25
    refine ok_ob1 (u_X2_fail (sI h 5 2 (r1 - 16)) 1 ((SC_refl hI)).1) (fun h3 k3 => ?_)
    have s3 : SC h h3 := SC_trans (b := (sI h 5 2 (r1 - 16))) (SC_refl hI) k3.1
    unfold f_X2_readClause_3_158
    exact ok_some ⟨s3, trivial⟩
  · refine ok_if (fun c4 => ?_) (fun c4 => ?_)
    · refine ok_ob2 (u_X6_hasLaw_3 (sI h 5 2 (r1 - 16)) (r1 - 16) ((SC_refl hI)).1) (fun r5 h5 k5 => ?_)
      have e5 : (sI h 5 2 (r1 - 16)) = h5 := k5.1.symm
      subst e5
      refine ok_if (fun c6 => ?_) (fun c6 => ?_)
      · refine ok_if (fun c7 => ?_) (fun c7 => ?_)
        · refine ok_ob1 (u_X6_setClause_3 (sI h 5 2 (r1 - 16)) (eI (sI h 5 2 (r1 - 16)) 12 1) 0 r1 ((SC_refl hI)).1) (fun h8 k8 => ?_)
          have s8 : SC h h8 := SC_trans (b := (sI h 5 2 (r1 - 16))) (SC_refl hI) k8.1
          refine ok_ob1 (u_X7_advance h8 (s8).1) (fun h9 k9 => ?_)
          have s9 : SC h h9 := SC_trans (b := h8) s8 k9.1
          refine ok_if (fun c10 => ?_) (fun c10 => ?_)
          · refine ok_ob1 (u_X2_readDeed_3 h9 r1 (s9).1) (fun h11 k11 => ?_)
            have s11 : SC h h11 := SC_trans (b := h9) s9 k11.1
            unfold f_X2_readClause_3_141
            refine ok_ob1 (u_X2_expect h11 15 (s11).1) (fun h12 k12 => ?_)
            have s12 : SC h h12 := SC_trans (b := h11) s11 k12.1
            unfold f_X2_readClause_3_158
            exact ok_some ⟨s12, trivial⟩
          · refine ok_ob1 (u_X6_beginLaw_3 h9 (eI h9 5 2) (s9).1) (fun h13 k13 => ?_)
            have s13 : SC h h13 := SC_trans (b := h9) s9 k13.1
            refine ok_if (fun c14 => ?_) (fun c14 => ?_)
            · unfold f_X2_readClause_3_119
              refine ok_ob1 ((u_G_read_3 200).1 h13 0 0 (s13).1 (by have : (0 : Int32).toInt = 0 := rfl; omega) (by have : (0 : Int32).toInt = 0 := rfl; omega) (by have : (0 : Int32).toInt = 0 := rfl; omega)) (fun h15 k15 => ?_)
              have s15 : SC h h15 := SC_trans (b := h13) s13 k15.1
              refine ok_ob1 (u_X6_closeLaw_3 h15 (eI h15 5 2) (s15).1) (fun h16 k16 => ?_)
              have s16 : SC h h16 := SC_trans (b := h15) s15 k16.1
              unfold f_X2_readClause_3_141
              refine ok_ob1 (u_X2_expect h16 15 (s16).1) (fun h17 k17 => ?_)
              have s17 : SC h h17 := SC_trans (b := h16) s16 k17.1
              unfold f_X2_readClause_3_158
              exact ok_some ⟨s17, trivial⟩
            · unfold f_X2_readClause_3_119
              refine ok_ob1 ((u_G_read_3 200).1 h13 3 0 (s13).1 (by have : (0 : Int32).toInt = 0 := rfl; have : (3 : Int32).toInt = 3 := rfl; omega) (by have : (0 : Int32).toInt = 0 := rfl; have : (3 : Int32).toInt = 3 := rfl; omega) (by have : (0 : Int32).toInt = 0 := rfl; have : (3 : Int32).toInt = 3 := rfl; omega)) (fun h18 k18 => ?_)
              have s18 : SC h h18 := SC_trans (b := h13) s13 k18.1
              refine ok_ob1 (u_X6_closeLaw_3 h18 (eI h18 5 2) (s18).1) (fun h19 k19 => ?_)
              have s19 : SC h h19 := SC_trans (b := h18) s18 k19.1
              unfold f_X2_readClause_3_141
              refine ok_ob1 (u_X2_expect h19 15 (s19).1) (fun h20 k20 => ?_)
              have s20 : SC h h20 := SC_trans (b := h19) s19 k20.1
              unfold f_X2_readClause_3_158
              exact ok_some ⟨s20, trivial⟩
        · refine ok_ob1 (u_X2_fail (sI h 5 2 (r1 - 16)) 6 ((SC_refl hI)).1) (fun h21 k21 => ?_)
          have s21 : SC h h21 := SC_trans (b := (sI h 5 2 (r1 - 16))) (SC_refl hI) k21.1
          unfold f_X2_readClause_3_158
          exact ok_some ⟨s21, trivial⟩
      · refine ok_ob1 (u_X2_fail (sI h 5 2 (r1 - 16)) 4 ((SC_refl hI)).1) (fun h22 k22 => ?_)
        have s22 : SC h h22 := SC_trans (b := (sI h 5 2 (r1 - 16))) (SC_refl hI) k22.1
        unfold f_X2_readClause_3_158
        exact ok_some ⟨s22, trivial⟩
    · unfold f_X2_readClause_3_25
      refine ok_ob1 (u_X2_fail (sI h 5 2 (r1 - 16)) 1 ((SC_refl hI)).1) (fun h23 k23 => ?_)
      have s23 : SC h h23 := SC_trans (b := (sI h 5 2 (r1 - 16))) (SC_refl hI) k23.1
      unfold f_X2_readClause_3_158
      exact ok_some ⟨s23, trivial⟩
theorem u_X2_parse_3_16 {h0 : HS} : ∀ (n : Nat) (h : HS) (x3 : Int32), SC h0 h → 0 < n → (25 - x3.toInt : Int) < (n : Int) → ok (f_X2_parse_3_16  n h x3) (fun a => SC h0 a ∧ True) := by
  intro n
  induction n with
  | zero =>
    intro h x3 hSC hn hm
    exact absurd hn (by decide)
  | succ n ih_X2_parse_3_16 =>
    intro h x3 hSC hn hm
    rw [f_X2_parse_3_16_s]
    refine ok_if (fun c1 => ?_) (fun c1 => ?_)
    · unfold f_X2_parse_3_48
      exact ok_some ⟨hSC, trivial⟩
    · refine ok_if (fun c2 => ?_) (fun c2 => ?_)
      · refine ok_ob2 (u_X7_kind h (hSC).1) (fun r3 h3 k3 => ?_)
        have e3 : h = h3 := k3.1.symm
        subst e3
        refine ok_if (fun c4 => ?_) (fun c4 => ?_)
        · unfold f_X2_parse_3_48
          exact ok_some ⟨hSC, trivial⟩
        · refine ok_ob1 (u_X2_readClause_3 h (hSC).1) (fun h5 k5 => ?_)
          have s5 : SC h0 h5 := SC_trans (b := h) hSC k5.1
          exact ih_X2_parse_3_16 h5 (x3 + 1) s5 (by have := hm; have := gi_of_nlt c1; have : (1 : Int32).toInt = 1 := rfl; have : (24 : Int32).toInt = 24 := rfl; have := fb_rng (x3); (try have := fb_addI (x := x3) (y := 1) (by omega) (by omega)); omega) (by have := hm; have := gi_of_nlt c1; have : (1 : Int32).toInt = 1 := rfl; have : (24 : Int32).toInt = 24 := rfl; have := fb_rng (x3); (try have := fb_addI (x := x3) (y := 1) (by omega) (by omega)); omega)
      · unfold f_X2_parse_3_48
        exact ok_some ⟨hSC, trivial⟩
theorem u_X2_parse_3 (h : HS) (hI : IC h) : ok (f_X2_parse_3 h) (fun a => SC h a ∧ True) := by
  unfold f_X2_parse_3
  refine ok_ob1 (u_X6_clear_3 (sI (sI h 5 0 0) 5 1 (-1)) ((SC_refl hI)).1) (fun h1 k1 => ?_)
  have s1 : SC h h1 := SC_trans (b := (sI (sI h 5 0 0) 5 1 (-1))) (SC_refl hI) k1.1
  exact u_X2_parse_3_16 (h0 := h) 8589934592 h1 0 s1 (by decide) (by have : (0 : Int32).toInt = 0 := rfl; omega)
theorem u_X8_market (h : HS) (p1 p2 p3 : Int32) (hI : IC h) : ok (f_X8_market h p1 p2 p3) (fun a => IC a.2) := by
  unfold f_X8_market f_X8_market_25
  refine ok_if (fun c => ok_some hI) (fun c1 => ?_)
  refine ok_if (fun c => ok_some hI) (fun c2 => ?_)
  refine ok_ob1 (u_X8_isDigit p2) (fun r3 k3 => ?_)
  refine ok_if (fun c => ok_some hI) (fun c2 => ?_)
  refine ok_ob1 (u_X8_isDigit p3) (fun r5 k5 => ?_)
  refine ok_if (fun c => ok_some hI) (fun c2 => ?_)
  exact ok_ob2 (u_X4_addMarket h p1 p2 p3 hI) (fun r7 h7 k7 => ok_some k7.1)
theorem u_X8_goose (h : HS) (p1 p2 : Int32) (hI : IC h) : ok (f_X8_goose h p1 p2) (fun a => IC a.2) := by
  unfold f_X8_goose f_X8_goose_21
  refine ok_if (fun c => ok_some hI) (fun c1 => ?_)
  refine ok_if (fun c => ok_some hI) (fun c2 => ?_)
  refine ok_if (fun c => ok_some hI) (fun c3 => ?_)
  refine ok_if (fun c4 => ?_) (fun c => ok_some hI)
  exact ok_ob2 (u_X4_addGoose h p1 p2 hI (gi_of_le c4)) (fun r7 h7 k7 => ok_some k7.1)
theorem u_X8_store (h : HS) (p1 : Int32) (p2 : Int32) (hI : IC h) : ok (f_X8_store h p1 p2) (fun a => SC h a.2 ∧ (a.1 = 0 ∨ a.1 = 1)) := by
  unfold f_X8_store
  refine ok_if (fun c1 => ?_) (fun c1 => ?_)
  · unfold f_X8_store_21
    exact ok_some ⟨(SC_refl hI), (Or.inl rfl)⟩
  · refine ok_if (fun c2 => ?_) (fun c2 => ?_)
    · unfold f_X8_store_21
      exact ok_some ⟨(SC_refl hI), (Or.inl rfl)⟩
    · refine ok_if (fun c3 => ?_) (fun c3 => ?_)
      · unfold f_X8_store_21
        exact ok_some ⟨(SC_refl hI), (Or.inl rfl)⟩
      · refine ok_if (fun c4 => ?_) (fun c4 => ?_)
        · exact ok_some ⟨(SC_refl hI), (Or.inr rfl)⟩
        · unfold f_X8_store_21
          exact ok_some ⟨(SC_refl hI), (Or.inl rfl)⟩
theorem u_X8_seed (h : HS) (p1 : Int32) (hI : IC h) : ok (f_X8_seed h p1) (fun a => SC h a.2 ∧ (a.1 = 0 ∨ a.1 = 1)) := by
  unfold f_X8_seed
  refine ok_if (fun c1 => ?_) (fun c1 => ?_)
  · unfold f_X8_seed_11
    exact ok_some ⟨(SC_refl hI), (Or.inl rfl)⟩
  · refine ok_if (fun c2 => ?_) (fun c2 => ?_)
    · exact ok_some ⟨(SC_refl hI), (Or.inr rfl)⟩
    · unfold f_X8_seed_11
      exact ok_some ⟨(SC_refl hI), (Or.inl rfl)⟩
theorem u_X8_fill (h : HS) (p1 : Int32) (p2 : Int32) (p3 : Int32) (hI : IC h) : ok (f_X8_fill h p1 p2 p3) (fun a => SC h a.2 ∧ True) := by
  unfold f_X8_fill
  refine ok_ob1 (u_X8_isQuill p2 p3) (fun r1 k1 => ?_)
  refine ok_if (fun c2 => ?_) (fun c2 => ?_)
  · unfold f_X8_fill_32
    exact ok_some ⟨(SC_refl hI), trivial⟩
  · refine ok_ob2 (u_X4_isHome h p1 ((SC_refl hI)).1) (fun r3 h3 k3 => ?_)
    have e3 : h = h3 := k3.1.symm
    subst e3
    refine ok_if (fun c4 => ?_) (fun c4 => ?_)
    · unfold f_X8_fill_32
      exact ok_some ⟨(SC_refl hI), trivial⟩
    · refine ok_ob2 (u_X4_ofGoose h p1 2 ((SC_refl hI)).1) (fun r5 h5 k5 => ?_)
      have e5 : h = h5 := k5.1.symm
      subst e5
      refine ok_if (fun c6 => ?_) (fun c6 => ?_)
      · refine ok_ob2 (u_X1_inkCost h p1 p2 p3 ((SC_refl hI)).1) (fun r7 h7 k7 => ?_)
        have s7 : SC h h7 := SC_trans (b := h) (SC_refl hI) k7.1
        refine ok_if (fun c8 => ?_) (fun c8 => ?_)
        · refine ok_ob1 (u_X4_keepStep h7 (s7).1) (fun h9 k9 => ?_)
          have s9 : SC h h9 := SC_trans (b := h7) s7 k9.1
          refine ok_ob1 (u_X4_setGoose (sI h9 1 5 ((eI h9 1 5) - r7)) p1 2 p2 (s9).1 (fun e => absurd e (by decide))) (fun h10 k10 => ?_)
          have s10 : SC h h10 := SC_trans (b := (sI h9 1 5 ((eI h9 1 5) - r7))) s9 k10.1
          refine ok_ob1 (u_X4_setGoose h10 p1 3 p3 (s10).1 (fun e => absurd e (by decide))) (fun h11 k11 => ?_)
          have s11 : SC h h11 := SC_trans (b := h10) s10 k11.1
          exact ok_some ⟨s11, trivial⟩
        · exact ok_some ⟨s7, trivial⟩
      · unfold f_X8_fill_32
        exact ok_some ⟨(SC_refl hI), trivial⟩
theorem u_X8_send (h : HS) (p1 : Int32) (p2 : Int32) (hI : IC h) : ok (f_X8_send h p1 p2) (fun a => SC h a.2 ∧ True) := by
  unfold f_X8_send
  refine ok_ob2 (u_X4_hasMarket h p2 ((SC_refl hI)).1) (fun r1 h1 k1 => ?_)
  have e1 : h = h1 := k1.1.symm
  subst e1
  refine ok_if (fun c2 => ?_) (fun c2 => ?_)
  · unfold f_X8_send_22
    exact ok_some ⟨(SC_refl hI), trivial⟩
  · refine ok_ob2 (u_X4_isFree h p1 ((SC_refl hI)).1) (fun r3 h3 k3 => ?_)
    have e3 : h = h3 := k3.1.symm
    subst e3
    refine ok_if (fun c4 => ?_) (fun c4 => ?_)
    · unfold f_X8_send_22
      exact ok_some ⟨(SC_refl hI), trivial⟩
    · refine ok_ob1 (u_X4_keepStep h ((SC_refl hI)).1) (fun h5 k5 => ?_)
      have s5 : SC h h5 := SC_trans (b := h) (SC_refl hI) k5.1
      refine ok_ob2 (u_X4_ofMarket h5 p2 0 (s5).1) (fun r6 h6 k6 => ?_)
      have e6 : h5 = h6 := k6.1.symm
      subst e6
      refine ok_ob1 (u_X4_setGoose h5 p1 4 1 (s5).1 (fun e => absurd e (by decide))) (fun h7 k7 => ?_)
      have s7 : SC h h7 := SC_trans (b := h5) s5 k7.1
      refine ok_ob1 (u_X4_setGoose h7 p1 5 p2 (s7).1 (fun e => absurd e (by decide))) (fun h8 k8 => ?_)
      have s8 : SC h h8 := SC_trans (b := h7) s7 k8.1
      refine ok_ob1 (u_X4_setGoose h8 p1 6 ((eI h5 1 7) + r6) (s8).1 (fun e => absurd e (by decide))) (fun h9 k9 => ?_)
      have s9 : SC h h9 := SC_trans (b := h8) s8 k9.1
      exact ok_some ⟨s9, trivial⟩
theorem u_X8_fatten (h : HS) (p1 : Int32) (hI : IC h) : ok (f_X8_fatten h p1) (fun a => SC h a.2 ∧ True) := by
  unfold f_X8_fatten
  refine ok_ob2 (u_X4_isHome h p1 ((SC_refl hI)).1) (fun r1 h1 k1 => ?_)
  have e1 : h = h1 := k1.1.symm
  subst e1
  refine ok_if (fun c2 => ?_) (fun c2 => ?_)
  · unfold f_X8_fatten_36
    exact ok_some ⟨(SC_refl hI), trivial⟩
  · refine ok_ob2 (u_X4_ofGoose h p1 0 ((SC_refl hI)).1) (fun r3 h3 k3 => ?_)
    have e3 : h = h3 := k3.1.symm
    subst e3
    refine ok_if (fun c4 => ?_) (fun c4 => ?_)
    · unfold f_X8_fatten_36
      exact ok_some ⟨(SC_refl hI), trivial⟩
    · refine ok_if (fun c5 => ?_) (fun c5 => ?_)
      · refine ok_ob1 (u_X4_keepStep h ((SC_refl hI)).1) (fun h6 k6 => ?_)
        have s6 : SC h h6 := SC_trans (b := h) (SC_refl hI) k6.1
        refine ok_ob2 (u_X4_ofGoose (sI h6 1 5 ((eI h6 1 5) - 1)) p1 0 (s6).1) (fun r7 h7 k7 => ?_)
        have e7 : (sI h6 1 5 ((eI h6 1 5) - 1)) = h7 := k7.1.symm
        subst e7
        refine ok_ob1 (u_X4_setGoose (sI h6 1 5 ((eI h6 1 5) - 1)) p1 0 (r7 + 1) (s6).1 (fun e => absurd e (by decide))) (fun h8 k8 => ?_)
        have s8 : SC h h8 := SC_trans (b := (sI h6 1 5 ((eI h6 1 5) - 1))) s6 k8.1
        refine ok_ob2 (u_X4_ofGoose h8 p1 0 (s8).1) (fun r9 h9 k9 => ?_)
        have e9 : h8 = h9 := k9.1.symm
        subst e9
        exact ok_some ⟨s8, trivial⟩
      · unfold f_X8_fatten_36
        exact ok_some ⟨(SC_refl hI), trivial⟩
theorem ofGoose_same {h c : HS} (e0 : eA c 1 0 = eA h 1 0) (e3 : eI c 1 3 = eI h 1 3) {p q r : Int32} (k : f_X4_ofGoose h p q = some (r, h)) : f_X4_ofGoose c p q = some (r, c) := by
  unfold f_X4_ofGoose f_X4_ofGoose_28 at *
  rw [e0, e3]
  split at k
  · next c1 => rw [if_pos c1]; cases k; rfl
  · next c1 =>
    rw [if_neg c1]
    split at k
    · next c2 => rw [if_pos c2]; cases k; rfl
    · next c2 =>
      rw [if_neg c2]
      split at k
      · next c3 => rw [if_pos c3]; cases k; rfl
      · next c3 =>
        rw [if_neg c3]
        split at k
        · next c4 => rw [if_pos c4]; cases k; rfl
        · next c4 =>
          rw [if_neg c4]
          split at k
          · next c5 =>
            rw [if_pos c5]
            split at k
            · next c6 => rw [if_pos c6]; cases k; rfl
            · cases k
          · next c5 => rw [if_neg c5]; cases k; rfl
theorem u_X8_pluck (h : HS) (p1 : Int32) (hI : IC h) : ok (f_X8_pluck h p1) (fun a => SC h a.2 ∧ True) := by
  unfold f_X8_pluck f_X8_pluck_24
  refine ok_ob2 (u_X4_isHome h p1 hI) (fun r1 h1 k1 => ?_)
  have e1 : h = h1 := k1.1.symm
  subst e1
  refine ok_if (fun c2 => ok_some ⟨SC_refl hI, trivial⟩) (fun c2 => ?_)
  obtain ⟨⟨r3, h3⟩, e3, k3⟩ := u_X4_ofGoose h p1 1 hI
  have e4 : h = h3 := k3.1.symm
  subst e4
  refine ok_ob2e e3 ?_
  refine ok_if (fun c4 => ?_) (fun c4 => ok_some ⟨SC_refl hI, trivial⟩)
  refine ok_ob1 (u_X4_keepStep h hI) (fun h5 k5 => ?_)
  refine ok_ob2e (ofGoose_same k5.2 k5.1.2.1 e3) ?_
  have z1 : (1 : Int32).toInt = 1 := rfl
  have d4 := gi_of_le c4
  have k99 : r3.toInt ≤ 99 := k3.2 rfl
  have e5 := fb_subI (x := r3) (y := 1) (by omega) (by omega)
  refine ok_ob1 (u_X4_setGoose h5 p1 1 (r3 - 1) k5.1.1 (fun _ => by omega)) (fun h7 k7 => ?_)
  have s7 := SC_trans k5.1 k7.1
  refine ok_ob2 (u_X4_ofGoose h7 p1 1 s7.1) (fun r8 h8 k8 => ?_)
  have e8 : h7 = h8 := k8.1.symm
  subst e8
  exact ok_some ⟨s7, trivial⟩
theorem u_X8_name (h : HS) (p1 : Int32) (hI : IC h) : ok (f_X8_name h p1) (fun a => SC h a.2 ∧ (a.1 = 0 ∨ a.1 = 1)) := by
  unfold f_X8_name
  refine ok_ob2 (u_X4_isFree h p1 ((SC_refl hI)).1) (fun r1 h1 k1 => ?_)
  have e1 : h = h1 := k1.1.symm
  subst e1
  refine ok_if (fun c2 => ?_) (fun c2 => ?_)
  · exact ok_some ⟨(SC_refl hI), (Or.inl rfl)⟩
  · refine ok_ob1 (u_X4_keepStep h ((SC_refl hI)).1) (fun h3 k3 => ?_)
    have s3 : SC h h3 := SC_trans (b := h) (SC_refl hI) k3.1
    refine ok_ob1 (u_X4_setGoose h3 p1 8 1 (s3).1 (fun e => absurd e (by decide))) (fun h4 k4 => ?_)
    have s4 : SC h h4 := SC_trans (b := h3) s3 k4.1
    exact ok_some ⟨s4, (Or.inr rfl)⟩
theorem u_X8_fateAtMarket (h : HS) (p1 : Int32) (hI : IC h) : ok (f_X8_fateAtMarket h p1) (fun a => SC h a.2 ∧ True) := by
  unfold f_X8_fateAtMarket
  refine ok_ob1 (u_X1_lookAtTraveller h p1 ((SC_refl hI)).1) (fun h1 k1 => ?_)
  have s1 : SC h h1 := SC_trans (b := h) (SC_refl hI) k1.1
  refine ok_ob2 (u_X4_draw h1 (s1).1) (fun r2 h2 k2 => ?_)
  have s2 : SC h h2 := SC_trans (b := h1) s1 k2.1
  refine ok_ob2 (u_X1_rule h2 0 (s2).1) (fun r3 h3 k3 => ?_)
  have s3 : SC h h3 := SC_trans (b := h2) s2 k3.1
  refine ok_if (fun c4 => ?_) (fun c4 => ?_)
  · refine ok_ob2 (u_X4_ofGoose h3 p1 2 (s3).1) (fun r5 h5 k5 => ?_)
    have e5 : h3 = h5 := k5.1.symm
    subst e5
    refine ok_if (fun c6 => ?_) (fun c6 => ?_)
    · exact ok_some ⟨s3, trivial⟩
    · refine ok_ob2 (u_X4_draw h3 (s3).1) (fun r7 h7 k7 => ?_)
      have s7 : SC h h7 := SC_trans (b := h3) s3 k7.1
      refine ok_ob2 (u_X1_rule h7 1 (s7).1) (fun r8 h8 k8 => ?_)
      have s8 : SC h h8 := SC_trans (b := h7) s7 k8.1
      refine ok_if (fun c9 => ?_) (fun c9 => ?_)
      · unfold f_X8_fateAtMarket_78
        exact ok_some ⟨s8, trivial⟩
      · unfold f_X8_fateAtMarket_78
        exact ok_some ⟨s8, trivial⟩
  · exact ok_some ⟨s3, trivial⟩
theorem u_X8_passOneDay_15 {h0 : HS} : ∀ (n : Nat) (h : HS) (x1 : Int32), SC h0 h → 0 < n → (10 - (x1).toInt : Int) < (n : Int) → ok (f_X8_passOneDay_15  n h x1) (fun a => SC h0 a ∧ True) := by
  intro n
  induction n with
  | zero =>
    intro h x1 hSC hn hm
    exact absurd hn (by decide)
  | succ n ih_X8_passOneDay_15 =>
    intro h x1 hSC hn hm
    rw [f_X8_passOneDay_15_s]
    refine ok_if (fun c1 => ?_) (fun c1 => ?_)
    · refine ok_ob1 (u_X4_eatDaily h (hSC).1) (fun h2 k2 => ?_)
      have s2 : SC h0 h2 := SC_trans (b := h) hSC k2.1
      exact ok_some ⟨s2, trivial⟩
    · refine ok_ob2 (u_X4_ofGoose h x1 4 (hSC).1) (fun r3 h3 k3 => ?_)
      have e3 : h = h3 := k3.1.symm
      subst e3
      refine ok_if (fun c4 => ?_) (fun c4 => ?_)
      · refine ok_ob2 (u_X4_ofGoose h x1 6 (hSC).1) (fun r5 h5 k5 => ?_)
        have e5 : h = h5 := k5.1.symm
        subst e5
        refine ok_if (fun c6 => ?_) (fun c6 => ?_)
        · refine ok_ob2 (u_X8_fateAtMarket h x1 (hSC).1) (fun r7 h7 k7 => ?_)
          have s7 : SC h0 h7 := SC_trans (b := h) hSC k7.1
          refine ok_ob1 (u_X4_settle h7 x1 r7 (s7).1) (fun h8 k8 => ?_)
          have s8 : SC h0 h8 := SC_trans (b := h7) s7 k8.1
          unfold f_X8_passOneDay_72
          exact ih_X8_passOneDay_15 h8 (x1 + 1) s8 (by have := IC_n hSC.1; have := hm; have := gi_of_nle c1; have : (1 : Int32).toInt = 1 := rfl; have := fb_rng (eI h 1 3); have := fb_rng (x1); (try have := fb_addI (x := x1) (y := 1) (by omega) (by omega)); omega) (by have := IC_n hSC.1; have := hm; have := gi_of_nle c1; have : (1 : Int32).toInt = 1 := rfl; have := fb_rng (eI h 1 3); have := fb_rng (x1); (try have := fb_addI (x := x1) (y := 1) (by omega) (by omega)); omega)
        · unfold f_X8_passOneDay_72
          exact ih_X8_passOneDay_15 h (x1 + 1) hSC (by have := IC_n hSC.1; have := hm; have := gi_of_nle c1; have : (1 : Int32).toInt = 1 := rfl; have := fb_rng (eI h 1 3); have := fb_rng (x1); (try have := fb_addI (x := x1) (y := 1) (by omega) (by omega)); omega) (by have := IC_n hSC.1; have := hm; have := gi_of_nle c1; have : (1 : Int32).toInt = 1 := rfl; have := fb_rng (eI h 1 3); have := fb_rng (x1); (try have := fb_addI (x := x1) (y := 1) (by omega) (by omega)); omega)
      · unfold f_X8_passOneDay_72
        exact ih_X8_passOneDay_15 h (x1 + 1) hSC (by have := IC_n hSC.1; have := hm; have := gi_of_nle c1; have : (1 : Int32).toInt = 1 := rfl; have := fb_rng (eI h 1 3); have := fb_rng (x1); (try have := fb_addI (x := x1) (y := 1) (by omega) (by omega)); omega) (by have := IC_n hSC.1; have := hm; have := gi_of_nle c1; have : (1 : Int32).toInt = 1 := rfl; have := fb_rng (eI h 1 3); have := fb_rng (x1); (try have := fb_addI (x := x1) (y := 1) (by omega) (by omega)); omega)
theorem u_X8_passOneDay (h : HS) (hI : IC h) : ok (f_X8_passOneDay h) (fun a => SC h a ∧ True) := by
  unfold f_X8_passOneDay
  exact u_X8_passOneDay_15 (h0 := h) 8589934592 (sI h 1 7 ((eI h 1 7) + 1)) 0 (SC_refl hI) (by decide) (by have : (0 : Int32).toInt = 0 := rfl; omega)
theorem u_X8_pass_37 {h0 : HS} (x1 : Int32) : ∀ (n : Nat) (h : HS) (x2 : Int32), SC h0 h → 0 < n → (x1.toInt - x2.toInt : Int) < (n : Int) → ok (f_X8_pass_37  n h x1 x2) (fun a => SC h0 a.2 ∧ True) := by
  intro n
  induction n with
  | zero =>
    intro h x2 hSC hn hm
    exact absurd hn (by decide)
  | succ n ih_X8_pass_37 =>
    intro h x2 hSC hn hm
    rw [f_X8_pass_37_s]
    refine ok_if (fun c1 => ?_) (fun c1 => ?_)
    · exact ok_some ⟨hSC, trivial⟩
    · refine ok_ob1 (u_X8_passOneDay h (hSC).1) (fun h2 k2 => ?_)
      have s2 : SC h0 h2 := SC_trans (b := h) hSC k2.1
      exact ih_X8_pass_37 h2 (x2 + 1) s2 (by have := hm; have := gi_of_nle c1; have : (1 : Int32).toInt = 1 := rfl; have := fb_rng (x1); have := fb_rng (x2); (try have := fb_addI (x := x2) (y := 1) (by omega) (by omega)); omega) (by have := hm; have := gi_of_nle c1; have : (1 : Int32).toInt = 1 := rfl; have := fb_rng (x1); have := fb_rng (x2); (try have := fb_addI (x := x2) (y := 1) (by omega) (by omega)); omega)
theorem u_X8_pass (h : HS) (p1 : Int32) (hI : IC h) : ok (f_X8_pass h p1) (fun a => SC h a.2 ∧ True) := by
  unfold f_X8_pass
  refine ok_if (fun c1 => ?_) (fun c1 => ?_)
  · unfold f_X8_pass_26
    exact ok_some ⟨(SC_refl hI), trivial⟩
  · refine ok_if (fun c2 => ?_) (fun c2 => ?_)
    · unfold f_X8_pass_26
      exact ok_some ⟨(SC_refl hI), trivial⟩
    · refine ok_if (fun c3 => ?_) (fun c3 => ?_)
      · refine ok_ob1 (u_X4_keepStep h ((SC_refl hI)).1) (fun h4 k4 => ?_)
        have s4 : SC h h4 := SC_trans (b := h) (SC_refl hI) k4.1
        exact u_X8_pass_37 (h0 := h) p1 8589934592 h4 0 s4 (by decide) (by have := IC_n (SC_refl hI).1; have := gi_of_nlt c1; have := gi_of_nlt c2; have := gi_of_le c3; have : (0 : Int32).toInt = 0 := rfl; have : (1 : Int32).toInt = 1 := rfl; have : (99 : Int32).toInt = 99 := rfl; have : (999 : Int32).toInt = 999 := rfl; have := fb_rng (p1); have := fb_rng (eI h 1 7); (try have := fb_addI (x := (eI h 1 7)) (y := p1) (by omega) (by omega)); omega)
      · unfold f_X8_pass_26
        exact ok_some ⟨(SC_refl hI), trivial⟩
theorem u_X8_feed (h : HS) (p1 : Int32) (p2 : Int32) (p3 : Int32) (p4 : Int32) (p5 : Int32) (hI : IC h) : ok (f_X8_feed h p1 p2 p3 p4 p5) (fun a => SC h a.2 ∧ True) := by
  unfold f_X8_feed
  refine ok_if (fun c1 => ?_) (fun c1 => ?_)
  · refine ok_ob1 (u_X5_addFour h p1 ((SC_refl hI)).1) (fun h2 k2 => ?_)
    have s2 : SC h h2 := SC_trans (b := h) (SC_refl hI) k2.1
    refine ok_ob1 (u_X5_addFour h2 p2 (s2).1) (fun h3 k3 => ?_)
    have s3 : SC h h3 := SC_trans (b := h2) s2 k3.1
    refine ok_ob1 (u_X5_addFour h3 p3 (s3).1) (fun h4 k4 => ?_)
    have s4 : SC h h4 := SC_trans (b := h3) s3 k4.1
    refine ok_ob1 (u_X5_addFour h4 p4 (s4).1) (fun h5 k5 => ?_)
    have s5 : SC h h5 := SC_trans (b := h4) s4 k5.1
    refine ok_ob1 (u_X5_addFour h5 p5 (s5).1) (fun h6 k6 => ?_)
    have s6 : SC h h6 := SC_trans (b := h5) s5 k6.1
    exact ok_some ⟨s6, trivial⟩
  · exact ok_some ⟨(SC_refl hI), trivial⟩
theorem u_X8_end (h : HS) (p1 : Int32) (hI : IC h) : ok (f_X8_end h p1) (fun a => SC h a.2 ∧ True) := by
  unfold f_X8_end
  refine ok_if (fun c1 => ?_) (fun c1 => ?_)
  · unfold f_X8_end_15
    exact ok_some ⟨(SC_refl hI), trivial⟩
  · refine ok_if (fun c2 => ?_) (fun c2 => ?_)
    · exact ok_some ⟨(st_3_1 (c := h) (x := p1) (SC_refl hI) (by have := IC_n (SC_refl hI).1; have := gi_of_nlt c1; have := gi_of_le c2; have : (0 : Int32).toInt = 0 := rfl; have := fb_rng (p1); have := fb_rng (eI h 3 1); omega) (by have := IC_n (SC_refl hI).1; have := gi_of_nlt c1; have := gi_of_le c2; have : (0 : Int32).toInt = 0 := rfl; have := fb_rng (p1); have := fb_rng (eI h 3 1); omega)), trivial⟩
    · unfold f_X8_end_15
      exact ok_some ⟨(SC_refl hI), trivial⟩
theorem u_X8_text (h : HS) (hI : IC h) : ok (f_X8_text h) (fun a => SC h a.2 ∧ True) := by
  unfold f_X8_text
  refine ok_if (fun c1 => ?_) (fun c1 => ?_)
  · refine ok_ob1 (u_X7_split h ((SC_refl hI)).1) (fun h2 k2 => ?_)
    have s2 : SC h h2 := SC_trans (b := h) (SC_refl hI) k2.1
    refine ok_ob1 (u_X2_parse_0 h2 (s2).1) (fun h3 k3 => ?_)
    have s3 : SC h h3 := SC_trans (b := h2) s2 k3.1
    refine ok_if (fun c4 => ?_) (fun c4 => ?_)
    · exact ok_some ⟨(st_3_1 (c := h3) (x := 0) s3 (by have : (0 : Int32).toInt = 0 := rfl; omega) (by have : (0 : Int32).toInt = 0 := rfl; omega)), trivial⟩
    · exact ok_some ⟨(st_3_1 (c := h3) (x := 0) s3 (by have : (0 : Int32).toInt = 0 := rfl; omega) (by have : (0 : Int32).toInt = 0 := rfl; omega)), trivial⟩
  · refine ok_if (fun c5 => ?_) (fun c5 => ?_)
    · refine ok_ob1 (u_X7_split h ((SC_refl hI)).1) (fun h6 k6 => ?_)
      have s6 : SC h h6 := SC_trans (b := h) (SC_refl hI) k6.1
      refine ok_ob1 (u_X2_parse_1 h6 (s6).1) (fun h7 k7 => ?_)
      have s7 : SC h h7 := SC_trans (b := h6) s6 k7.1
      refine ok_if (fun c8 => ?_) (fun c8 => ?_)
      · exact ok_some ⟨(st_3_1 (c := h7) (x := 0) s7 (by have : (0 : Int32).toInt = 0 := rfl; omega) (by have : (0 : Int32).toInt = 0 := rfl; omega)), trivial⟩
      · exact ok_some ⟨(st_3_1 (c := h7) (x := 0) s7 (by have : (0 : Int32).toInt = 0 := rfl; omega) (by have : (0 : Int32).toInt = 0 := rfl; omega)), trivial⟩
    · refine ok_if (fun c9 => ?_) (fun c9 => ?_)
      · refine ok_ob1 (u_X7_split h ((SC_refl hI)).1) (fun h10 k10 => ?_)
        have s10 : SC h h10 := SC_trans (b := h) (SC_refl hI) k10.1
        refine ok_ob1 (u_X2_parse_2 h10 (s10).1) (fun h11 k11 => ?_)
        have s11 : SC h h11 := SC_trans (b := h10) s10 k11.1
        refine ok_if (fun c12 => ?_) (fun c12 => ?_)
        · exact ok_some ⟨(st_3_1 (c := h11) (x := 0) s11 (by have : (0 : Int32).toInt = 0 := rfl; omega) (by have : (0 : Int32).toInt = 0 := rfl; omega)), trivial⟩
        · exact ok_some ⟨(st_3_1 (c := h11) (x := 0) s11 (by have : (0 : Int32).toInt = 0 := rfl; omega) (by have : (0 : Int32).toInt = 0 := rfl; omega)), trivial⟩
      · refine ok_if (fun c13 => ?_) (fun c13 => ?_)
        · refine ok_ob1 (u_X7_split h ((SC_refl hI)).1) (fun h14 k14 => ?_)
          have s14 : SC h h14 := SC_trans (b := h) (SC_refl hI) k14.1
          refine ok_ob1 (u_X2_parse_3 h14 (s14).1) (fun h15 k15 => ?_)
          have s15 : SC h h15 := SC_trans (b := h14) s14 k15.1
          refine ok_if (fun c16 => ?_) (fun c16 => ?_)
          · exact ok_some ⟨(st_3_1 (c := h15) (x := 0) s15 (by have : (0 : Int32).toInt = 0 := rfl; omega) (by have : (0 : Int32).toInt = 0 := rfl; omega)), trivial⟩
          · exact ok_some ⟨(st_3_1 (c := h15) (x := 0) s15 (by have : (0 : Int32).toInt = 0 := rfl; omega) (by have : (0 : Int32).toInt = 0 := rfl; omega)), trivial⟩
        · exact ok_some ⟨(SC_refl hI), trivial⟩
theorem u_X8_fault (h : HS) (p1 : Int32) (hI : IC h) : ok (f_X8_fault h p1) (fun a => a.2 = h ∧ True) := by
  unfold f_X8_fault
  refine ok_if (fun c1 => ?_) (fun c1 => ?_)
  · exact ok_some ⟨rfl, trivial⟩
  · refine ok_if (fun c2 => ?_) (fun c2 => ?_)
    · unfold f_X8_fault_28
      exact ok_some ⟨rfl, trivial⟩
    · unfold f_X8_fault_28
      exact ok_some ⟨rfl, trivial⟩
theorem u_X8_by (h : HS) (p1 : Int32) (hI : IC h) : ok (f_X8_by h p1) (fun a => SC h a.2 ∧ (a.1 = 0 ∨ a.1 = 1)) := by
  unfold f_X8_by
  refine ok_if (fun c1 => ?_) (fun c1 => ?_)
  · unfold f_X8_by_16
    exact ok_some ⟨(SC_refl hI), (Or.inl rfl)⟩
  · refine ok_if (fun c2 => ?_) (fun c2 => ?_)
    · exact ok_some ⟨(SC_refl hI), (Or.inr rfl)⟩
    · unfold f_X8_by_16
      exact ok_some ⟨(SC_refl hI), (Or.inl rfl)⟩
theorem u_X8_played_29 {h0 : HS} : ∀ (n : Nat) (h : HS) (x3 : Int32), SC h0 h → 0 < n → (2147483647 - (x3).toInt : Int) < (n : Int) → ok (f_X8_played_29  n h x3) (fun a => SC h0 a.2 ∧ True) := by
  intro n
  induction n with
  | zero =>
    intro h x3 hSC hn hm
    exact absurd hn (by decide)
  | succ n ih_X8_played_29 =>
    intro h x3 hSC hn hm
    rw [f_X8_played_29_s]
    refine ok_if (fun c1 => ?_) (fun c1 => ?_)
    · exact ok_some ⟨hSC, trivial⟩
    · refine ok_ob2 (u_X6_clauseField_0 h x3 1 (hSC).1) (fun r2 h2 k2 => ?_)
      have e2 : h = h2 := k2.1.symm
      subst e2
      refine ok_ob2 (u_X6_clauseField_0 h x3 2 (hSC).1) (fun r3 h3 k3 => ?_)
      have e3 : h = h3 := k3.1.symm
      subst e3
      refine ok_ob2 (u_X6_clauseField_0 h x3 0 (hSC).1) (fun r4 h4 k4 => ?_)
      have e4 : h = h4 := k4.1.symm
      subst e4
      refine ok_if (fun c5 => ?_) (fun c5 => ?_)
      · refine ok_ob2 (u_X6_clauseField_0 h x3 3 (hSC).1) (fun r6 h6 k6 => ?_)
        have e6 : h = h6 := k6.1.symm
        subst e6
        refine ok_ob2 (u_X8_fill h r2 r3 r6 (hSC).1) (fun r7 h7 k7 => ?_)
        have s7 : SC h0 h7 := SC_trans (b := h) hSC k7.1
        unfold f_X8_played_146
        refine ok_if (fun c8 => ?_) (fun c8 => ?_)
        · exact ok_some ⟨s7, trivial⟩
        · exact ih_X8_played_29 h7 (x3 + 1) s7 (by have := IC_n hSC.1; have := hm; have := gi_of_nle c1; have : (1 : Int32).toInt = 1 := rfl; have := fb_rng (eI h 9 1); have := fb_rng (x3); (try have := fb_addI (x := x3) (y := 1) (by omega) (by omega)); omega) (by have := IC_n hSC.1; have := hm; have := gi_of_nle c1; have : (1 : Int32).toInt = 1 := rfl; have := fb_rng (eI h 9 1); have := fb_rng (x3); (try have := fb_addI (x := x3) (y := 1) (by omega) (by omega)); omega)
      · refine ok_if (fun c9 => ?_) (fun c9 => ?_)
        · refine ok_ob2 (u_X8_send h r2 r3 (hSC).1) (fun r10 h10 k10 => ?_)
          have s10 : SC h0 h10 := SC_trans (b := h) hSC k10.1
          unfold f_X8_played_146
          refine ok_if (fun c11 => ?_) (fun c11 => ?_)
          · exact ok_some ⟨s10, trivial⟩
          · exact ih_X8_played_29 h10 (x3 + 1) s10 (by have := IC_n hSC.1; have := hm; have := gi_of_nle c1; have : (1 : Int32).toInt = 1 := rfl; have := fb_rng (eI h 9 1); have := fb_rng (x3); (try have := fb_addI (x := x3) (y := 1) (by omega) (by omega)); omega) (by have := IC_n hSC.1; have := hm; have := gi_of_nle c1; have : (1 : Int32).toInt = 1 := rfl; have := fb_rng (eI h 9 1); have := fb_rng (x3); (try have := fb_addI (x := x3) (y := 1) (by omega) (by omega)); omega)
        · refine ok_if (fun c12 => ?_) (fun c12 => ?_)
          · refine ok_ob2 (u_X8_fatten h r2 (hSC).1) (fun r13 h13 k13 => ?_)
            have s13 : SC h0 h13 := SC_trans (b := h) hSC k13.1
            unfold f_X8_played_146
            refine ok_if (fun c14 => ?_) (fun c14 => ?_)
            · exact ok_some ⟨s13, trivial⟩
            · exact ih_X8_played_29 h13 (x3 + 1) s13 (by have := IC_n hSC.1; have := hm; have := gi_of_nle c1; have : (1 : Int32).toInt = 1 := rfl; have := fb_rng (eI h 9 1); have := fb_rng (x3); (try have := fb_addI (x := x3) (y := 1) (by omega) (by omega)); omega) (by have := IC_n hSC.1; have := hm; have := gi_of_nle c1; have : (1 : Int32).toInt = 1 := rfl; have := fb_rng (eI h 9 1); have := fb_rng (x3); (try have := fb_addI (x := x3) (y := 1) (by omega) (by omega)); omega)
          · refine ok_if (fun c15 => ?_) (fun c15 => ?_)
            · refine ok_ob2 (u_X8_pass h r2 (hSC).1) (fun r16 h16 k16 => ?_)
              have s16 : SC h0 h16 := SC_trans (b := h) hSC k16.1
              unfold f_X8_played_146
              refine ok_if (fun c17 => ?_) (fun c17 => ?_)
              · exact ok_some ⟨s16, trivial⟩
              · exact ih_X8_played_29 h16 (x3 + 1) s16 (by have := IC_n hSC.1; have := hm; have := gi_of_nle c1; have : (1 : Int32).toInt = 1 := rfl; have := fb_rng (eI h 9 1); have := fb_rng (x3); (try have := fb_addI (x := x3) (y := 1) (by omega) (by omega)); omega) (by have := IC_n hSC.1; have := hm; have := gi_of_nle c1; have : (1 : Int32).toInt = 1 := rfl; have := fb_rng (eI h 9 1); have := fb_rng (x3); (try have := fb_addI (x := x3) (y := 1) (by omega) (by omega)); omega)
            · unfold f_X8_played_146
              refine ok_if (fun c18 => ?_) (fun c18 => ?_)
              · exact ok_some ⟨hSC, trivial⟩
              · exact ih_X8_played_29 h (x3 + 1) hSC (by have := IC_n hSC.1; have := hm; have := gi_of_nle c1; have := gi_of_ne c18; have : ((-1) : Int32).toInt = -1 := rfl; have : (0 : Int32).toInt = 0 := rfl; have : (1 : Int32).toInt = 1 := rfl; have := fb_rng (eI h 9 1); have := fb_rng (x3); (try have := fb_addI (x := x3) (y := 1) (by omega) (by omega)); omega) (by have := IC_n hSC.1; have := hm; have := gi_of_nle c1; have := gi_of_ne c18; have : ((-1) : Int32).toInt = -1 := rfl; have : (0 : Int32).toInt = 0 := rfl; have : (1 : Int32).toInt = 1 := rfl; have := fb_rng (eI h 9 1); have := fb_rng (x3); (try have := fb_addI (x := x3) (y := 1) (by omega) (by omega)); omega)
theorem u_X8_played_29b {h0 : HS} : ∀ (n : Nat) (h : HS) (x3 : Int32), SC h0 h → 0 < n → (2147483647 - (x3).toInt : Int) < (n : Int) → ok (f_X8_played_29b  n h x3) (fun a => SC h0 a.2 ∧ True) := by
  intro n
  induction n with
  | zero =>
    intro h x3 hSC hn hm
    exact absurd hn (by decide)
  | succ n ih_X8_played_29b =>
    intro h x3 hSC hn hm
    rw [f_X8_played_29b_s]
    refine ok_if (fun c1 => ?_) (fun c1 => ?_)
    · exact ok_some ⟨hSC, trivial⟩
    · refine ok_ob2 (u_X6_clauseField_1 h x3 1 (hSC).1) (fun r2 h2 k2 => ?_)
      have e2 : h = h2 := k2.1.symm
      subst e2
      refine ok_ob2 (u_X6_clauseField_1 h x3 2 (hSC).1) (fun r3 h3 k3 => ?_)
      have e3 : h = h3 := k3.1.symm
      subst e3
      refine ok_ob2 (u_X6_clauseField_1 h x3 0 (hSC).1) (fun r4 h4 k4 => ?_)
      have e4 : h = h4 := k4.1.symm
      subst e4
      refine ok_if (fun c5 => ?_) (fun c5 => ?_)
      · refine ok_ob2 (u_X6_clauseField_1 h x3 3 (hSC).1) (fun r6 h6 k6 => ?_)
        have e6 : h = h6 := k6.1.symm
        subst e6
        refine ok_ob2 (u_X8_fill h r2 r3 r6 (hSC).1) (fun r7 h7 k7 => ?_)
        have s7 : SC h0 h7 := SC_trans (b := h) hSC k7.1
        unfold f_X8_played_146b
        refine ok_if (fun c8 => ?_) (fun c8 => ?_)
        · exact ok_some ⟨s7, trivial⟩
        · exact ih_X8_played_29b h7 (x3 + 1) s7 (by have := IC_n hSC.1; have := hm; have := gi_of_nle c1; have : (1 : Int32).toInt = 1 := rfl; have := fb_rng (eI h 10 1); have := fb_rng (x3); (try have := fb_addI (x := x3) (y := 1) (by omega) (by omega)); omega) (by have := IC_n hSC.1; have := hm; have := gi_of_nle c1; have : (1 : Int32).toInt = 1 := rfl; have := fb_rng (eI h 10 1); have := fb_rng (x3); (try have := fb_addI (x := x3) (y := 1) (by omega) (by omega)); omega)
      · refine ok_if (fun c9 => ?_) (fun c9 => ?_)
        · refine ok_ob2 (u_X8_send h r2 r3 (hSC).1) (fun r10 h10 k10 => ?_)
          have s10 : SC h0 h10 := SC_trans (b := h) hSC k10.1
          unfold f_X8_played_146b
          refine ok_if (fun c11 => ?_) (fun c11 => ?_)
          · exact ok_some ⟨s10, trivial⟩
          · exact ih_X8_played_29b h10 (x3 + 1) s10 (by have := IC_n hSC.1; have := hm; have := gi_of_nle c1; have : (1 : Int32).toInt = 1 := rfl; have := fb_rng (eI h 10 1); have := fb_rng (x3); (try have := fb_addI (x := x3) (y := 1) (by omega) (by omega)); omega) (by have := IC_n hSC.1; have := hm; have := gi_of_nle c1; have : (1 : Int32).toInt = 1 := rfl; have := fb_rng (eI h 10 1); have := fb_rng (x3); (try have := fb_addI (x := x3) (y := 1) (by omega) (by omega)); omega)
        · refine ok_if (fun c12 => ?_) (fun c12 => ?_)
          · refine ok_ob2 (u_X8_fatten h r2 (hSC).1) (fun r13 h13 k13 => ?_)
            have s13 : SC h0 h13 := SC_trans (b := h) hSC k13.1
            unfold f_X8_played_146b
            refine ok_if (fun c14 => ?_) (fun c14 => ?_)
            · exact ok_some ⟨s13, trivial⟩
            · exact ih_X8_played_29b h13 (x3 + 1) s13 (by have := IC_n hSC.1; have := hm; have := gi_of_nle c1; have : (1 : Int32).toInt = 1 := rfl; have := fb_rng (eI h 10 1); have := fb_rng (x3); (try have := fb_addI (x := x3) (y := 1) (by omega) (by omega)); omega) (by have := IC_n hSC.1; have := hm; have := gi_of_nle c1; have : (1 : Int32).toInt = 1 := rfl; have := fb_rng (eI h 10 1); have := fb_rng (x3); (try have := fb_addI (x := x3) (y := 1) (by omega) (by omega)); omega)
          · refine ok_if (fun c15 => ?_) (fun c15 => ?_)
            · refine ok_ob2 (u_X8_pass h r2 (hSC).1) (fun r16 h16 k16 => ?_)
              have s16 : SC h0 h16 := SC_trans (b := h) hSC k16.1
              unfold f_X8_played_146b
              refine ok_if (fun c17 => ?_) (fun c17 => ?_)
              · exact ok_some ⟨s16, trivial⟩
              · exact ih_X8_played_29b h16 (x3 + 1) s16 (by have := IC_n hSC.1; have := hm; have := gi_of_nle c1; have : (1 : Int32).toInt = 1 := rfl; have := fb_rng (eI h 10 1); have := fb_rng (x3); (try have := fb_addI (x := x3) (y := 1) (by omega) (by omega)); omega) (by have := IC_n hSC.1; have := hm; have := gi_of_nle c1; have : (1 : Int32).toInt = 1 := rfl; have := fb_rng (eI h 10 1); have := fb_rng (x3); (try have := fb_addI (x := x3) (y := 1) (by omega) (by omega)); omega)
            · unfold f_X8_played_146b
              refine ok_if (fun c18 => ?_) (fun c18 => ?_)
              · exact ok_some ⟨hSC, trivial⟩
              · exact ih_X8_played_29b h (x3 + 1) hSC (by have := IC_n hSC.1; have := hm; have := gi_of_nle c1; have := gi_of_ne c18; have : ((-1) : Int32).toInt = -1 := rfl; have : (0 : Int32).toInt = 0 := rfl; have : (1 : Int32).toInt = 1 := rfl; have := fb_rng (eI h 10 1); have := fb_rng (x3); (try have := fb_addI (x := x3) (y := 1) (by omega) (by omega)); omega) (by have := IC_n hSC.1; have := hm; have := gi_of_nle c1; have := gi_of_ne c18; have : ((-1) : Int32).toInt = -1 := rfl; have : (0 : Int32).toInt = 0 := rfl; have : (1 : Int32).toInt = 1 := rfl; have := fb_rng (eI h 10 1); have := fb_rng (x3); (try have := fb_addI (x := x3) (y := 1) (by omega) (by omega)); omega)
theorem u_X8_played_29c {h0 : HS} : ∀ (n : Nat) (h : HS) (x3 : Int32), SC h0 h → 0 < n → (2147483647 - (x3).toInt : Int) < (n : Int) → ok (f_X8_played_29c  n h x3) (fun a => SC h0 a.2 ∧ True) := by
  intro n
  induction n with
  | zero =>
    intro h x3 hSC hn hm
    exact absurd hn (by decide)
  | succ n ih_X8_played_29c =>
    intro h x3 hSC hn hm
    rw [f_X8_played_29c_s]
    refine ok_if (fun c1 => ?_) (fun c1 => ?_)
    · exact ok_some ⟨hSC, trivial⟩
    · refine ok_ob2 (u_X6_clauseField_2 h x3 1 (hSC).1) (fun r2 h2 k2 => ?_)
      have e2 : h = h2 := k2.1.symm
      subst e2
      refine ok_ob2 (u_X6_clauseField_2 h x3 2 (hSC).1) (fun r3 h3 k3 => ?_)
      have e3 : h = h3 := k3.1.symm
      subst e3
      refine ok_ob2 (u_X6_clauseField_2 h x3 0 (hSC).1) (fun r4 h4 k4 => ?_)
      have e4 : h = h4 := k4.1.symm
      subst e4
      refine ok_if (fun c5 => ?_) (fun c5 => ?_)
      · refine ok_ob2 (u_X6_clauseField_2 h x3 3 (hSC).1) (fun r6 h6 k6 => ?_)
        have e6 : h = h6 := k6.1.symm
        subst e6
        refine ok_ob2 (u_X8_fill h r2 r3 r6 (hSC).1) (fun r7 h7 k7 => ?_)
        have s7 : SC h0 h7 := SC_trans (b := h) hSC k7.1
        unfold f_X8_played_146c
        refine ok_if (fun c8 => ?_) (fun c8 => ?_)
        · exact ok_some ⟨s7, trivial⟩
        · exact ih_X8_played_29c h7 (x3 + 1) s7 (by have := IC_n hSC.1; have := hm; have := gi_of_nle c1; have : (1 : Int32).toInt = 1 := rfl; have := fb_rng (eI h 11 1); have := fb_rng (x3); (try have := fb_addI (x := x3) (y := 1) (by omega) (by omega)); omega) (by have := IC_n hSC.1; have := hm; have := gi_of_nle c1; have : (1 : Int32).toInt = 1 := rfl; have := fb_rng (eI h 11 1); have := fb_rng (x3); (try have := fb_addI (x := x3) (y := 1) (by omega) (by omega)); omega)
      · refine ok_if (fun c9 => ?_) (fun c9 => ?_)
        · refine ok_ob2 (u_X8_send h r2 r3 (hSC).1) (fun r10 h10 k10 => ?_)
          have s10 : SC h0 h10 := SC_trans (b := h) hSC k10.1
          unfold f_X8_played_146c
          refine ok_if (fun c11 => ?_) (fun c11 => ?_)
          · exact ok_some ⟨s10, trivial⟩
          · exact ih_X8_played_29c h10 (x3 + 1) s10 (by have := IC_n hSC.1; have := hm; have := gi_of_nle c1; have : (1 : Int32).toInt = 1 := rfl; have := fb_rng (eI h 11 1); have := fb_rng (x3); (try have := fb_addI (x := x3) (y := 1) (by omega) (by omega)); omega) (by have := IC_n hSC.1; have := hm; have := gi_of_nle c1; have : (1 : Int32).toInt = 1 := rfl; have := fb_rng (eI h 11 1); have := fb_rng (x3); (try have := fb_addI (x := x3) (y := 1) (by omega) (by omega)); omega)
        · refine ok_if (fun c12 => ?_) (fun c12 => ?_)
          · refine ok_ob2 (u_X8_fatten h r2 (hSC).1) (fun r13 h13 k13 => ?_)
            have s13 : SC h0 h13 := SC_trans (b := h) hSC k13.1
            unfold f_X8_played_146c
            refine ok_if (fun c14 => ?_) (fun c14 => ?_)
            · exact ok_some ⟨s13, trivial⟩
            · exact ih_X8_played_29c h13 (x3 + 1) s13 (by have := IC_n hSC.1; have := hm; have := gi_of_nle c1; have : (1 : Int32).toInt = 1 := rfl; have := fb_rng (eI h 11 1); have := fb_rng (x3); (try have := fb_addI (x := x3) (y := 1) (by omega) (by omega)); omega) (by have := IC_n hSC.1; have := hm; have := gi_of_nle c1; have : (1 : Int32).toInt = 1 := rfl; have := fb_rng (eI h 11 1); have := fb_rng (x3); (try have := fb_addI (x := x3) (y := 1) (by omega) (by omega)); omega)
          · refine ok_if (fun c15 => ?_) (fun c15 => ?_)
            · refine ok_ob2 (u_X8_pass h r2 (hSC).1) (fun r16 h16 k16 => ?_)
              have s16 : SC h0 h16 := SC_trans (b := h) hSC k16.1
              unfold f_X8_played_146c
              refine ok_if (fun c17 => ?_) (fun c17 => ?_)
              · exact ok_some ⟨s16, trivial⟩
              · exact ih_X8_played_29c h16 (x3 + 1) s16 (by have := IC_n hSC.1; have := hm; have := gi_of_nle c1; have : (1 : Int32).toInt = 1 := rfl; have := fb_rng (eI h 11 1); have := fb_rng (x3); (try have := fb_addI (x := x3) (y := 1) (by omega) (by omega)); omega) (by have := IC_n hSC.1; have := hm; have := gi_of_nle c1; have : (1 : Int32).toInt = 1 := rfl; have := fb_rng (eI h 11 1); have := fb_rng (x3); (try have := fb_addI (x := x3) (y := 1) (by omega) (by omega)); omega)
            · unfold f_X8_played_146c
              refine ok_if (fun c18 => ?_) (fun c18 => ?_)
              · exact ok_some ⟨hSC, trivial⟩
              · exact ih_X8_played_29c h (x3 + 1) hSC (by have := IC_n hSC.1; have := hm; have := gi_of_nle c1; have := gi_of_ne c18; have : ((-1) : Int32).toInt = -1 := rfl; have : (0 : Int32).toInt = 0 := rfl; have : (1 : Int32).toInt = 1 := rfl; have := fb_rng (eI h 11 1); have := fb_rng (x3); (try have := fb_addI (x := x3) (y := 1) (by omega) (by omega)); omega) (by have := IC_n hSC.1; have := hm; have := gi_of_nle c1; have := gi_of_ne c18; have : ((-1) : Int32).toInt = -1 := rfl; have : (0 : Int32).toInt = 0 := rfl; have : (1 : Int32).toInt = 1 := rfl; have := fb_rng (eI h 11 1); have := fb_rng (x3); (try have := fb_addI (x := x3) (y := 1) (by omega) (by omega)); omega)
theorem u_X8_played_29d {h0 : HS} : ∀ (n : Nat) (h : HS) (x3 : Int32), SC h0 h → 0 < n → (2147483647 - (x3).toInt : Int) < (n : Int) → ok (f_X8_played_29d  n h x3) (fun a => SC h0 a.2 ∧ True) := by
  intro n
  induction n with
  | zero =>
    intro h x3 hSC hn hm
    exact absurd hn (by decide)
  | succ n ih_X8_played_29d =>
    intro h x3 hSC hn hm
    rw [f_X8_played_29d_s]
    refine ok_if (fun c1 => ?_) (fun c1 => ?_)
    · exact ok_some ⟨hSC, trivial⟩
    · refine ok_ob2 (u_X6_clauseField_3 h x3 1 (hSC).1) (fun r2 h2 k2 => ?_)
      have e2 : h = h2 := k2.1.symm
      subst e2
      refine ok_ob2 (u_X6_clauseField_3 h x3 2 (hSC).1) (fun r3 h3 k3 => ?_)
      have e3 : h = h3 := k3.1.symm
      subst e3
      refine ok_ob2 (u_X6_clauseField_3 h x3 0 (hSC).1) (fun r4 h4 k4 => ?_)
      have e4 : h = h4 := k4.1.symm
      subst e4
      refine ok_if (fun c5 => ?_) (fun c5 => ?_)
      · refine ok_ob2 (u_X6_clauseField_3 h x3 3 (hSC).1) (fun r6 h6 k6 => ?_)
        have e6 : h = h6 := k6.1.symm
        subst e6
        refine ok_ob2 (u_X8_fill h r2 r3 r6 (hSC).1) (fun r7 h7 k7 => ?_)
        have s7 : SC h0 h7 := SC_trans (b := h) hSC k7.1
        unfold f_X8_played_146d
        refine ok_if (fun c8 => ?_) (fun c8 => ?_)
        · exact ok_some ⟨s7, trivial⟩
        · exact ih_X8_played_29d h7 (x3 + 1) s7 (by have := IC_n hSC.1; have := hm; have := gi_of_nle c1; have : (1 : Int32).toInt = 1 := rfl; have := fb_rng (eI h 12 1); have := fb_rng (x3); (try have := fb_addI (x := x3) (y := 1) (by omega) (by omega)); omega) (by have := IC_n hSC.1; have := hm; have := gi_of_nle c1; have : (1 : Int32).toInt = 1 := rfl; have := fb_rng (eI h 12 1); have := fb_rng (x3); (try have := fb_addI (x := x3) (y := 1) (by omega) (by omega)); omega)
      · refine ok_if (fun c9 => ?_) (fun c9 => ?_)
        · refine ok_ob2 (u_X8_send h r2 r3 (hSC).1) (fun r10 h10 k10 => ?_)
          have s10 : SC h0 h10 := SC_trans (b := h) hSC k10.1
          unfold f_X8_played_146d
          refine ok_if (fun c11 => ?_) (fun c11 => ?_)
          · exact ok_some ⟨s10, trivial⟩
          · exact ih_X8_played_29d h10 (x3 + 1) s10 (by have := IC_n hSC.1; have := hm; have := gi_of_nle c1; have : (1 : Int32).toInt = 1 := rfl; have := fb_rng (eI h 12 1); have := fb_rng (x3); (try have := fb_addI (x := x3) (y := 1) (by omega) (by omega)); omega) (by have := IC_n hSC.1; have := hm; have := gi_of_nle c1; have : (1 : Int32).toInt = 1 := rfl; have := fb_rng (eI h 12 1); have := fb_rng (x3); (try have := fb_addI (x := x3) (y := 1) (by omega) (by omega)); omega)
        · refine ok_if (fun c12 => ?_) (fun c12 => ?_)
          · refine ok_ob2 (u_X8_fatten h r2 (hSC).1) (fun r13 h13 k13 => ?_)
            have s13 : SC h0 h13 := SC_trans (b := h) hSC k13.1
            unfold f_X8_played_146d
            refine ok_if (fun c14 => ?_) (fun c14 => ?_)
            · exact ok_some ⟨s13, trivial⟩
            · exact ih_X8_played_29d h13 (x3 + 1) s13 (by have := IC_n hSC.1; have := hm; have := gi_of_nle c1; have : (1 : Int32).toInt = 1 := rfl; have := fb_rng (eI h 12 1); have := fb_rng (x3); (try have := fb_addI (x := x3) (y := 1) (by omega) (by omega)); omega) (by have := IC_n hSC.1; have := hm; have := gi_of_nle c1; have : (1 : Int32).toInt = 1 := rfl; have := fb_rng (eI h 12 1); have := fb_rng (x3); (try have := fb_addI (x := x3) (y := 1) (by omega) (by omega)); omega)
          · refine ok_if (fun c15 => ?_) (fun c15 => ?_)
            · refine ok_ob2 (u_X8_pass h r2 (hSC).1) (fun r16 h16 k16 => ?_)
              have s16 : SC h0 h16 := SC_trans (b := h) hSC k16.1
              unfold f_X8_played_146d
              refine ok_if (fun c17 => ?_) (fun c17 => ?_)
              · exact ok_some ⟨s16, trivial⟩
              · exact ih_X8_played_29d h16 (x3 + 1) s16 (by have := IC_n hSC.1; have := hm; have := gi_of_nle c1; have : (1 : Int32).toInt = 1 := rfl; have := fb_rng (eI h 12 1); have := fb_rng (x3); (try have := fb_addI (x := x3) (y := 1) (by omega) (by omega)); omega) (by have := IC_n hSC.1; have := hm; have := gi_of_nle c1; have : (1 : Int32).toInt = 1 := rfl; have := fb_rng (eI h 12 1); have := fb_rng (x3); (try have := fb_addI (x := x3) (y := 1) (by omega) (by omega)); omega)
            · unfold f_X8_played_146d
              refine ok_if (fun c18 => ?_) (fun c18 => ?_)
              · exact ok_some ⟨hSC, trivial⟩
              · exact ih_X8_played_29d h (x3 + 1) hSC (by have := IC_n hSC.1; have := hm; have := gi_of_nle c1; have := gi_of_ne c18; have : ((-1) : Int32).toInt = -1 := rfl; have : (0 : Int32).toInt = 0 := rfl; have : (1 : Int32).toInt = 1 := rfl; have := fb_rng (eI h 12 1); have := fb_rng (x3); (try have := fb_addI (x := x3) (y := 1) (by omega) (by omega)); omega) (by have := IC_n hSC.1; have := hm; have := gi_of_nle c1; have := gi_of_ne c18; have : ((-1) : Int32).toInt = -1 := rfl; have : (0 : Int32).toInt = 0 := rfl; have : (1 : Int32).toInt = 1 := rfl; have := fb_rng (eI h 12 1); have := fb_rng (x3); (try have := fb_addI (x := x3) (y := 1) (by omega) (by omega)); omega)
theorem u_X8_played (h : HS) (p1 : Int32) (hI : IC h) : ok (f_X8_played h p1) (fun a => SC h a.2 ∧ True) := by
  unfold f_X8_played
  refine ok_if (fun c1 => ?_) (fun c1 => ?_)
  · refine ok_if (fun c2 => ?_) (fun c2 => ?_)
    · unfold f_X8_played_24
      exact ok_some ⟨(SC_refl hI), trivial⟩
    · exact u_X8_played_29 (h0 := h) 8589934592 h 0 (SC_refl hI) (by decide) (by have : (0 : Int32).toInt = 0 := rfl; omega)
  · refine ok_if (fun c3 => ?_) (fun c3 => ?_)
    · refine ok_if (fun c4 => ?_) (fun c4 => ?_)
      · unfold f_X8_played_24
        exact ok_some ⟨(SC_refl hI), trivial⟩
      · exact u_X8_played_29b (h0 := h) 8589934592 h 0 (SC_refl hI) (by decide) (by have : (0 : Int32).toInt = 0 := rfl; omega)
    · refine ok_if (fun c5 => ?_) (fun c5 => ?_)
      · refine ok_if (fun c6 => ?_) (fun c6 => ?_)
        · unfold f_X8_played_24
          exact ok_some ⟨(SC_refl hI), trivial⟩
        · exact u_X8_played_29c (h0 := h) 8589934592 h 0 (SC_refl hI) (by decide) (by have : (0 : Int32).toInt = 0 := rfl; omega)
      · refine ok_if (fun c7 => ?_) (fun c7 => ?_)
        · refine ok_if (fun c8 => ?_) (fun c8 => ?_)
          · unfold f_X8_played_24
            exact ok_some ⟨(SC_refl hI), trivial⟩
          · exact u_X8_played_29d (h0 := h) 8589934592 h 0 (SC_refl hI) (by decide) (by have : (0 : Int32).toInt = 0 := rfl; omega)
        · refine ok_if (fun c9 => ?_) (fun c9 => ?_)
          · unfold f_X8_played_24
            exact ok_some ⟨(SC_refl hI), trivial⟩
          · unfold f_X8_played_24
            exact ok_some ⟨(SC_refl hI), trivial⟩
theorem u_X8_undo (h : HS) (hI : IC h) : ok (f_X8_undo h) (fun a => SC h a.2 ∧ True) := by
  unfold f_X8_undo
  refine ok_ob2 (u_X4_takeStepBack h ((SC_refl hI)).1) (fun r1 h1 k1 => ?_)
  have s1 : SC h h1 := SC_trans (b := h) (SC_refl hI) k1.1
  refine ok_if (fun c2 => ?_) (fun c2 => ?_)
  · unfold f_X8_undo_21
    exact ok_some ⟨s1, trivial⟩
  · unfold f_X8_undo_21
    exact ok_some ⟨s1, trivial⟩
theorem u_X8_of (h : HS) (p1 : Int32) (p2 : Int32) (hI : IC h) : ok (f_X8_of h p1 p2) (fun a => SC h a.2 ∧ True) := by
  unfold f_X8_of
  refine ok_ob2 (u_X4_hasGoose h p1 ((SC_refl hI)).1) (fun r1 h1 k1 => ?_)
  have e1 : h = h1 := k1.1.symm
  subst e1
  refine ok_if (fun c2 => ?_) (fun c2 => ?_)
  · unfold f_X8_of_21
    exact ok_some ⟨(SC_refl hI), trivial⟩
  · refine ok_if (fun c3 => ?_) (fun c3 => ?_)
    · unfold f_X8_of_21
      exact ok_some ⟨(SC_refl hI), trivial⟩
    · refine ok_if (fun c4 => ?_) (fun c4 => ?_)
      · refine ok_if (fun c5 => ?_) (fun c5 => ?_)
        · refine ok_ob2 (u_X1_isTrue h p1 ((SC_refl hI)).1) (fun r6 h6 k6 => ?_)
          have s6 : SC h h6 := SC_trans (b := h) (SC_refl hI) k6.1
          refine ok_if (fun c7 => ?_) (fun c7 => ?_)
          · unfold f_X8_of_50
            exact ok_some ⟨s6, trivial⟩
          · unfold f_X8_of_50
            exact ok_some ⟨s6, trivial⟩
        · refine ok_ob2 (u_X4_ofGoose h p1 p2 ((SC_refl hI)).1) (fun r8 h8 k8 => ?_)
          have e8 : h = h8 := k8.1.symm
          subst e8
          exact ok_some ⟨(SC_refl hI), trivial⟩
      · unfold f_X8_of_21
        exact ok_some ⟨(SC_refl hI), trivial⟩
theorem u_X8_ink (h : HS) (p1 : Int32) (p2 : Int32) (p3 : Int32) (hI : IC h) : ok (f_X8_ink h p1 p2 p3) (fun a => SC h a.2 ∧ True) := by
  unfold f_X8_ink
  refine ok_ob2 (u_X4_hasGoose h p1 ((SC_refl hI)).1) (fun r1 h1 k1 => ?_)
  have e1 : h = h1 := k1.1.symm
  subst e1
  refine ok_if (fun c2 => ?_) (fun c2 => ?_)
  · unfold f_X8_ink_19
    exact ok_some ⟨(SC_refl hI), trivial⟩
  · refine ok_ob1 (u_X8_isQuill p2 p3) (fun r3 k3 => ?_)
    refine ok_if (fun c4 => ?_) (fun c4 => ?_)
    · unfold f_X8_ink_19
      exact ok_some ⟨(SC_refl hI), trivial⟩
    · refine ok_ob2 (u_X1_inkCost h p1 p2 p3 ((SC_refl hI)).1) (fun r5 h5 k5 => ?_)
      have s5 : SC h h5 := SC_trans (b := h) (SC_refl hI) k5.1
      exact ok_some ⟨s5, trivial⟩
theorem u_X8_tells (h : HS) (p1 : Int32) (p2 : Int32) (p3 : Int32) (hI : IC h) : ok (f_X8_tells h p1 p2 p3) (fun a => SC h a.2 ∧ (a.1 = 0 ∨ a.1 = 1)) := by
  unfold f_X8_tells
  refine ok_ob2 (u_X4_ofGoose h p1 2 ((SC_refl hI)).1) (fun r1 h1 k1 => ?_)
  have e1 : h = h1 := k1.1.symm
  subst e1
  refine ok_if (fun c2 => ?_) (fun c2 => ?_)
  · refine ok_if (fun c3 => ?_) (fun c3 => ?_)
    · refine ok_ob2 (u_X4_ofGoose h p1 4 ((SC_refl hI)).1) (fun r4 h4 k4 => ?_)
      have e4 : h = h4 := k4.1.symm
      subst e4
      refine ok_if (fun c5 => ?_) (fun c5 => ?_)
      · refine ok_ob2 (u_X1_isTrue h p1 ((SC_refl hI)).1) (fun r6 h6 k6 => ?_)
        have s6 : SC h h6 := SC_trans (b := h) (SC_refl hI) k6.1
        refine ok_if (fun c7 => ?_) (fun c7 => ?_)
        · unfold f_X8_tells_70
          unfold f_X8_tells_71
          refine ok_chk (Or.inl rfl) ?_
          exact ok_some ⟨s6, (Or.inl rfl)⟩
        · unfold f_X8_tells_71
          refine ok_chk (Or.inr rfl) ?_
          exact ok_some ⟨s6, (Or.inr rfl)⟩
      · unfold f_X8_tells_70
        unfold f_X8_tells_71
        refine ok_chk (Or.inl rfl) ?_
        exact ok_some ⟨(SC_refl hI), (Or.inl rfl)⟩
    · refine ok_ob2 (u_X4_ofGoose h p1 4 ((SC_refl hI)).1) (fun r11 h11 k11 => ?_)
      have e11 : h = h11 := k11.1.symm
      subst e11
      refine ok_if (fun c12 => ?_) (fun c12 => ?_)
      · unfold f_X8_tells_37
        refine ok_chk (Or.inr rfl) ?_
        exact ok_some ⟨(SC_refl hI), (Or.inr rfl)⟩
      · unfold f_X8_tells_37
        refine ok_chk (Or.inl rfl) ?_
        exact ok_some ⟨(SC_refl hI), (Or.inl rfl)⟩
  · exact ok_some ⟨(SC_refl hI), (Or.inl rfl)⟩
theorem u_X8_halvesHad_6 {h0 : HS} (x1 : Int32) (x2 : Int32) (x3 : Int32) (x4 : Int32) : ∀ (n : Nat) (h : HS) (x5 : Int32) (x6 : Int32), SC h0 h → 0 < n → (10 - (x6).toInt : Int) < (n : Int) → ok (f_X8_halvesHad_6  n h x1 x2 x3 x4 x5 x6) (fun a => SC h0 a.2 ∧ True) := by
  intro n
  induction n with
  | zero =>
    intro h x5 x6 hSC hn hm
    exact absurd hn (by decide)
  | succ n ih_X8_halvesHad_6 =>
    intro h x5 x6 hSC hn hm
    rw [f_X8_halvesHad_6_s]
    refine ok_if (fun c1 => ?_) (fun c1 => ?_)
    · exact ok_some ⟨hSC, trivial⟩
    · refine ok_ob2 (u_X4_ofGoose h x6 7 (hSC).1) (fun r2 h2 k2 => ?_)
      have e2 : h = h2 := k2.1.symm
      subst e2
      refine ok_if (fun c3 => ?_) (fun c3 => ?_)
      · unfold f_X8_halvesHad_50
        refine ok_ob2 (u_X8_tells h x6 x1 x2 (hSC).1) (fun r4 h4 k4 => ?_)
        have s4 : SC h0 h4 := SC_trans (b := h) hSC k4.1
        refine ok_if (fun c5 => ?_) (fun c5 => ?_)
        · unfold f_X8_halvesHad_79
          exact ih_X8_halvesHad_6 h4 x5 (x6 + 1) s4 (by have := IC_n hSC.1; have := hm; have := gi_of_nle c1; have : (1 : Int32).toInt = 1 := rfl; have := fb_rng (eI h 1 3); have := fb_rng (x6); (try have := fb_addI (x := x6) (y := 1) (by omega) (by omega)); omega) (by have := IC_n hSC.1; have := hm; have := gi_of_nle c1; have : (1 : Int32).toInt = 1 := rfl; have := fb_rng (eI h 1 3); have := fb_rng (x6); (try have := fb_addI (x := x6) (y := 1) (by omega) (by omega)); omega)
        · refine ok_ob2 (u_X4_ofGoose h4 x6 3 (s4).1) (fun r6 h6 k6 => ?_)
          have e6 : h4 = h6 := k6.1.symm
          subst e6
          refine ok_ob1 (u_X8_halvesOf r6) (fun r7 k7 => ?_)
          unfold f_X8_halvesHad_79
          exact ih_X8_halvesHad_6 h4 (x5 ||| r7) (x6 + 1) s4 (by have := IC_n hSC.1; have := hm; have : (0 ≤ (r7).toInt ∧ (r7).toInt ≤ 3) := k7; have := gi_of_nle c1; have : (1 : Int32).toInt = 1 := rfl; have := fb_rng (eI h 1 3); have := fb_rng (x6); (try have := fb_addI (x := x6) (y := 1) (by omega) (by omega)); omega) (by have := IC_n hSC.1; have := hm; have : (0 ≤ (r7).toInt ∧ (r7).toInt ≤ 3) := k7; have := gi_of_nle c1; have : (1 : Int32).toInt = 1 := rfl; have := fb_rng (eI h 1 3); have := fb_rng (x6); (try have := fb_addI (x := x6) (y := 1) (by omega) (by omega)); omega)
      · refine ok_if (fun c8 => ?_) (fun c8 => ?_)
        · refine ok_if (fun c9 => ?_) (fun c9 => ?_)
          · unfold f_X8_halvesHad_79
            exact ih_X8_halvesHad_6 h x5 (x6 + 1) hSC (by have := IC_n hSC.1; have := hm; have := gi_of_nle c1; have := gi_of_le c9; have : (1 : Int32).toInt = 1 := rfl; have := fb_rng (eI h 1 3); have := fb_rng (x6); have := fb_rng (x4); (try have := fb_addI (x := x6) (y := 1) (by omega) (by omega)); omega) (by have := IC_n hSC.1; have := hm; have := gi_of_nle c1; have := gi_of_le c9; have : (1 : Int32).toInt = 1 := rfl; have := fb_rng (eI h 1 3); have := fb_rng (x6); have := fb_rng (x4); (try have := fb_addI (x := x6) (y := 1) (by omega) (by omega)); omega)
          · unfold f_X8_halvesHad_50
            refine ok_ob2 (u_X8_tells h x6 x1 x2 (hSC).1) (fun r10 h10 k10 => ?_)
            have s10 : SC h0 h10 := SC_trans (b := h) hSC k10.1
            refine ok_if (fun c11 => ?_) (fun c11 => ?_)
            · unfold f_X8_halvesHad_79
              exact ih_X8_halvesHad_6 h10 x5 (x6 + 1) s10 (by have := IC_n hSC.1; have := hm; have := gi_of_nle c1; have := gi_of_nle c9; have : (1 : Int32).toInt = 1 := rfl; have := fb_rng (eI h 1 3); have := fb_rng (x6); have := fb_rng (x4); (try have := fb_addI (x := x6) (y := 1) (by omega) (by omega)); omega) (by have := IC_n hSC.1; have := hm; have := gi_of_nle c1; have := gi_of_nle c9; have : (1 : Int32).toInt = 1 := rfl; have := fb_rng (eI h 1 3); have := fb_rng (x6); have := fb_rng (x4); (try have := fb_addI (x := x6) (y := 1) (by omega) (by omega)); omega)
            · refine ok_ob2 (u_X4_ofGoose h10 x6 3 (s10).1) (fun r12 h12 k12 => ?_)
              have e12 : h10 = h12 := k12.1.symm
              subst e12
              refine ok_ob1 (u_X8_halvesOf r12) (fun r13 k13 => ?_)
              unfold f_X8_halvesHad_79
              exact ih_X8_halvesHad_6 h10 (x5 ||| r13) (x6 + 1) s10 (by have := IC_n hSC.1; have := hm; have : (0 ≤ (r13).toInt ∧ (r13).toInt ≤ 3) := k13; have := gi_of_nle c1; have := gi_of_nle c9; have : (1 : Int32).toInt = 1 := rfl; have := fb_rng (eI h 1 3); have := fb_rng (x6); have := fb_rng (x4); (try have := fb_addI (x := x6) (y := 1) (by omega) (by omega)); omega) (by have := IC_n hSC.1; have := hm; have : (0 ≤ (r13).toInt ∧ (r13).toInt ≤ 3) := k13; have := gi_of_nle c1; have := gi_of_nle c9; have : (1 : Int32).toInt = 1 := rfl; have := fb_rng (eI h 1 3); have := fb_rng (x6); have := fb_rng (x4); (try have := fb_addI (x := x6) (y := 1) (by omega) (by omega)); omega)
        · unfold f_X8_halvesHad_79
          exact ih_X8_halvesHad_6 h x5 (x6 + 1) hSC (by have := IC_n hSC.1; have := hm; have := gi_of_nle c1; have : (1 : Int32).toInt = 1 := rfl; have := fb_rng (eI h 1 3); have := fb_rng (x6); (try have := fb_addI (x := x6) (y := 1) (by omega) (by omega)); omega) (by have := IC_n hSC.1; have := hm; have := gi_of_nle c1; have : (1 : Int32).toInt = 1 := rfl; have := fb_rng (eI h 1 3); have := fb_rng (x6); (try have := fb_addI (x := x6) (y := 1) (by omega) (by omega)); omega)
theorem u_X8_halvesHad (h : HS) (p1 : Int32) (p2 : Int32) (p3 : Int32) (p4 : Int32) (hI : IC h) : ok (f_X8_halvesHad h p1 p2 p3 p4) (fun a => SC h a.2 ∧ True) := by
  unfold f_X8_halvesHad
  exact u_X8_halvesHad_6 (h0 := h) p1 p2 p3 p4 8589934592 h 0 0 (SC_refl hI) (by decide) (by have : (0 : Int32).toInt = 0 := rfl; omega)
theorem u_X8_known (h : HS) (p1 : Int32) (p2 : Int32) (hI : IC h) : ok (f_X8_known h p1 p2) (fun a => SC h a.2 ∧ True) := by
  unfold f_X8_known
  refine ok_ob1 (u_X8_isLetter p1) (fun r1 k1 => ?_)
  refine ok_if (fun c2 => ?_) (fun c2 => ?_)
  · unfold f_X8_known_18
    exact ok_some ⟨(SC_refl hI), trivial⟩
  · refine ok_if (fun c3 => ?_) (fun c3 => ?_)
    · unfold f_X8_known_18
      exact ok_some ⟨(SC_refl hI), trivial⟩
    · refine ok_if (fun c4 => ?_) (fun c4 => ?_)
      · refine ok_ob2 (u_X8_halvesHad h p1 0 p2 10 ((SC_refl hI)).1) (fun r5 h5 k5 => ?_)
        have s5 : SC h h5 := SC_trans (b := h) (SC_refl hI) k5.1
        refine ok_if (fun c6 => ?_) (fun c6 => ?_)
        · unfold f_X8_known_38
          refine ok_ob2 (u_X8_halvesHad h5 p1 1 p2 10 (s5).1) (fun r7 h7 k7 => ?_)
          have s7 : SC h h7 := SC_trans (b := h5) s5 k7.1
          refine ok_if (fun c8 => ?_) (fun c8 => ?_)
          · unfold f_X8_known_57
            exact ok_some ⟨s7, trivial⟩
          · unfold f_X8_known_57
            exact ok_some ⟨s7, trivial⟩
        · unfold f_X8_known_38
          refine ok_ob2 (u_X8_halvesHad h5 p1 1 p2 10 (s5).1) (fun r9 h9 k9 => ?_)
          have s9 : SC h h9 := SC_trans (b := h5) s5 k9.1
          refine ok_if (fun c10 => ?_) (fun c10 => ?_)
          · unfold f_X8_known_57
            exact ok_some ⟨s9, trivial⟩
          · unfold f_X8_known_57
            exact ok_some ⟨s9, trivial⟩
      · unfold f_X8_known_18
        exact ok_some ⟨(SC_refl hI), trivial⟩
theorem u_X8_led_14 {h0 : HS} (x1 : Int32) (x2 : Int32) : ∀ (n : Nat) (h : HS) (x3 : Int32) (x4 : Int32), SC h0 h → 0 < n → (10 - (x4).toInt : Int) < (n : Int) → ok (f_X8_led_14  n h x1 x2 x3 x4) (fun a => SC h0 a.2 ∧ True) := by
  intro n
  induction n with
  | zero =>
    intro h x3 x4 hSC hn hm
    exact absurd hn (by decide)
  | succ n ih_X8_led_14 =>
    intro h x3 x4 hSC hn hm
    rw [f_X8_led_14_s]
    refine ok_if (fun c1 => ?_) (fun c1 => ?_)
    · exact ok_some ⟨hSC, trivial⟩
    · refine ok_ob2 (u_X4_ofGoose h x4 7 (hSC).1) (fun r2 h2 k2 => ?_)
      have e2 : h = h2 := k2.1.symm
      subst e2
      refine ok_if (fun c3 => ?_) (fun c3 => ?_)
      · unfold f_X8_led_59
        unfold f_X8_led_64
        refine ok_if (fun c4 => ?_) (fun c4 => ?_)
        · unfold f_X8_led_101
          exact ih_X8_led_14 h x3 (x4 + 1) hSC (by have := IC_n hSC.1; have := hm; have := gi_of_nle c1; have := gi_of_eq c4; have : (0 : Int32).toInt = 0 := rfl; have : (1 : Int32).toInt = 1 := rfl; have := fb_rng (eI h 1 3); have := fb_rng (x4); (try have := fb_addI (x := x4) (y := 1) (by omega) (by omega)); omega) (by have := IC_n hSC.1; have := hm; have := gi_of_nle c1; have := gi_of_eq c4; have : (0 : Int32).toInt = 0 := rfl; have : (1 : Int32).toInt = 1 := rfl; have := fb_rng (eI h 1 3); have := fb_rng (x4); (try have := fb_addI (x := x4) (y := 1) (by omega) (by omega)); omega)
        · refine ok_ob2 (u_X8_tells h x4 x1 x2 (hSC).1) (fun r5 h5 k5 => ?_)
          have s5 : SC h0 h5 := SC_trans (b := h) hSC k5.1
          refine ok_if (fun c6 => ?_) (fun c6 => ?_)
          · unfold f_X8_led_101
            exact ih_X8_led_14 h5 x3 (x4 + 1) s5 (by have := IC_n hSC.1; have := hm; have := gi_of_nle c1; have := gi_of_ne c4; have : (0 : Int32).toInt = 0 := rfl; have : (1 : Int32).toInt = 1 := rfl; have := fb_rng (eI h 1 3); have := fb_rng (x4); (try have := fb_addI (x := x4) (y := 1) (by omega) (by omega)); omega) (by have := IC_n hSC.1; have := hm; have := gi_of_nle c1; have := gi_of_ne c4; have : (0 : Int32).toInt = 0 := rfl; have : (1 : Int32).toInt = 1 := rfl; have := fb_rng (eI h 1 3); have := fb_rng (x4); (try have := fb_addI (x := x4) (y := 1) (by omega) (by omega)); omega)
          · refine ok_ob2 (u_X8_halvesHad h5 x1 x2 r2 (x4 + 1) (s5).1) (fun r7 h7 k7 => ?_)
            have s7 : SC h0 h7 := SC_trans (b := h5) s5 k7.1
            refine ok_if (fun c8 => ?_) (fun c8 => ?_)
            · unfold f_X8_led_101
              exact ih_X8_led_14 h7 x4 (x4 + 1) s7 (by have := IC_n hSC.1; have := hm; have := gi_of_nle c1; have := gi_of_ne c4; have : (0 : Int32).toInt = 0 := rfl; have : (1 : Int32).toInt = 1 := rfl; have := fb_rng (eI h 1 3); have := fb_rng (x4); (try have := fb_addI (x := x4) (y := 1) (by omega) (by omega)); omega) (by have := IC_n hSC.1; have := hm; have := gi_of_nle c1; have := gi_of_ne c4; have : (0 : Int32).toInt = 0 := rfl; have : (1 : Int32).toInt = 1 := rfl; have := fb_rng (eI h 1 3); have := fb_rng (x4); (try have := fb_addI (x := x4) (y := 1) (by omega) (by omega)); omega)
            · unfold f_X8_led_101
              exact ih_X8_led_14 h7 x3 (x4 + 1) s7 (by have := IC_n hSC.1; have := hm; have := gi_of_nle c1; have := gi_of_ne c4; have : (0 : Int32).toInt = 0 := rfl; have : (1 : Int32).toInt = 1 := rfl; have := fb_rng (eI h 1 3); have := fb_rng (x4); (try have := fb_addI (x := x4) (y := 1) (by omega) (by omega)); omega) (by have := IC_n hSC.1; have := hm; have := gi_of_nle c1; have := gi_of_ne c4; have : (0 : Int32).toInt = 0 := rfl; have : (1 : Int32).toInt = 1 := rfl; have := fb_rng (eI h 1 3); have := fb_rng (x4); (try have := fb_addI (x := x4) (y := 1) (by omega) (by omega)); omega)
      · refine ok_ob2 (u_X4_ofGoose h x3 7 (hSC).1) (fun r9 h9 k9 => ?_)
        have e9 : h = h9 := k9.1.symm
        subst e9
        refine ok_if (fun c10 => ?_) (fun c10 => ?_)
        · unfold f_X8_led_64
          refine ok_if (fun c11 => ?_) (fun c11 => ?_)
          · unfold f_X8_led_101
            exact ih_X8_led_14 h x3 (x4 + 1) hSC (by have := IC_n hSC.1; have := hm; have := gi_of_nle c1; have := gi_of_eq c11; have : (0 : Int32).toInt = 0 := rfl; have : (1 : Int32).toInt = 1 := rfl; have := fb_rng (eI h 1 3); have := fb_rng (x4); (try have := fb_addI (x := x4) (y := 1) (by omega) (by omega)); omega) (by have := IC_n hSC.1; have := hm; have := gi_of_nle c1; have := gi_of_eq c11; have : (0 : Int32).toInt = 0 := rfl; have : (1 : Int32).toInt = 1 := rfl; have := fb_rng (eI h 1 3); have := fb_rng (x4); (try have := fb_addI (x := x4) (y := 1) (by omega) (by omega)); omega)
          · refine ok_ob2 (u_X8_tells h x4 x1 x2 (hSC).1) (fun r12 h12 k12 => ?_)
            have s12 : SC h0 h12 := SC_trans (b := h) hSC k12.1
            refine ok_if (fun c13 => ?_) (fun c13 => ?_)
            · unfold f_X8_led_101
              exact ih_X8_led_14 h12 x3 (x4 + 1) s12 (by have := IC_n hSC.1; have := hm; have := gi_of_nle c1; have := gi_of_ne c11; have : (0 : Int32).toInt = 0 := rfl; have : (1 : Int32).toInt = 1 := rfl; have := fb_rng (eI h 1 3); have := fb_rng (x4); (try have := fb_addI (x := x4) (y := 1) (by omega) (by omega)); omega) (by have := IC_n hSC.1; have := hm; have := gi_of_nle c1; have := gi_of_ne c11; have : (0 : Int32).toInt = 0 := rfl; have : (1 : Int32).toInt = 1 := rfl; have := fb_rng (eI h 1 3); have := fb_rng (x4); (try have := fb_addI (x := x4) (y := 1) (by omega) (by omega)); omega)
            · refine ok_ob2 (u_X8_halvesHad h12 x1 x2 r2 (x4 + 1) (s12).1) (fun r14 h14 k14 => ?_)
              have s14 : SC h0 h14 := SC_trans (b := h12) s12 k14.1
              refine ok_if (fun c15 => ?_) (fun c15 => ?_)
              · unfold f_X8_led_101
                exact ih_X8_led_14 h14 x4 (x4 + 1) s14 (by have := IC_n hSC.1; have := hm; have := gi_of_nle c1; have := gi_of_ne c11; have : (0 : Int32).toInt = 0 := rfl; have : (1 : Int32).toInt = 1 := rfl; have := fb_rng (eI h 1 3); have := fb_rng (x4); (try have := fb_addI (x := x4) (y := 1) (by omega) (by omega)); omega) (by have := IC_n hSC.1; have := hm; have := gi_of_nle c1; have := gi_of_ne c11; have : (0 : Int32).toInt = 0 := rfl; have : (1 : Int32).toInt = 1 := rfl; have := fb_rng (eI h 1 3); have := fb_rng (x4); (try have := fb_addI (x := x4) (y := 1) (by omega) (by omega)); omega)
              · unfold f_X8_led_101
                exact ih_X8_led_14 h14 x3 (x4 + 1) s14 (by have := IC_n hSC.1; have := hm; have := gi_of_nle c1; have := gi_of_ne c11; have : (0 : Int32).toInt = 0 := rfl; have : (1 : Int32).toInt = 1 := rfl; have := fb_rng (eI h 1 3); have := fb_rng (x4); (try have := fb_addI (x := x4) (y := 1) (by omega) (by omega)); omega) (by have := IC_n hSC.1; have := hm; have := gi_of_nle c1; have := gi_of_ne c11; have : (0 : Int32).toInt = 0 := rfl; have : (1 : Int32).toInt = 1 := rfl; have := fb_rng (eI h 1 3); have := fb_rng (x4); (try have := fb_addI (x := x4) (y := 1) (by omega) (by omega)); omega)
        · unfold f_X8_led_59
          unfold f_X8_led_64
          refine ok_if (fun c16 => ?_) (fun c16 => ?_)
          · unfold f_X8_led_101
            exact ih_X8_led_14 h x3 (x4 + 1) hSC (by have := IC_n hSC.1; have := hm; have := gi_of_nle c1; have := gi_of_eq c16; have : (0 : Int32).toInt = 0 := rfl; have : (1 : Int32).toInt = 1 := rfl; have := fb_rng (eI h 1 3); have := fb_rng (x4); (try have := fb_addI (x := x4) (y := 1) (by omega) (by omega)); omega) (by have := IC_n hSC.1; have := hm; have := gi_of_nle c1; have := gi_of_eq c16; have : (0 : Int32).toInt = 0 := rfl; have : (1 : Int32).toInt = 1 := rfl; have := fb_rng (eI h 1 3); have := fb_rng (x4); (try have := fb_addI (x := x4) (y := 1) (by omega) (by omega)); omega)
          · refine ok_ob2 (u_X8_tells h x4 x1 x2 (hSC).1) (fun r17 h17 k17 => ?_)
            have s17 : SC h0 h17 := SC_trans (b := h) hSC k17.1
            refine ok_if (fun c18 => ?_) (fun c18 => ?_)
            · unfold f_X8_led_101
              exact ih_X8_led_14 h17 x3 (x4 + 1) s17 (by have := IC_n hSC.1; have := hm; have := gi_of_nle c1; have := gi_of_ne c16; have : (0 : Int32).toInt = 0 := rfl; have : (1 : Int32).toInt = 1 := rfl; have := fb_rng (eI h 1 3); have := fb_rng (x4); (try have := fb_addI (x := x4) (y := 1) (by omega) (by omega)); omega) (by have := IC_n hSC.1; have := hm; have := gi_of_nle c1; have := gi_of_ne c16; have : (0 : Int32).toInt = 0 := rfl; have : (1 : Int32).toInt = 1 := rfl; have := fb_rng (eI h 1 3); have := fb_rng (x4); (try have := fb_addI (x := x4) (y := 1) (by omega) (by omega)); omega)
            · refine ok_ob2 (u_X8_halvesHad h17 x1 x2 r2 (x4 + 1) (s17).1) (fun r19 h19 k19 => ?_)
              have s19 : SC h0 h19 := SC_trans (b := h17) s17 k19.1
              refine ok_if (fun c20 => ?_) (fun c20 => ?_)
              · unfold f_X8_led_101
                exact ih_X8_led_14 h19 x4 (x4 + 1) s19 (by have := IC_n hSC.1; have := hm; have := gi_of_nle c1; have := gi_of_ne c16; have : (0 : Int32).toInt = 0 := rfl; have : (1 : Int32).toInt = 1 := rfl; have := fb_rng (eI h 1 3); have := fb_rng (x4); (try have := fb_addI (x := x4) (y := 1) (by omega) (by omega)); omega) (by have := IC_n hSC.1; have := hm; have := gi_of_nle c1; have := gi_of_ne c16; have : (0 : Int32).toInt = 0 := rfl; have : (1 : Int32).toInt = 1 := rfl; have := fb_rng (eI h 1 3); have := fb_rng (x4); (try have := fb_addI (x := x4) (y := 1) (by omega) (by omega)); omega)
              · unfold f_X8_led_101
                exact ih_X8_led_14 h19 x3 (x4 + 1) s19 (by have := IC_n hSC.1; have := hm; have := gi_of_nle c1; have := gi_of_ne c16; have : (0 : Int32).toInt = 0 := rfl; have : (1 : Int32).toInt = 1 := rfl; have := fb_rng (eI h 1 3); have := fb_rng (x4); (try have := fb_addI (x := x4) (y := 1) (by omega) (by omega)); omega) (by have := IC_n hSC.1; have := hm; have := gi_of_nle c1; have := gi_of_ne c16; have : (0 : Int32).toInt = 0 := rfl; have : (1 : Int32).toInt = 1 := rfl; have := fb_rng (eI h 1 3); have := fb_rng (x4); (try have := fb_addI (x := x4) (y := 1) (by omega) (by omega)); omega)
theorem u_X8_led (h : HS) (p1 : Int32) (p2 : Int32) (hI : IC h) : ok (f_X8_led h p1 p2) (fun a => SC h a.2 ∧ True) := by
  unfold f_X8_led
  refine ok_ob1 (u_X8_isLetter p1) (fun r1 k1 => ?_)
  refine ok_if (fun c2 => ?_) (fun c2 => ?_)
  · exact ok_some ⟨(SC_refl hI), trivial⟩
  · exact u_X8_led_14 (h0 := h) p1 p2 8589934592 h (-1) 0 (SC_refl hI) (by decide) (by have : (0 : Int32).toInt = 0 := rfl; omega)
theorem u_X8_answer (h : HS) (p1 : Int32) (hI : IC h) : ok (f_X8_answer h p1) (fun a => SC h a.2 ∧ True) := by
  unfold f_X8_answer
  refine ok_ob2 (u_X8_led h p1 0 ((SC_refl hI)).1) (fun r1 h1 k1 => ?_)
  have s1 : SC h h1 := SC_trans (b := h) (SC_refl hI) k1.1
  refine ok_if (fun c2 => ?_) (fun c2 => ?_)
  · exact ok_some ⟨s1, trivial⟩
  · refine ok_ob2 (u_X4_ofGoose h1 r1 7 (s1).1) (fun r3 h3 k3 => ?_)
    have e3 : h1 = h3 := k3.1.symm
    subst e3
    refine ok_ob2 (u_X4_ofGoose h1 r1 5 (s1).1) (fun r4 h4 k4 => ?_)
    have e4 : h1 = h4 := k4.1.symm
    subst e4
    refine ok_ob2 (u_X4_ofMarket h1 r4 0 (s1).1) (fun r5 h5 k5 => ?_)
    have e5 : h1 = h5 := k5.1.symm
    subst e5
    exact ok_some ⟨s1, trivial⟩
theorem u_X8_plucks_12 {h0 : HS} (x1 : Int32) (x2 : Int32) : ∀ (n : Nat) (h : HS) (x3 : Int32), SC h0 h → x2.toInt ≤ 99 → 0 < n → (x2.toInt + 1 - x3.toInt : Int) < (n : Int) → ok (f_X8_plucks_12  n h x1 x2 x3) (fun a => SC h0 a.2 ∧ True) := by
  intro n
  induction n with
  | zero =>
    intro h x3 hSC i0 hn hm
    exact absurd hn (by decide)
  | succ n ih_X8_plucks_12 =>
    intro h x3 hSC i0 hn hm
    rw [f_X8_plucks_12_s]
    refine ok_if (fun c1 => ?_) (fun c1 => ?_)
    · exact ok_some ⟨hSC, trivial⟩
    · refine ok_ob2 (u_X1_isTrueWith h x1 (x2 - x3) (hSC).1) (fun r2 h2 k2 => ?_)
      have s2 : SC h0 h2 := SC_trans (b := h) hSC k2.1
      refine ok_if (fun c3 => ?_) (fun c3 => ?_)
      · exact ih_X8_plucks_12 h2 (x3 + 1) s2 (by have := i0; have := hm; have := gi_of_nlt c1; have := fb_rng (x2); have := fb_rng (x3); omega) (by have := i0; have := hm; have := gi_of_nlt c1; have : (1 : Int32).toInt = 1 := rfl; have := fb_rng (x2); have := fb_rng (x3); (try have := fb_addI (x := x3) (y := 1) (by omega) (by omega)); omega) (by have := i0; have := hm; have := gi_of_nlt c1; have : (1 : Int32).toInt = 1 := rfl; have := fb_rng (x2); have := fb_rng (x3); (try have := fb_addI (x := x3) (y := 1) (by omega) (by omega)); omega)
      · exact ok_some ⟨s2, trivial⟩
theorem u_X8_plucks (h : HS) (p1 : Int32) (hI : IC h) : ok (f_X8_plucks h p1) (fun a => SC h a.2 ∧ True) := by
  unfold f_X8_plucks
  refine ok_ob2 (u_X4_ofGoose h p1 1 ((SC_refl hI)).1) (fun r1 h1 k1 => ?_)
  have e1 : h = h1 := k1.1.symm
  subst e1
  exact u_X8_plucks_12 (h0 := h) p1 r1 8589934592 h 0 (SC_refl hI) (by have : r1.toInt ≤ 99 := k1.2 rfl; have := fb_rng (r1); omega) (by decide) (by have : r1.toInt ≤ 99 := k1.2 rfl; have : (0 : Int32).toInt = 0 := rfl; have := fb_rng (r1); omega)
theorem u_X8_odds_52 {h0 : HS} (x1 : Int32) (x2 : Int32) (x3 : Int32) : ∀ (n : Nat) (h : HS) (x4 : Int32), SC h0 h → 0 < n → (10 - (x4).toInt : Int) < (n : Int) → ok (f_X8_odds_52  n h x1 x2 x3 x4) (fun a => SC h0 a.2 ∧ True) := by
  intro n
  induction n with
  | zero =>
    intro h x4 hSC hn hm
    exact absurd hn (by decide)
  | succ n ih_X8_odds_52 =>
    intro h x4 hSC hn hm
    rw [f_X8_odds_52_s]
    refine ok_if (fun c1 => ?_) (fun c1 => ?_)
    · refine ok_if (fun c2 => ?_) (fun c2 => ?_)
      · refine ok_ob2 (u_X0_upper h x2 (hSC).1) (fun r3 h3 k3 => ?_)
        have e3 : h = h3 := k3.1.symm
        subst e3
        refine ok_ob1 (u_X8_commonDivisor (eL h 7 1) r3) (fun r4 k4 => ?_)
        refine ok_if (fun c5 => ?_) (fun c5 => ?_)
        · unfold f_X8_odds_171
          refine ok_chk (k4) ?_
          exact ok_some ⟨hSC, trivial⟩
        · unfold f_X8_odds_171
          refine ok_chk (k4) ?_
          exact ok_some ⟨hSC, trivial⟩
      · exact ok_some ⟨hSC, trivial⟩
    · refine ok_ob2 (u_X4_ofGoose h x4 4 (hSC).1) (fun r8 h8 k8 => ?_)
      have e8 : h = h8 := k8.1.symm
      subst e8
      refine ok_if (fun c9 => ?_) (fun c9 => ?_)
      · refine ok_ob2 (u_X4_ofGoose h x4 2 (hSC).1) (fun r10 h10 k10 => ?_)
        have e10 : h = h10 := k10.1.symm
        subst e10
        refine ok_if (fun c11 => ?_) (fun c11 => ?_)
        · refine ok_ob1 (u_X0_add h x4 (hSC).1) (fun h12 k12 => ?_)
          have s12 : SC h0 h12 := SC_trans (b := h) hSC k12.1
          unfold f_X8_odds_109
          exact ih_X8_odds_52 h12 (x4 + 1) s12 (by have := IC_n hSC.1; have := hm; have := gi_of_nle c1; have : (1 : Int32).toInt = 1 := rfl; have := fb_rng (eI h 1 3); have := fb_rng (x4); (try have := fb_addI (x := x4) (y := 1) (by omega) (by omega)); omega) (by have := IC_n hSC.1; have := hm; have := gi_of_nle c1; have : (1 : Int32).toInt = 1 := rfl; have := fb_rng (eI h 1 3); have := fb_rng (x4); (try have := fb_addI (x := x4) (y := 1) (by omega) (by omega)); omega)
        · unfold f_X8_odds_109
          exact ih_X8_odds_52 h (x4 + 1) hSC (by have := IC_n hSC.1; have := hm; have := gi_of_nle c1; have : (1 : Int32).toInt = 1 := rfl; have := fb_rng (eI h 1 3); have := fb_rng (x4); (try have := fb_addI (x := x4) (y := 1) (by omega) (by omega)); omega) (by have := IC_n hSC.1; have := hm; have := gi_of_nle c1; have : (1 : Int32).toInt = 1 := rfl; have := fb_rng (eI h 1 3); have := fb_rng (x4); (try have := fb_addI (x := x4) (y := 1) (by omega) (by omega)); omega)
      · unfold f_X8_odds_109
        exact ih_X8_odds_52 h (x4 + 1) hSC (by have := IC_n hSC.1; have := hm; have := gi_of_nle c1; have : (1 : Int32).toInt = 1 := rfl; have := fb_rng (eI h 1 3); have := fb_rng (x4); (try have := fb_addI (x := x4) (y := 1) (by omega) (by omega)); omega) (by have := IC_n hSC.1; have := hm; have := gi_of_nle c1; have : (1 : Int32).toInt = 1 := rfl; have := fb_rng (eI h 1 3); have := fb_rng (x4); (try have := fb_addI (x := x4) (y := 1) (by omega) (by omega)); omega)
theorem u_X8_odds (h : HS) (p1 : Int32) (p2 : Int32) (p3 : Int32) (hI : IC h) : ok (f_X8_odds h p1 p2 p3) (fun a => SC h a.2 ∧ True) := by
  unfold f_X8_odds
  refine ok_ob1 (u_X8_isLetter p1) (fun r1 k1 => ?_)
  refine ok_if (fun c2 => ?_) (fun c2 => ?_)
  · unfold f_X8_odds_16
    exact ok_some ⟨(SC_refl hI), trivial⟩
  · refine ok_if (fun c3 => ?_) (fun c3 => ?_)
    · unfold f_X8_odds_16
      exact ok_some ⟨(SC_refl hI), trivial⟩
    · refine ok_if (fun c4 => ?_) (fun c4 => ?_)
      · refine ok_ob2 (u_X8_halvesHad h p1 0 999 10 ((SC_refl hI)).1) (fun r5 h5 k5 => ?_)
        have s5 : SC h h5 := SC_trans (b := h) (SC_refl hI) k5.1
        refine ok_ob2 (u_X8_halvesHad h5 p1 1 999 10 (s5).1) (fun r6 h6 k6 => ?_)
        have s6 : SC h h6 := SC_trans (b := h5) s5 k6.1
        refine ok_ob1 (u_X0_begin h6 r5 r6 (s6).1) (fun h7 k7 => ?_)
        have s7 : SC h h7 := SC_trans (b := h6) s6 k7.1
        exact u_X8_odds_52 (h0 := h) p1 p2 p3 8589934592 h7 0 s7 (by decide) (by have : (0 : Int32).toInt = 0 := rfl; omega)
      · unfold f_X8_odds_16
        exact ok_some ⟨(SC_refl hI), trivial⟩
theorem u_X8_plan (h : HS) (p1 : Int32) (p2 : Int32) (p3 : Int32) (hI : IC h) : ok (f_X8_plan h p1 p2 p3) (fun a => SC h a.2 ∧ True) := by
  unfold f_X8_plan
  refine ok_ob1 (u_X8_isLetter p1) (fun r1 k1 => ?_)
  refine ok_if (fun c2 => ?_) (fun c2 => ?_)
  · unfold f_X8_plan_34
    exact ok_some ⟨(SC_refl hI), trivial⟩
  · refine ok_if (fun c3 => ?_) (fun c3 => ?_)
    · unfold f_X8_plan_34
      exact ok_some ⟨(SC_refl hI), trivial⟩
    · refine ok_if (fun c4 => ?_) (fun c4 => ?_)
      · unfold f_X8_plan_34
        exact ok_some ⟨(SC_refl hI), trivial⟩
      · refine ok_if (fun c5 => ?_) (fun c5 => ?_)
        · unfold f_X8_plan_37
          refine ok_ob2 (u_X3_fewest h p1 p2 ((SC_refl hI)).1) (fun r6 h6 k6 => ?_)
          have s6 : SC h h6 := SC_trans (b := h) (SC_refl hI) k6.1
          refine ok_if (fun c7 => ?_) (fun c7 => ?_)
          · exact ok_some ⟨s6, trivial⟩
          · refine ok_if (fun c8 => ?_) (fun c8 => ?_)
            · unfold f_X8_plan_82
              exact ok_some ⟨s6, trivial⟩
            · refine ok_ob2 (u_X3_choiceOf h6 p3 (s6).1) (fun r9 h9 k9 => ?_)
              have e9 : h6 = h9 := k9.1.symm
              subst e9
              unfold f_X8_plan_82
              exact ok_some ⟨s6, trivial⟩
        · refine ok_ob2 (u_X4_hasGoose h p3 ((SC_refl hI)).1) (fun r10 h10 k10 => ?_)
          have e10 : h = h10 := k10.1.symm
          subst e10
          refine ok_if (fun c11 => ?_) (fun c11 => ?_)
          · unfold f_X8_plan_34
            exact ok_some ⟨(SC_refl hI), trivial⟩
          · unfold f_X8_plan_37
            refine ok_ob2 (u_X3_fewest h p1 p2 ((SC_refl hI)).1) (fun r12 h12 k12 => ?_)
            have s12 : SC h h12 := SC_trans (b := h) (SC_refl hI) k12.1
            refine ok_if (fun c13 => ?_) (fun c13 => ?_)
            · exact ok_some ⟨s12, trivial⟩
            · refine ok_if (fun c14 => ?_) (fun c14 => ?_)
              · unfold f_X8_plan_82
                exact ok_some ⟨s12, trivial⟩
              · refine ok_ob2 (u_X3_choiceOf h12 p3 (s12).1) (fun r15 h15 k15 => ?_)
                have e15 : h12 = h15 := k15.1.symm
                subst e15
                unfold f_X8_plan_82
                exact ok_some ⟨s12, trivial⟩
theorem u_X8_holds (h : HS) (hI : IC h) : ok (f_X8_holds h) (fun a => a.2 = h ∧ True) := by
  unfold f_X8_holds
  refine ok_ob2 (u_X4_dailyNeed h hI) (fun r1 h1 k1 => ?_)
  have e1 : h = h1 := k1.1.symm
  subst e1
  refine ok_if (fun c => ?_) (fun c => ok_some ⟨rfl, trivial⟩)
  refine ok_chk ?_ (ok_some ⟨rfl, trivial⟩)
  intro e
  subst e
  exact absurd c (by decide)
theorem u_X8_image (h : HS) (hI : IC h) : ok (f_X8_image h) (fun a => IC a.2) := by
  unfold f_X8_image
  exact ok_ob1 (u_X4_copyFrom_i h hI) (fun h1 k1 => ok_some k1.1)
theorem u_X8_back (h : HS) (hI : IC h) : ok (f_X8_back h) (fun a => IC a.2) := by
  unfold f_X8_back
  exact ok_ob1 (u_X4_copyFrom_b h hI) (fun h1 k1 => ok_some k1.1)
theorem u_X8_aboutMany (h : HS) (p1 : Int32) (hI : IC h) : ok (f_X8_aboutMany h p1) (fun a => a.2 = h ∧ True) := by
  unfold f_X8_aboutMany
  refine ok_if (fun c1 => ?_) (fun c1 => ?_)
  · unfold f_X8_aboutMany_24
    refine ok_if (fun c2 => ?_) (fun c2 => ?_)
    · unfold f_X8_aboutMany_44
      exact ok_some ⟨rfl, trivial⟩
    · refine ok_if (fun c3 => ?_) (fun c3 => ?_)
      · refine ok_ob2 (u_X4_ofMarket h (p1 - 10) 0 ((SC_refl hI)).1) (fun r4 h4 k4 => ?_)
        have e4 : h = h4 := k4.1.symm
        subst e4
        refine ok_ob2 (u_X4_ofMarket h (p1 - 10) 1 ((SC_refl hI)).1) (fun r5 h5 k5 => ?_)
        have e5 : h = h5 := k5.1.symm
        subst e5
        refine ok_ob2 (u_X4_ofMarket h (p1 - 10) 2 ((SC_refl hI)).1) (fun r6 h6 k6 => ?_)
        have e6 : h = h6 := k6.1.symm
        subst e6
        exact ok_some ⟨rfl, trivial⟩
      · unfold f_X8_aboutMany_44
        exact ok_some ⟨rfl, trivial⟩
  · refine ok_if (fun c7 => ?_) (fun c7 => ?_)
    · unfold f_X8_aboutMany_24
      refine ok_if (fun c8 => ?_) (fun c8 => ?_)
      · unfold f_X8_aboutMany_44
        exact ok_some ⟨rfl, trivial⟩
      · refine ok_if (fun c9 => ?_) (fun c9 => ?_)
        · refine ok_ob2 (u_X4_ofMarket h (p1 - 10) 0 ((SC_refl hI)).1) (fun r10 h10 k10 => ?_)
          have e10 : h = h10 := k10.1.symm
          subst e10
          refine ok_ob2 (u_X4_ofMarket h (p1 - 10) 1 ((SC_refl hI)).1) (fun r11 h11 k11 => ?_)
          have e11 : h = h11 := k11.1.symm
          subst e11
          refine ok_ob2 (u_X4_ofMarket h (p1 - 10) 2 ((SC_refl hI)).1) (fun r12 h12 k12 => ?_)
          have e12 : h = h12 := k12.1.symm
          subst e12
          exact ok_some ⟨rfl, trivial⟩
        · unfold f_X8_aboutMany_44
          exact ok_some ⟨rfl, trivial⟩
    · refine ok_ob2 (u_X4_countFate h (p1 - 20) ((SC_refl hI)).1) (fun r13 h13 k13 => ?_)
      have e13 : h = h13 := k13.1.symm
      subst e13
      exact ok_some ⟨rfl, trivial⟩
theorem u_X8_about (h : HS) (p1 : Int32) (hI : IC h) : ok (f_X8_about h p1) (fun a => a.2 = h ∧ True) := by
  unfold f_X8_about
  refine ok_if (fun c1 => ?_) (fun c1 => ?_)
  · exact ok_some ⟨rfl, trivial⟩
  · refine ok_if (fun c2 => ?_) (fun c2 => ?_)
    · exact ok_some ⟨rfl, trivial⟩
    · refine ok_if (fun c3 => ?_) (fun c3 => ?_)
      · exact ok_some ⟨rfl, trivial⟩
      · refine ok_if (fun c4 => ?_) (fun c4 => ?_)
        · exact ok_some ⟨rfl, trivial⟩
        · refine ok_if (fun c5 => ?_) (fun c5 => ?_)
          · exact ok_some ⟨rfl, trivial⟩
          · refine ok_if (fun c6 => ?_) (fun c6 => ?_)
            · exact ok_some ⟨rfl, trivial⟩
            · refine ok_if (fun c7 => ?_) (fun c7 => ?_)
              · exact ok_some ⟨rfl, trivial⟩
              · refine ok_if (fun c8 => ?_) (fun c8 => ?_)
                · exact ok_some ⟨rfl, trivial⟩
                · refine ok_if (fun c9 => ?_) (fun c9 => ?_)
                  · exact ok_some ⟨rfl, trivial⟩
                  · refine ok_if (fun c10 => ?_) (fun c10 => ?_)
                    · exact ok_some ⟨rfl, trivial⟩
                    · refine ok_ob2 (u_X8_aboutMany h p1 ((SC_refl hI)).1) (fun r11 h11 k11 => ?_)
                      have e11 : h = h11 := k11.1.symm
                      subst e11
                      exact ok_some ⟨rfl, trivial⟩
/-! the reference's invariant -/
def GB (f : Nat → Int32) (b : Nat) : Prop := ∀ g : Nat, g < 10 → (0 ≤ (f (b + 9 * g + 1)).toInt ∧ (f (b + 9 * g + 1)).toInt ≤ 99) ∧ (-1 ≤ (f (b + 9 * g + 3)).toInt ∧ (f (b + 9 * g + 3)).toInt ≤ 2) ∧ ((f (b + 9 * g + 2)).toInt = -1 ∨ 0 ≤ (f (b + 9 * g + 3)).toInt) ∧ (-1 ≤ (f (b + 9 * g + 5)).toInt ∧ (f (b + 9 * g + 5)).toInt ≤ 3)
def RC (f : Nat → Int32) : Prop := (0 ≤ (f 0).toInt ∧ (f 0).toInt ≤ 4) ∧ (0 ≤ (f 1).toInt ∧ (f 1).toInt ≤ 10) ∧ (0 ≤ (f 3).toInt ∧ (f 3).toInt ≤ 4) ∧ (-1 ≤ (f 4).toInt ∧ (f 4).toInt < (f 3).toInt) ∧ (0 ≤ (f 5).toInt ∧ (f 5).toInt ≤ 20)
def RO (f : Nat → Int32) : Prop := RC f ∧ GB f 30 ∧ ∀ s : Nat, s < 20 → GB f (130 + 93 * s)
def ST (o v : Int32) (d e : Int) : Prop := ((o = 400 ∨ (o = 401 ∧ 0 ≤ v.toInt ∧ v.toInt ≤ 8)) ∧ 0 ≤ d ∧ d < 199 ∧ e = d + 1) ∨ ((o = 402 ∨ o = 405) ∧ 1 ≤ d ∧ d < 200 ∧ e = d) ∨ (¬ o = 400 ∧ ¬ o = 401 ∧ ¬ o = 402 ∧ ¬ o = 405 ∧ ¬ o = 408 ∧ 2 ≤ d ∧ d < 200 ∧ e = d - 1)
def PO (o v : Nat → Int32) (p n : Nat) (d : Int) : Prop := ∃ dep : Nat → Int, dep 0 = 0 ∧ dep n = d ∧ ∀ j : Nat, j < n → ST (o (p + j)) (v (p + j)) (dep j) (dep (j + 1))
def PG (o v : Nat → Int32) (p m : Nat) : Prop := ∃ (n : Nat) (d : Int), p + n < m ∧ o (p + n) = 408 ∧ PO o v p n d
def PR (h : HS) (x : Int32) : Prop := 0 ≤ x.toInt ∧ PG (eA h 0 12) (eA h 0 13) x.toInt.toNat 1600
def PT (h : HS) (t : Nat) (x : Int32) : Prop := 400 * (t : Int) ≤ x.toInt ∧ PG (eA h 0 12) (eA h 0 13) x.toInt.toNat (400 * t + 400)
def TX (h : HS) : Prop := ∀ t : Nat, t < 4 → (0 ≤ (eA h 0 6 t).toInt ∧ (eA h 0 6 t).toInt ≤ 24) ∧ ∀ k : Nat, (k : Int) < (eA h 0 6 t).toInt → (eA h 0 7 (24 * t + k)).toInt ≤ 3 → PT h t (eA h 0 8 (24 * t + k))
theorem PT_PR {h : HS} {t : Nat} {x : Int32} (ht : t < 4) (p : PT h t x) : PR h x := by
  obtain ⟨a, n, d, b, c⟩ := p
  exact ⟨by omega, n, d, by omega, c⟩
def CH (f g : Nat → Int32) : Prop := ∀ k : Nat, k < 3 → (0 ≤ (f k).toInt ∧ (f k).toInt ≤ 9) ∧ (0 ≤ (g k).toInt ∧ (g k).toInt ≤ 11)
def NM (h : HS) : Prop := (0 ≤ (eI h 0 3).toInt ∧ (eI h 0 3).toInt ≤ 300) ∧ (0 ≤ (eI h 0 47).toInt ∧ (eI h 0 47).toInt ≤ 10)
def IM (h : HS) : Prop := NM h ∧ RO (eA h 0 0) ∧ RO (eA h 0 1) ∧ TX h ∧ CH (eA h 0 48) (eA h 0 49)
def SM (h c : HS) : Prop := IM c ∧ eA c 0 0 = eA h 0 0 ∧ eA c 0 12 = eA h 0 12 ∧ eA c 0 13 = eA h 0 13 ∧ eI c 0 47 = eI h 0 47
def SW (h c : HS) : Prop := IM c ∧ eA c 0 0 0 = eA h 0 0 0 ∧ eA c 0 0 1 = eA h 0 0 1 ∧ eA c 0 0 3 = eA h 0 0 3
theorem SM_refl {h : HS} (i : IM h) : SM h h := ⟨i, rfl, rfl, rfl, rfl⟩
theorem SW_refl {h : HS} (i : IM h) : SW h h := ⟨i, rfl, rfl, rfl⟩
theorem SM_trans {a b c : HS} (x : SM a b) (y : SM b c) : SM a c := ⟨y.1, y.2.1.trans x.2.1, y.2.2.1.trans x.2.2.1, y.2.2.2.1.trans x.2.2.2.1, y.2.2.2.2.trans x.2.2.2.2⟩
theorem SW_trans {a b c : HS} (x : SW a b) (y : SW b c) : SW a c := ⟨y.1, y.2.1.trans x.2.1, y.2.2.1.trans x.2.2.1, y.2.2.2.trans x.2.2.2⟩
theorem SM_SW {a b : HS} (x : SM a b) : SW a b := ⟨x.1, by rw [x.2.1], by rw [x.2.1], by rw [x.2.1]⟩
theorem IM_n {h : HS} (i : IM h) : ((0 ≤ (eA h 0 0 0).toInt ∧ (eA h 0 0 0).toInt ≤ 4) ∧ (0 ≤ (eA h 0 0 1).toInt ∧ (eA h 0 0 1).toInt ≤ 10) ∧ (0 ≤ (eA h 0 0 3).toInt ∧ (eA h 0 0 3).toInt ≤ 4) ∧ (-1 ≤ (eA h 0 0 4).toInt ∧ (eA h 0 0 4).toInt < (eA h 0 0 3).toInt) ∧ (0 ≤ (eA h 0 0 5).toInt ∧ (eA h 0 0 5).toInt ≤ 20)) ∧ (0 ≤ (eI h 0 3).toInt ∧ (eI h 0 3).toInt ≤ 300) ∧ (0 ≤ (eI h 0 47).toInt ∧ (eI h 0 47).toInt ≤ 10) := ⟨i.2.1.1, i.1⟩
theorem GB_upd {f : Nat → Int32} {b i : Nat} {v : Int32} (h : GB f b) (hi : ∀ g : Nat, g < 10 → ¬ i = b + 9 * g + 1 ∧ ¬ i = b + 9 * g + 2 ∧ ¬ i = b + 9 * g + 3 ∧ ¬ i = b + 9 * g + 5) : GB (upd f i v) b := by
  intro g hg
  obtain ⟨a1, a2, a3, a5⟩ := hi g hg
  unfold upd
  rw [if_neg (fun e => a1 e.symm), if_neg (fun e => a3 e.symm), if_neg (fun e => a2 e.symm), if_neg (fun e => a5 e.symm)]
  exact h g hg
theorem RC_upd {f : Nat → Int32} {i : Nat} {v : Int32} (h : RC f) (hi : 6 ≤ i ∨ i = 2) : RC (upd f i v) := by
  unfold RC upd
  rw [if_neg (by omega), if_neg (by omega), if_neg (by omega), if_neg (by omega), if_neg (by omega)]
  exact h
theorem RO_free {f : Nat → Int32} {i : Nat} {v : Int32} (h : RO f) (hi : i = 2 ∨ (120 ≤ i ∧ i < 130) ∨ (6 ≤ i ∧ i < 30)) : RO (upd f i v) :=
  ⟨RC_upd h.1 (by omega), GB_upd h.2.1 (fun g hg => by omega), fun s hs => GB_upd (h.2.2 s hs) (fun g hg => by omega)⟩
theorem sw_row {h c : HS} {f : Nat → Int32} (s : SW h c) (hf : RO f) (e0 : f 0 = eA c 0 0 0) (e1 : f 1 = eA c 0 0 1) (e3 : f 3 = eA c 0 0 3) : SW h (sA c 0 0 f) :=
  ⟨⟨s.1.1, hf, s.1.2.2.1, s.1.2.2.2.1, s.1.2.2.2.2⟩, e0.trans s.2.1, e1.trans s.2.2.1, e3.trans s.2.2.2⟩
theorem fb_rem {x y : Int32} {k : Int} (e : y.toInt = k) (hk : 1 < k) : (0 ≤ x.toInt → 0 ≤ (x - x / y * y).toInt ∧ (x - x / y * y).toInt < k) := by
  intro h0
  have r := fb_rng x
  have q := (fb_divK (x := x) (y := y) (k := k) e hk).1 h0
  have r2 := fb_rng y
  have m1 : (x / y * y).toInt = (x / y).toInt * k := fb_mulK e (by omega) (by omega)
  have m2 : (x - x / y * y).toInt = x.toInt - (x / y * y).toInt := fb_subI (by omega) (by omega)
  omega
theorem fb_or2 {x y : Int32} (h1 : 0 ≤ x.toInt) (h2 : x.toInt < 4) (h3 : 0 ≤ y.toInt) (h4 : y.toInt < 4) : 0 ≤ (x ||| y).toInt ∧ (x ||| y).toInt < 4 := by
  have hx : x = Int32.ofInt x.toInt := (Int32.ofInt_toInt x).symm
  have hy : y = Int32.ofInt y.toInt := (Int32.ofInt_toInt y).symm
  generalize x.toInt = a at *
  generalize y.toInt = b at *
  subst hx
  subst hy
  obtain ⟨m, rfl⟩ := Int.eq_ofNat_of_zero_le h1
  obtain ⟨n, rfl⟩ := Int.eq_ofNat_of_zero_le h3
  have hm : m < 4 := by omega
  have hn : n < 4 := by omega
  have key : ∀ m : Fin 4, ∀ n : Fin 4, 0 ≤ (Int32.ofInt (m.val : Nat) ||| Int32.ofInt (n.val : Nat)).toInt ∧ (Int32.ofInt (m.val : Nat) ||| Int32.ofInt (n.val : Nat)).toInt < 4 := by decide +kernel
  exact key ⟨m, hm⟩ ⟨n, hn⟩
def IMO (h : HS) : Prop := NM h ∧ RO (eA h 0 1) ∧ TX h ∧ CH (eA h 0 48) (eA h 0 49)
theorem IM_of {h : HS} (o : IMO h) (r : RO (eA h 0 0)) : IM h := ⟨o.1, r, o.2.1, o.2.2.1, o.2.2.2⟩
theorem IMO_of {h : HS} (i : IM h) : IMO h := ⟨i.1, i.2.2.1, i.2.2.2.1, i.2.2.2.2⟩
theorem GB_shift {f g : Nat → Int32} {b c : Nat} (h : GB f b) (e : ∀ j : Nat, j < 90 → g (c + j) = f (b + j)) : GB g c := by
  intro k hk
  have e1 := e (9 * k + 1) (by omega); have e2 := e (9 * k + 2) (by omega); have e3 := e (9 * k + 3) (by omega); have e5 := e (9 * k + 5) (by omega)
  have q := h k hk
  simp only [← Nat.add_assoc] at e1 e2 e3 e5
  rw [e1, e2, e3, e5]
  exact q
theorem RC_congr {f g : Nat → Int32} (h : RC f) (e0 : g 0 = f 0) (e1 : g 1 = f 1) (e3 : g 3 = f 3) (e4 : g 4 = f 4) (h5 : 0 ≤ (g 5).toInt ∧ (g 5).toInt ≤ 20) : RC g := by
  unfold RC
  rw [e0, e1, e3, e4]
  exact ⟨h.1, h.2.1, h.2.2.1, h.2.2.2.1, h5⟩
theorem RC_congr5 {f g : Nat → Int32} (h : RC f) (e0 : g 0 = f 0) (e1 : g 1 = f 1) (e3 : g 3 = f 3) (e4 : g 4 = f 4) (e5 : g 5 = f 5) : RC g := RC_congr h e0 e1 e3 e4 (by rw [e5]; exact h.2.2.2.2)
theorem u_X9_in (p1 p2 p3 : Int32) : ok (f_X9_in p1 p2 p3) (fun a => ((a = 0 ∨ a = 1) ∧ ((a).toInt = 0 ∨ (p2.toInt ≤ p1.toInt ∧ p1.toInt ≤ p3.toInt)))) := by
  unfold f_X9_in f_X9_in_14 f_X9_in_15
  refine ok_if (fun c => ok_chk (Or.inl rfl) (ok_some ⟨Or.inl rfl, Or.inl rfl⟩)) (fun c1 => ?_)
  refine ok_if (fun c => ok_chk (Or.inl rfl) (ok_some ⟨Or.inl rfl, Or.inl rfl⟩)) (fun c2 => ?_)
  exact ok_chk (Or.inr rfl) (ok_some ⟨Or.inr rfl, Or.inr ⟨gi_of_nlt c1, gi_of_nlt c2⟩⟩)
theorem u_X9_isLetter (p1 : Int32) : ok (f_X9_isLetter p1) (fun a => (a = 0 ∨ a = 1)) := by
  unfold f_X9_isLetter
  refine ok_ob1 (u_X9_in p1 97 122) (fun r1 k1 => ?_)
  refine ok_if (fun c2 => ?_) (fun c2 => ?_)
  · refine ok_ob1 (u_X9_in p1 65 90) (fun r3 k3 => ?_)
    refine ok_if (fun c4 => ?_) (fun c4 => ?_)
    · unfold f_X9_isLetter_27
      refine ok_chk (Or.inl rfl) ?_
      exact ok_some (Or.inl rfl)
    · unfold f_X9_isLetter_22
      unfold f_X9_isLetter_27
      refine ok_chk (Or.inr rfl) ?_
      exact ok_some (Or.inr rfl)
  · unfold f_X9_isLetter_22
    unfold f_X9_isLetter_27
    refine ok_chk (Or.inr rfl) ?_
    exact ok_some (Or.inr rfl)
theorem u_X9_wordOf (p1 : Int64) : ok (f_X9_wordOf p1) (fun a => (-1 ≤ (a).toInt ∧ (a).toInt ≤ 21)) := by
  unfold f_X9_wordOf
  refine ok_if (fun c1 => ?_) (fun c1 => ?_)
  · exact ok_some (show (-1 ≤ ((0 : Int32)).toInt ∧ ((0 : Int32)).toInt ≤ 21) from by have : (0 : Int32).toInt = 0 := rfl; omega)
  · refine ok_if (fun c2 => ?_) (fun c2 => ?_)
    · exact ok_some (show (-1 ≤ ((1 : Int32)).toInt ∧ ((1 : Int32)).toInt ≤ 21) from by have : (1 : Int32).toInt = 1 := rfl; omega)
    · refine ok_if (fun c3 => ?_) (fun c3 => ?_)
      · exact ok_some (show (-1 ≤ ((2 : Int32)).toInt ∧ ((2 : Int32)).toInt ≤ 21) from by have : (2 : Int32).toInt = 2 := rfl; omega)
      · refine ok_if (fun c4 => ?_) (fun c4 => ?_)
        · exact ok_some (show (-1 ≤ ((3 : Int32)).toInt ∧ ((3 : Int32)).toInt ≤ 21) from by have : (3 : Int32).toInt = 3 := rfl; omega)
        · refine ok_if (fun c5 => ?_) (fun c5 => ?_)
          · exact ok_some (show (-1 ≤ ((4 : Int32)).toInt ∧ ((4 : Int32)).toInt ≤ 21) from by have : (4 : Int32).toInt = 4 := rfl; omega)
          · refine ok_if (fun c6 => ?_) (fun c6 => ?_)
            · exact ok_some (show (-1 ≤ ((5 : Int32)).toInt ∧ ((5 : Int32)).toInt ≤ 21) from by have : (5 : Int32).toInt = 5 := rfl; omega)
            · refine ok_if (fun c7 => ?_) (fun c7 => ?_)
              · exact ok_some (show (-1 ≤ ((6 : Int32)).toInt ∧ ((6 : Int32)).toInt ≤ 21) from by have : (6 : Int32).toInt = 6 := rfl; omega)
              · refine ok_if (fun c8 => ?_) (fun c8 => ?_)
                · exact ok_some (show (-1 ≤ ((7 : Int32)).toInt ∧ ((7 : Int32)).toInt ≤ 21) from by have : (7 : Int32).toInt = 7 := rfl; omega)
                · refine ok_if (fun c9 => ?_) (fun c9 => ?_)
                  · exact ok_some (show (-1 ≤ ((8 : Int32)).toInt ∧ ((8 : Int32)).toInt ≤ 21) from by have : (8 : Int32).toInt = 8 := rfl; omega)
                  · refine ok_if (fun c10 => ?_) (fun c10 => ?_)
                    · exact ok_some (show (-1 ≤ ((9 : Int32)).toInt ∧ ((9 : Int32)).toInt ≤ 21) from by have : (9 : Int32).toInt = 9 := rfl; omega)
                    · refine ok_if (fun c11 => ?_) (fun c11 => ?_)
                      · exact ok_some (show (-1 ≤ ((10 : Int32)).toInt ∧ ((10 : Int32)).toInt ≤ 21) from by have : (10 : Int32).toInt = 10 := rfl; omega)
                      · refine ok_if (fun c12 => ?_) (fun c12 => ?_)
                        · exact ok_some (show (-1 ≤ ((11 : Int32)).toInt ∧ ((11 : Int32)).toInt ≤ 21) from by have : (11 : Int32).toInt = 11 := rfl; omega)
                        · refine ok_if (fun c13 => ?_) (fun c13 => ?_)
                          · exact ok_some (show (-1 ≤ ((12 : Int32)).toInt ∧ ((12 : Int32)).toInt ≤ 21) from by have : (12 : Int32).toInt = 12 := rfl; omega)
                          · refine ok_if (fun c14 => ?_) (fun c14 => ?_)
                            · exact ok_some (show (-1 ≤ ((13 : Int32)).toInt ∧ ((13 : Int32)).toInt ≤ 21) from by have : (13 : Int32).toInt = 13 := rfl; omega)
                            · refine ok_if (fun c15 => ?_) (fun c15 => ?_)
                              · exact ok_some (show (-1 ≤ ((14 : Int32)).toInt ∧ ((14 : Int32)).toInt ≤ 21) from by have : (14 : Int32).toInt = 14 := rfl; omega)
                              · refine ok_if (fun c16 => ?_) (fun c16 => ?_)
                                · exact ok_some (show (-1 ≤ ((15 : Int32)).toInt ∧ ((15 : Int32)).toInt ≤ 21) from by have : (15 : Int32).toInt = 15 := rfl; omega)
                                · refine ok_if (fun c17 => ?_) (fun c17 => ?_)
                                  · exact ok_some (show (-1 ≤ ((16 : Int32)).toInt ∧ ((16 : Int32)).toInt ≤ 21) from by have : (16 : Int32).toInt = 16 := rfl; omega)
                                  · refine ok_if (fun c18 => ?_) (fun c18 => ?_)
                                    · exact ok_some (show (-1 ≤ ((17 : Int32)).toInt ∧ ((17 : Int32)).toInt ≤ 21) from by have : (17 : Int32).toInt = 17 := rfl; omega)
                                    · refine ok_if (fun c19 => ?_) (fun c19 => ?_)
                                      · exact ok_some (show (-1 ≤ ((18 : Int32)).toInt ∧ ((18 : Int32)).toInt ≤ 21) from by have : (18 : Int32).toInt = 18 := rfl; omega)
                                      · refine ok_if (fun c20 => ?_) (fun c20 => ?_)
                                        · exact ok_some (show (-1 ≤ ((19 : Int32)).toInt ∧ ((19 : Int32)).toInt ≤ 21) from by have : (19 : Int32).toInt = 19 := rfl; omega)
                                        · refine ok_if (fun c21 => ?_) (fun c21 => ?_)
                                          · exact ok_some (show (-1 ≤ ((20 : Int32)).toInt ∧ ((20 : Int32)).toInt ≤ 21) from by have : (20 : Int32).toInt = 20 := rfl; omega)
                                          · refine ok_if (fun c22 => ?_) (fun c22 => ?_)
                                            · exact ok_some (show (-1 ≤ ((21 : Int32)).toInt ∧ ((21 : Int32)).toInt ≤ 21) from by have : (21 : Int32).toInt = 21 := rfl; omega)
                                            · exact ok_some (show (-1 ≤ ((-1 : Int32)).toInt ∧ ((-1 : Int32)).toInt ≤ 21) from by have : ((-1) : Int32).toInt = -1 := rfl; omega)
theorem u_X9_rank (p1 : Int32) : ok (f_X9_rank p1) (fun a => (1 ≤ (a).toInt ∧ (a).toInt ≤ 4)) := by
  unfold f_X9_rank
  refine ok_if (fun c1 => ?_) (fun c1 => ?_)
  · unfold f_X9_rank_39
    exact ok_some (show (1 ≤ ((1 : Int32)).toInt ∧ ((1 : Int32)).toInt ≤ 4) from by have : (1 : Int32).toInt = 1 := rfl; omega)
  · refine ok_if (fun c2 => ?_) (fun c2 => ?_)
    · unfold f_X9_rank_39
      exact ok_some (show (1 ≤ ((2 : Int32)).toInt ∧ ((2 : Int32)).toInt ≤ 4) from by have : (2 : Int32).toInt = 2 := rfl; omega)
    · refine ok_if (fun c3 => ?_) (fun c3 => ?_)
      · unfold f_X9_rank_34
        unfold f_X9_rank_39
        exact ok_some (show (1 ≤ ((3 : Int32)).toInt ∧ ((3 : Int32)).toInt ≤ 4) from by have : (3 : Int32).toInt = 3 := rfl; omega)
      · refine ok_if (fun c4 => ?_) (fun c4 => ?_)
        · unfold f_X9_rank_34
          unfold f_X9_rank_39
          exact ok_some (show (1 ≤ ((3 : Int32)).toInt ∧ ((3 : Int32)).toInt ≤ 4) from by have : (3 : Int32).toInt = 3 := rfl; omega)
        · unfold f_X9_rank_39
          exact ok_some (show (1 ≤ ((4 : Int32)).toInt ∧ ((4 : Int32)).toInt ≤ 4) from by have : (4 : Int32).toInt = 4 := rfl; omega)
theorem u_X9_isAsking (p1 : Int32) : ok (f_X9_isAsking p1) (fun a => (a = 0 ∨ a = 1)) := by
  unfold f_X9_isAsking
  refine ok_if (fun c1 => ?_) (fun c1 => ?_)
  · unfold f_X9_isAsking_38
    unfold f_X9_isAsking_43
    refine ok_chk (Or.inr rfl) ?_
    exact ok_some (Or.inr rfl)
  · refine ok_if (fun c3 => ?_) (fun c3 => ?_)
    · unfold f_X9_isAsking_38
      unfold f_X9_isAsking_43
      refine ok_chk (Or.inr rfl) ?_
      exact ok_some (Or.inr rfl)
    · refine ok_if (fun c5 => ?_) (fun c5 => ?_)
      · unfold f_X9_isAsking_38
        unfold f_X9_isAsking_43
        refine ok_chk (Or.inr rfl) ?_
        exact ok_some (Or.inr rfl)
      · refine ok_if (fun c7 => ?_) (fun c7 => ?_)
        · unfold f_X9_isAsking_38
          unfold f_X9_isAsking_43
          refine ok_chk (Or.inr rfl) ?_
          exact ok_some (Or.inr rfl)
        · refine ok_if (fun c9 => ?_) (fun c9 => ?_)
          · unfold f_X9_isAsking_38
            unfold f_X9_isAsking_43
            refine ok_chk (Or.inr rfl) ?_
            exact ok_some (Or.inr rfl)
          · refine ok_if (fun c11 => ?_) (fun c11 => ?_)
            · unfold f_X9_isAsking_38
              unfold f_X9_isAsking_43
              refine ok_chk (Or.inr rfl) ?_
              exact ok_some (Or.inr rfl)
            · unfold f_X9_isAsking_43
              refine ok_chk (Or.inl rfl) ?_
              exact ok_some (Or.inl rfl)
theorem u_X9_bound (p1 : Int64) : ok (f_X9_bound p1) (fun a => True) := by
  unfold f_X9_bound
  refine ok_if (fun c1 => ?_) (fun c1 => ?_)
  · refine ok_if (fun c2 => ?_) (fun c2 => ?_)
    · unfold f_X9_bound_29
      exact ok_some trivial
    · unfold f_X9_bound_29
      exact ok_some trivial
  · unfold f_X9_bound_29
    exact ok_some trivial
theorem u_X9_worked (p1 : Int32) (p2 : Int64) (p3 : Int64) : ok (f_X9_worked p1 p2 p3) (fun a => True) := by
  unfold f_X9_worked
  refine ok_if (fun c1 => ?_) (fun c1 => ?_)
  · refine ok_if (fun c2 => ?_) (fun c2 => ?_)
    · unfold f_X9_worked_182
      exact ok_some trivial
    · unfold f_X9_worked_182
      exact ok_some trivial
  · refine ok_if (fun c3 => ?_) (fun c3 => ?_)
    · refine ok_ob1 (u_X9_bound (p2 * p3)) (fun r4 k4 => ?_)
      exact ok_some trivial
    · refine ok_if (fun c5 => ?_) (fun c5 => ?_)
      · refine ok_ob1 (u_X9_bound (p2 + p3)) (fun r6 k6 => ?_)
        exact ok_some trivial
      · refine ok_if (fun c7 => ?_) (fun c7 => ?_)
        · refine ok_ob1 (u_X9_bound (p2 - p3)) (fun r8 k8 => ?_)
          exact ok_some trivial
        · refine ok_if (fun c9 => ?_) (fun c9 => ?_)
          · refine ok_if (fun c10 => ?_) (fun c10 => ?_)
            · unfold f_X9_worked_134
              exact ok_some trivial
            · refine ok_chk (fb_lgz c10) ?_
              unfold f_X9_worked_134
              exact ok_some trivial
          · refine ok_if (fun c12 => ?_) (fun c12 => ?_)
            · refine ok_if (fun c13 => ?_) (fun c13 => ?_)
              · unfold f_X9_worked_146
                exact ok_some trivial
              · unfold f_X9_worked_146
                exact ok_some trivial
            · refine ok_if (fun c14 => ?_) (fun c14 => ?_)
              · refine ok_if (fun c15 => ?_) (fun c15 => ?_)
                · unfold f_X9_worked_170
                  exact ok_some trivial
                · unfold f_X9_worked_170
                  exact ok_some trivial
              · refine ok_if (fun c16 => ?_) (fun c16 => ?_)
                · refine ok_if (fun c17 => ?_) (fun c17 => ?_)
                  · unfold f_X9_worked_158
                    exact ok_some trivial
                  · unfold f_X9_worked_158
                    exact ok_some trivial
                · refine ok_if (fun c18 => ?_) (fun c18 => ?_)
                  · refine ok_if (fun c19 => ?_) (fun c19 => ?_)
                    · unfold f_X9_worked_194
                      exact ok_some trivial
                    · unfold f_X9_worked_194
                      exact ok_some trivial
                  · refine ok_if (fun c20 => ?_) (fun c20 => ?_)
                    · refine ok_if (fun c21 => ?_) (fun c21 => ?_)
                      · unfold f_X9_worked_206
                        exact ok_some trivial
                      · unfold f_X9_worked_206
                        exact ok_some trivial
                    · refine ok_if (fun c22 => ?_) (fun c22 => ?_)
                      · exact ok_some trivial
                      · refine ok_if (fun c23 => ?_) (fun c23 => ?_)
                        · unfold f_X9_worked_224
                          exact ok_some trivial
                        · unfold f_X9_worked_224
                          exact ok_some trivial
theorem u_X9_held (p1 : Int64) (p2 : Int32) (p3 : Int32) : ok (f_X9_held p1 p2 p3) (fun a => True) := by
  unfold f_X9_held
  refine ok_if (fun c1 => ?_) (fun c1 => ?_)
  · refine ok_if (fun c2 => ?_) (fun c2 => ?_)
    · unfold f_X9_held_24
      exact ok_some trivial
    · unfold f_X9_held_24
      exact ok_some trivial
  · unfold f_X9_held_24
    exact ok_some trivial
theorem u_X9_halves (p1 : Int32) : ok (f_X9_halves p1) (fun a => ((0 ≤ p1.toInt ∧ p1.toInt ≤ 2) → (0 ≤ (a).toInt ∧ (a).toInt ≤ 3))) := by
  unfold f_X9_halves f_X9_halves_9
  exact ok_if (fun c => ok_some (fun _ => (by decide))) (fun c => ok_some (fun h => by omega))
theorem u_X9_isLetterNumber (p1 : Int32) : ok (f_X9_isLetterNumber p1) (fun a => ((a = 0 ∨ a = 1) ∧ ((a).toInt = 0 ∨ (0 ≤ p1.toInt ∧ p1.toInt ≤ 5)))) := by
  unfold f_X9_isLetterNumber
  exact ok_ob1 (u_X9_in p1 0 5) (fun r k => ok_chk k.1 (ok_some k))
