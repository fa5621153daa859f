theorem u_J0_length  : ok (f_J0_length ) (fun a => a = 121) := by
  unfold f_J0_length
  exact ok_some rfl
theorem u_J0_charAt (p1 : Int32) (q0 : 0 ≤ p1.toInt) (q1 : p1.toInt < 121) : ok (f_J0_charAt p1) (fun a => True) := ok_chk ⟨q0, q1⟩ (ok_some trivial)
theorem u_X7_wordKind_12 (h : HS) (x1 : Int32) (x2 : Int32) (hI : IC h) : ∀ (n : Nat) (x3 : Int32) (x4 : Int32) (x5 : Int32) (x6 : Int32), 0 ≤ x6.toInt → 0 < n → (121 - (x6).toInt : Int) < (n : Int) → ok (f_X7_wordKind_12  n h x1 x2 x3 x4 x5 x6) (fun a => a.2 = h ∧ True) := by
  intro n
  induction n with
  | zero =>
    intro x3 x4 x5 x6 i0 hn hm
    exact absurd hn (by decide)
  | succ n ih_X7_wordKind_12 =>
    intro x3 x4 x5 x6 i0 hn hm
    rw [f_X7_wordKind_12_s]
    refine ok_ob1 (u_J0_length ) (fun r1 k1 => ?_)
    subst k1
    refine ok_if (fun c2 => ?_) (fun c2 => ?_)
    · exact ok_some ⟨rfl, trivial⟩
    · refine ok_ob1 (u_J0_charAt x6 (by have := i0; have := hm; have := gi_of_nle c2; have : (121 : Int32).toInt = 121 := rfl; have := fb_rng (x6); omega) (by have := i0; have := hm; have := gi_of_nle c2; have : (121 : Int32).toInt = 121 := rfl; have := fb_rng (x6); omega)) (fun r3 k3 => ?_)
      refine ok_if (fun c4 => ?_) (fun c4 => ?_)
      · refine ok_if (fun c5 => ?_) (fun c5 => ?_)
        · unfold f_X7_wordKind_94
          unfold f_X7_wordKind_106
          exact ih_X7_wordKind_12 (x3 + 1) (x6 + 1) 1 (x6 + 1) (by have := i0; have := hm; have := gi_of_nle c2; have : (1 : Int32).toInt = 1 := rfl; have : (121 : Int32).toInt = 121 := rfl; have := fb_rng (x6); (try have := fb_addI (x := x6) (y := 1) (by omega) (by omega)); omega) (by have := i0; have := hm; have := gi_of_nle c2; have : (1 : Int32).toInt = 1 := rfl; have : (121 : Int32).toInt = 121 := rfl; have := fb_rng (x6); (try have := fb_addI (x := x6) (y := 1) (by omega) (by omega)); omega) (by have := i0; have := hm; have := gi_of_nle c2; have : (1 : Int32).toInt = 1 := rfl; have : (121 : Int32).toInt = 121 := rfl; have := fb_rng (x6); (try have := fb_addI (x := x6) (y := 1) (by omega) (by omega)); omega)
        · refine ok_if (fun c6 => ?_) (fun c6 => ?_)
          · exact ok_some ⟨rfl, trivial⟩
          · unfold f_X7_wordKind_94
            unfold f_X7_wordKind_106
            exact ih_X7_wordKind_12 (x3 + 1) (x6 + 1) 1 (x6 + 1) (by have := i0; have := hm; have := gi_of_nle c2; have := gi_of_ne c6; have : (1 : Int32).toInt = 1 := rfl; have : (121 : Int32).toInt = 121 := rfl; have := fb_rng (x6); have := fb_rng (x4); (try have := fb_subI (x := x6) (y := x4) (by omega) (by omega)); have := fb_rng (x2); (try have := fb_addI (x := x6) (y := 1) (by omega) (by omega)); omega) (by have := i0; have := hm; have := gi_of_nle c2; have := gi_of_ne c6; have : (1 : Int32).toInt = 1 := rfl; have : (121 : Int32).toInt = 121 := rfl; have := fb_rng (x6); have := fb_rng (x4); (try have := fb_subI (x := x6) (y := x4) (by omega) (by omega)); have := fb_rng (x2); (try have := fb_addI (x := x6) (y := 1) (by omega) (by omega)); omega) (by have := i0; have := hm; have := gi_of_nle c2; have := gi_of_ne c6; have : (1 : Int32).toInt = 1 := rfl; have : (121 : Int32).toInt = 121 := rfl; have := fb_rng (x6); have := fb_rng (x4); (try have := fb_subI (x := x6) (y := x4) (by omega) (by omega)); have := fb_rng (x2); (try have := fb_addI (x := x6) (y := 1) (by omega) (by omega)); omega)
      · refine ok_if (fun c7 => ?_) (fun c7 => ?_)
        · unfold f_X7_wordKind_72
          unfold f_X7_wordKind_73
          unfold f_X7_wordKind_106
          exact ih_X7_wordKind_12 x3 x4 0 (x6 + 1) (by have := i0; have := hm; have := gi_of_nle c2; have : (1 : Int32).toInt = 1 := rfl; have : (121 : Int32).toInt = 121 := rfl; have := fb_rng (x6); (try have := fb_addI (x := x6) (y := 1) (by omega) (by omega)); omega) (by have := i0; have := hm; have := gi_of_nle c2; have : (1 : Int32).toInt = 1 := rfl; have : (121 : Int32).toInt = 121 := rfl; have := fb_rng (x6); (try have := fb_addI (x := x6) (y := 1) (by omega) (by omega)); omega) (by have := i0; have := hm; have := gi_of_nle c2; have : (1 : Int32).toInt = 1 := rfl; have : (121 : Int32).toInt = 121 := rfl; have := fb_rng (x6); (try have := fb_addI (x := x6) (y := 1) (by omega) (by omega)); omega)
        · refine ok_if (fun c8 => ?_) (fun c8 => ?_)
          · unfold f_X7_wordKind_72
            unfold f_X7_wordKind_73
            unfold f_X7_wordKind_106
            exact ih_X7_wordKind_12 x3 x4 0 (x6 + 1) (by have := i0; have := hm; have := gi_of_nle c2; have := gi_of_le c8; have : (1 : Int32).toInt = 1 := rfl; have : (121 : Int32).toInt = 121 := rfl; have := fb_rng (x6); have := fb_rng (x2); have := fb_rng (x4); (try have := fb_subI (x := x6) (y := x4) (by omega) (by omega)); (try have := fb_addI (x := x6) (y := 1) (by omega) (by omega)); omega) (by have := i0; have := hm; have := gi_of_nle c2; have := gi_of_le c8; have : (1 : Int32).toInt = 1 := rfl; have : (121 : Int32).toInt = 121 := rfl; have := fb_rng (x6); have := fb_rng (x2); have := fb_rng (x4); (try have := fb_subI (x := x6) (y := x4) (by omega) (by omega)); (try have := fb_addI (x := x6) (y := 1) (by omega) (by omega)); omega) (by have := i0; have := hm; have := gi_of_nle c2; have := gi_of_le c8; have : (1 : Int32).toInt = 1 := rfl; have : (121 : Int32).toInt = 121 := rfl; have := fb_rng (x6); have := fb_rng (x2); have := fb_rng (x4); (try have := fb_subI (x := x6) (y := x4) (by omega) (by omega)); (try have := fb_addI (x := x6) (y := 1) (by omega) (by omega)); omega)
          · refine ok_ob2 (u_X5_byteAt h ((x1 + x6) - x4) ((SC_refl hI)).1) (fun r9 h9 k9 => ?_)
            have e9 : h = h9 := k9.1.symm
            subst e9
            refine ok_if (fun c10 => ?_) (fun c10 => ?_)
            · unfold f_X7_wordKind_73
              unfold f_X7_wordKind_106
              exact ih_X7_wordKind_12 x3 x4 1 (x6 + 1) (by have := i0; have := hm; have := gi_of_nle c2; have := gi_of_nle c8; have : (1 : Int32).toInt = 1 := rfl; have : (121 : Int32).toInt = 121 := rfl; have := fb_rng (x6); have := fb_rng (x2); have := fb_rng (x4); (try have := fb_subI (x := x6) (y := x4) (by omega) (by omega)); (try have := fb_addI (x := x6) (y := 1) (by omega) (by omega)); omega) (by have := i0; have := hm; have := gi_of_nle c2; have := gi_of_nle c8; have : (1 : Int32).toInt = 1 := rfl; have : (121 : Int32).toInt = 121 := rfl; have := fb_rng (x6); have := fb_rng (x2); have := fb_rng (x4); (try have := fb_subI (x := x6) (y := x4) (by omega) (by omega)); (try have := fb_addI (x := x6) (y := 1) (by omega) (by omega)); omega) (by have := i0; have := hm; have := gi_of_nle c2; have := gi_of_nle c8; have : (1 : Int32).toInt = 1 := rfl; have : (121 : Int32).toInt = 121 := rfl; have := fb_rng (x6); have := fb_rng (x2); have := fb_rng (x4); (try have := fb_subI (x := x6) (y := x4) (by omega) (by omega)); (try have := fb_addI (x := x6) (y := 1) (by omega) (by omega)); omega)
            · unfold f_X7_wordKind_72
              unfold f_X7_wordKind_73
              unfold f_X7_wordKind_106
              exact ih_X7_wordKind_12 x3 x4 0 (x6 + 1) (by have := i0; have := hm; have := gi_of_nle c2; have := gi_of_nle c8; have : (1 : Int32).toInt = 1 := rfl; have : (121 : Int32).toInt = 121 := rfl; have := fb_rng (x6); have := fb_rng (x2); have := fb_rng (x4); (try have := fb_subI (x := x6) (y := x4) (by omega) (by omega)); (try have := fb_addI (x := x6) (y := 1) (by omega) (by omega)); omega) (by have := i0; have := hm; have := gi_of_nle c2; have := gi_of_nle c8; have : (1 : Int32).toInt = 1 := rfl; have : (121 : Int32).toInt = 121 := rfl; have := fb_rng (x6); have := fb_rng (x2); have := fb_rng (x4); (try have := fb_subI (x := x6) (y := x4) (by omega) (by omega)); (try have := fb_addI (x := x6) (y := 1) (by omega) (by omega)); omega) (by have := i0; have := hm; have := gi_of_nle c2; have := gi_of_nle c8; have : (1 : Int32).toInt = 1 := rfl; have : (121 : Int32).toInt = 121 := rfl; have := fb_rng (x6); have := fb_rng (x2); have := fb_rng (x4); (try have := fb_subI (x := x6) (y := x4) (by omega) (by omega)); (try have := fb_addI (x := x6) (y := 1) (by omega) (by omega)); omega)
theorem u_X7_wordKind (h : HS) (p1 : Int32) (p2 : Int32) (hI : IC h) : ok (f_X7_wordKind h p1 p2) (fun a => a.2 = h ∧ True) := by
  unfold f_X7_wordKind
  exact u_X7_wordKind_12 h p1 p2 ((SC_refl hI)).1 8589934592 16 0 1 0 (by have : (0 : Int32).toInt = 0 := rfl; omega) (by decide) (by have : (0 : Int32).toInt = 0 := rfl; omega)
theorem u_X7_splitWord_2 {h0 : HS} (x2 : Int32) : ∀ (n : Nat) (h : HS) (x3 : Int32), SC h0 h → 0 < n → (300 - (x3).toInt : Int) < (n : Int) → ok (f_X7_splitWord_2  n h x2 x3) (fun a => SC h0 a.2 ∧ True) := by
  intro n
  induction n with
  | zero =>
    intro h x3 hSC hn hm
    exact absurd hn (by decide)
  | succ n ih_X7_splitWord_2 =>
    intro h x3 hSC hn hm
    rw [f_X7_splitWord_2_s]
    refine ok_if (fun c1 => ?_) (fun c1 => ?_)
    · unfold f_X7_splitWord_27
      refine ok_ob2 (u_X7_wordKind h x2 (x3 - x2) (hSC).1) (fun r2 h2 k2 => ?_)
      have e2 : h = h2 := k2.1.symm
      subst e2
      refine ok_ob1 (u_X7_add h r2 x2 0 (hSC).1) (fun h3 k3 => ?_)
      have s3 : SC h0 h3 := SC_trans (b := h) hSC k3.1
      exact ok_some ⟨s3, trivial⟩
    · refine ok_ob2 (u_X5_byteAt h x3 (hSC).1) (fun r4 h4 k4 => ?_)
      have e4 : h = h4 := k4.1.symm
      subst e4
      refine ok_ob1 (u_X7_isAlpha r4) (fun r5 k5 => ?_)
      refine ok_if (fun c6 => ?_) (fun c6 => ?_)
      · unfold f_X7_splitWord_27
        refine ok_ob2 (u_X7_wordKind h x2 (x3 - x2) (hSC).1) (fun r7 h7 k7 => ?_)
        have e7 : h = h7 := k7.1.symm
        subst e7
        refine ok_ob1 (u_X7_add h r7 x2 0 (hSC).1) (fun h8 k8 => ?_)
        have s8 : SC h0 h8 := SC_trans (b := h) hSC k8.1
        exact ok_some ⟨s8, trivial⟩
      · exact ih_X7_splitWord_2 h (x3 + 1) hSC (by have := IC_n hSC.1; have := hm; have := gi_of_nle c1; have : (1 : Int32).toInt = 1 := rfl; have := fb_rng (eI h 3 1); have := fb_rng (x3); (try have := fb_addI (x := x3) (y := 1) (by omega) (by omega)); omega) (by have := IC_n hSC.1; have := hm; have := gi_of_nle c1; have : (1 : Int32).toInt = 1 := rfl; have := fb_rng (eI h 3 1); have := fb_rng (x3); (try have := fb_addI (x := x3) (y := 1) (by omega) (by omega)); omega)
theorem u_X7_splitWord (h : HS) (p1 : Int32) (hI : IC h) : ok (f_X7_splitWord h p1) (fun a => SC h a.2 ∧ True) := by
  unfold f_X7_splitWord
  exact u_X7_splitWord_2 (h0 := h) p1 8589934592 h p1 (SC_refl hI) (by decide) (by have := fb_rng (p1); omega)
theorem u_X7_split_14 {h0 : HS} : ∀ (n : Nat) (h : HS) (x2 : Int32) (x3 : Int32), SC h0 h → 0 < n → (300 - (x3).toInt : Int) < (n : Int) → ok (f_X7_split_14  n h x2 x3) (fun a => SC h0 a ∧ True) := by
  intro n
  induction n with
  | zero =>
    intro h x2 x3 hSC hn hm
    exact absurd hn (by decide)
  | succ n ih_X7_split_14 =>
    intro h x2 x3 hSC hn hm
    rw [f_X7_split_14_s]
    refine ok_if (fun c1 => ?_) (fun c1 => ?_)
    · unfold f_X7_split_99
      refine ok_ob1 (u_X7_add h 0 (eI h 3 1) 0 (hSC).1) (fun h2 k2 => ?_)
      have s2 : SC h0 h2 := SC_trans (b := h) hSC k2.1
      exact ok_some ⟨s2, trivial⟩
    · refine ok_if (fun c3 => ?_) (fun c3 => ?_)
      · unfold f_X7_split_99
        refine ok_ob1 (u_X7_add h 0 (eI h 3 1) 0 (hSC).1) (fun h4 k4 => ?_)
        have s4 : SC h0 h4 := SC_trans (b := h) hSC k4.1
        exact ok_some ⟨s4, trivial⟩
      · refine ok_ob2 (u_X5_byteAt h x2 (hSC).1) (fun r5 h5 k5 => ?_)
        have e5 : h = h5 := k5.1.symm
        subst e5
        refine ok_ob1 (u_X7_isBlank r5) (fun r6 k6 => ?_)
        refine ok_if (fun c7 => ?_) (fun c7 => ?_)
        · refine ok_ob1 (u_X7_isAlpha r5) (fun r8 k8 => ?_)
          refine ok_if (fun c9 => ?_) (fun c9 => ?_)
          · refine ok_ob1 (u_X7_isNumeral r5) (fun r10 k10 => ?_)
            refine ok_if (fun c11 => ?_) (fun c11 => ?_)
            · refine ok_ob2 (u_X7_splitSign h x2 (hSC).1) (fun r12 h12 k12 => ?_)
              have s12 : SC h0 h12 := SC_trans (b := h) hSC k12.1
              unfold f_X7_split_93
              exact ih_X7_split_14 h12 r12 (x3 + 1) s12 (by have := hm; have := gi_of_nle c1; have : (1 : Int32).toInt = 1 := rfl; have : (300 : Int32).toInt = 300 := rfl; have := fb_rng (x3); (try have := fb_addI (x := x3) (y := 1) (by omega) (by omega)); omega) (by have := hm; have := gi_of_nle c1; have : (1 : Int32).toInt = 1 := rfl; have : (300 : Int32).toInt = 300 := rfl; have := fb_rng (x3); (try have := fb_addI (x := x3) (y := 1) (by omega) (by omega)); omega)
            · refine ok_ob2 (u_X7_splitNumber h x2 (hSC).1) (fun r13 h13 k13 => ?_)
              have s13 : SC h0 h13 := SC_trans (b := h) hSC k13.1
              unfold f_X7_split_93
              exact ih_X7_split_14 h13 r13 (x3 + 1) s13 (by have := hm; have := gi_of_nle c1; have : (1 : Int32).toInt = 1 := rfl; have : (300 : Int32).toInt = 300 := rfl; have := fb_rng (x3); (try have := fb_addI (x := x3) (y := 1) (by omega) (by omega)); omega) (by have := hm; have := gi_of_nle c1; have : (1 : Int32).toInt = 1 := rfl; have : (300 : Int32).toInt = 300 := rfl; have := fb_rng (x3); (try have := fb_addI (x := x3) (y := 1) (by omega) (by omega)); omega)
          · refine ok_ob2 (u_X7_splitWord h x2 (hSC).1) (fun r14 h14 k14 => ?_)
            have s14 : SC h0 h14 := SC_trans (b := h) hSC k14.1
            unfold f_X7_split_93
            exact ih_X7_split_14 h14 r14 (x3 + 1) s14 (by have := hm; have := gi_of_nle c1; have : (1 : Int32).toInt = 1 := rfl; have : (300 : Int32).toInt = 300 := rfl; have := fb_rng (x3); (try have := fb_addI (x := x3) (y := 1) (by omega) (by omega)); omega) (by have := hm; have := gi_of_nle c1; have : (1 : Int32).toInt = 1 := rfl; have : (300 : Int32).toInt = 300 := rfl; have := fb_rng (x3); (try have := fb_addI (x := x3) (y := 1) (by omega) (by omega)); omega)
        · unfold f_X7_split_93
          exact ih_X7_split_14 h (x2 + 1) (x3 + 1) hSC (by have := hm; have := gi_of_nle c1; have : (1 : Int32).toInt = 1 := rfl; have : (300 : Int32).toInt = 300 := rfl; have := fb_rng (x3); (try have := fb_addI (x := x3) (y := 1) (by omega) (by omega)); omega) (by have := hm; have := gi_of_nle c1; have : (1 : Int32).toInt = 1 := rfl; have : (300 : Int32).toInt = 300 := rfl; have := fb_rng (x3); (try have := fb_addI (x := x3) (y := 1) (by omega) (by omega)); omega)
theorem u_X7_split (h : HS) (hI : IC h) : ok (f_X7_split h) (fun a => SC h a ∧ True) := by
  unfold f_X7_split
  exact u_X7_split_14 (h0 := h) 8589934592 (sI (sI h 4 4 0) 4 3 0) 0 0 (st_4_3 (c := (sI h 4 4 0)) (x := 0) (st_4_4 (c := h) (x := 0) (SC_refl hI) (by have : (0 : Int32).toInt = 0 := rfl; omega)) (by have : (0 : Int32).toInt = 0 := rfl; omega) (by have : (0 : Int32).toInt = 0 := rfl; omega)) (by decide) (by have : (0 : Int32).toInt = 0 := rfl; omega)
