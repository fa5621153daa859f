theorem u_X9_isTrue (h : HS) (p1 : Int32) (hI : IM h) (w0 : 0 ≤ p1.toInt ∧ p1.toInt ≤ 9) : ok (f_X9_isTrue h p1) (fun a => SM h a.2 ∧ (a.1 = 0 ∨ a.1 = 1)) := by
  unfold f_X9_isTrue
  refine ok_ob2 (u_X9_ofGoose h p1 2 ((SM_refl hI)).1 (by have := w0; have := fb_rng (p1); omega) (by have := w0; have : (2 : Int32).toInt = 2 := rfl; omega)) (fun r1 h1 k1 => ?_)
  have e1 : h = h1 := k1.1.symm
  subst e1
  refine ok_ob2 (u_X9_ofGoose h p1 3 ((SM_refl hI)).1 (by have := w0; have := fb_rng (p1); omega) (by have := w0; have : (3 : Int32).toInt = 3 := rfl; omega)) (fun r2 h2 k2 => ?_)
  have e2 : h = h2 := k2.1.symm
  subst e2
  refine ok_ob2 (u_X9_ofGoose h p1 1 ((SM_refl hI)).1 (by have := w0; have : -1 ≤ r2.toInt ∧ r2.toInt ≤ 2 := k2.2.2.1 rfl; have := fb_rng (p1); omega) (by have := w0; have : -1 ≤ r2.toInt ∧ r2.toInt ≤ 2 := k2.2.2.1 rfl; have : (1 : Int32).toInt = 1 := rfl; omega)) (fun r3 h3 k3 => ?_)
  have e3 : h = h3 := k3.1.symm
  subst e3
  refine ok_ob2 (u_X9_isTrueBy h p1 r1 r2 r3 ((SM_refl hI)).1 (by have := w0; have : -1 ≤ r2.toInt ∧ r2.toInt ≤ 2 := k2.2.2.1 rfl; have : 0 ≤ r3.toInt ∧ r3.toInt ≤ 99 := k3.2.1 rfl; have := fb_rng (p1); omega)) (fun r4 h4 k4 => ?_)
  have s4 : SM h h4 := SM_trans (b := h) (SM_refl hI) k4.1
  refine ok_chk (k4.2) ?_
  exact ok_some ⟨s4, k4.2⟩
theorem u_X9_comesThere (h : HS) (p1 : Int32) (hI : IM h) (w0 : 0 ≤ p1.toInt ∧ p1.toInt ≤ 9) : ok (f_X9_comesThere h p1) (fun a => SW h a ∧ True) := by
  unfold f_X9_comesThere
  refine ok_ob2 (u_X9_draw h ((SW_refl hI)).1) (fun r1 h1 k1 => ?_)
  have s1 : SW h h1 := SW_trans (b := h) (SW_refl hI) k1.1
  refine ok_ob2 (u_X9_marketOf h1 0 p1 (s1).1 (by have := w0; have : (0 : Int32).toInt = 0 := rfl; omega) (by have := w0; have := fb_rng (p1); omega)) (fun r2 h2 k2 => ?_)
  have s2 : SW h h2 := SW_trans (b := h1) s1 (SM_SW k2.1)
  refine ok_if (fun c3 => ?_) (fun c3 => ?_)
  · unfold f_X9_comesThere_50
    refine ok_ob1 (u_X9_puts h2 p1 4 2 (s2).1 (by have := w0; have := fb_rng (p1); omega) (by decide) (fun e => absurd e (by decide)) (fun e => absurd e (by decide))) (fun h4 k4 => ?_)
    have s4 : SW h h4 := SW_trans (b := h2) s2 k4.1
    refine ok_ob1 (u_X9_puts h4 p1 7 ((eA h4 0 0) 121) (s4).1 (by have := w0; have := fb_rng (p1); omega) (by decide) (fun e => absurd e (by decide)) (fun e => absurd e (by decide))) (fun h5 k5 => ?_)
    have s5 : SW h h5 := SW_trans (b := h4) s4 k5.1
    exact ok_some ⟨s5, trivial⟩
  · refine ok_ob2 (u_X9_ofGoose h2 p1 2 (s2).1 (by have := w0; have := fb_rng (p1); omega) (by have := w0; have : (2 : Int32).toInt = 2 := rfl; omega)) (fun r6 h6 k6 => ?_)
    have e6 : h2 = h6 := k6.1.symm
    subst e6
    refine ok_if (fun c7 => ?_) (fun c7 => ?_)
    · unfold f_X9_comesThere_50
      refine ok_ob1 (u_X9_puts h2 p1 4 3 (s2).1 (by have := w0; have := fb_rng (p1); omega) (by decide) (fun e => absurd e (by decide)) (fun e => absurd e (by decide))) (fun h8 k8 => ?_)
      have s8 : SW h h8 := SW_trans (b := h2) s2 k8.1
      refine ok_ob1 (u_X9_puts h8 p1 7 ((eA h8 0 0) 121) (s8).1 (by have := w0; have := fb_rng (p1); omega) (by decide) (fun e => absurd e (by decide)) (fun e => absurd e (by decide))) (fun h9 k9 => ?_)
      have s9 : SW h h9 := SW_trans (b := h8) s8 k9.1
      exact ok_some ⟨s9, trivial⟩
    · refine ok_ob2 (u_X9_draw h2 (s2).1) (fun r10 h10 k10 => ?_)
      have s10 : SW h h10 := SW_trans (b := h2) s2 k10.1
      refine ok_ob2 (u_X9_marketOf h10 1 p1 (s10).1 (by have := w0; have : (1 : Int32).toInt = 1 := rfl; omega) (by have := w0; have := fb_rng (p1); omega)) (fun r11 h11 k11 => ?_)
      have s11 : SW h h11 := SW_trans (b := h10) s10 (SM_SW k11.1)
      refine ok_if (fun c12 => ?_) (fun c12 => ?_)
      · unfold f_X9_comesThere_49
        unfold f_X9_comesThere_50
        refine ok_ob1 (u_X9_puts h11 p1 4 3 (s11).1 (by have := w0; have := fb_rng (p1); omega) (by decide) (fun e => absurd e (by decide)) (fun e => absurd e (by decide))) (fun h13 k13 => ?_)
        have s13 : SW h h13 := SW_trans (b := h11) s11 k13.1
        refine ok_ob1 (u_X9_puts h13 p1 7 ((eA h13 0 0) 121) (s13).1 (by have := w0; have := fb_rng (p1); omega) (by decide) (fun e => absurd e (by decide)) (fun e => absurd e (by decide))) (fun h14 k14 => ?_)
        have s14 : SW h h14 := SW_trans (b := h13) s13 k14.1
        exact ok_some ⟨s14, trivial⟩
      · unfold f_X9_comesThere_49
        unfold f_X9_comesThere_50
        refine ok_ob1 (u_X9_puts h11 p1 4 4 (s11).1 (by have := w0; have := fb_rng (p1); omega) (by decide) (fun e => absurd e (by decide)) (fun e => absurd e (by decide))) (fun h15 k15 => ?_)
        have s15 : SW h h15 := SW_trans (b := h11) s11 k15.1
        refine ok_ob1 (u_X9_puts h15 p1 7 ((eA h15 0 0) 121) (s15).1 (by have := w0; have := fb_rng (p1); omega) (by decide) (fun e => absurd e (by decide)) (fun e => absurd e (by decide))) (fun h16 k16 => ?_)
        have s16 : SW h h16 := SW_trans (b := h15) s15 k16.1
        exact ok_some ⟨s16, trivial⟩
theorem u_X9_hungers_100 {h0 : HS} (h : HS) (x2 y0 : Int32) (s : SW h0 h) (i0 : 0 ≤ x2.toInt) : ok (f_X9_hungers_100 h x2 y0 120) (fun a => SW h0 a ∧ True) := by
  unfold f_X9_hungers_100 f_X9_hungers_132
  have c120 : (120 : Int32).toNatClampNeg = 120 := by decide
  refine ok_chk (by decide) ?_
  rw [c120]
  have s1 : SW h0 (sA h 0 0 (upd (eA h 0 0) 120 y0)) := sw_row s (RO_free s.1.2.1 (by decide)) rfl rfl rfl
  refine ok_if (fun c => ok_some ⟨s1, trivial⟩) (fun c => ?_)
  have d : x2.toInt < (eA h 0 0 1).toInt := gi_of_nle c
  have hn := IM_n s.1
  have w : 0 ≤ x2.toInt ∧ x2.toInt ≤ 9 := by omega
  refine ok_ob1 (u_X9_puts _ x2 4 5 s1.1 w (by decide) (fun e => absurd e (by decide)) (fun e => absurd e (by decide))) (fun h12 k12 => ?_)
  have s12 := SW_trans s1 k12.1
  refine ok_ob1 (u_X9_puts _ x2 7 _ s12.1 w (by decide) (fun e => absurd e (by decide)) (fun e => absurd e (by decide))) (fun h13 k13 => ?_)
  exact ok_some ⟨SW_trans s12 k13.1, trivial⟩
theorem u_X9_hungers_74 {h0 : HS} (h : HS) (x2 : Int32) (s : SW h0 h) (i0 : 0 ≤ x2.toInt) : ok (f_X9_hungers_74 h x2) (fun a => SW h0 a ∧ True) := by
  unfold f_X9_hungers_74
  refine ok_if (fun c => u_X9_hungers_100 h x2 0 s i0) (fun c => ?_)
  have d := gi_of_nle c
  have hn := IM_n s.1
  refine ok_ob2 (u_X9_ofGoose h x2 0 s.1 (by omega) (by decide)) (fun r9 h9 k9 => ?_)
  have e1 : h = h9 := k9.1.symm
  subst e1
  exact u_X9_hungers_100 h x2 r9 s i0
theorem u_X9_hungers_38 {h0 : HS} : ∀ (n : Nat) (h : HS) (x2 : Int32), SW h0 h → 0 ≤ x2.toInt → 0 < n → (10 - (x2).toInt : Int) < (n : Int) → ok (f_X9_hungers_38 n h x2) (fun a => SW h0 a ∧ True) := by
  intro n
  induction n with
  | zero => intro h x2 s i0 hn hm; exact absurd hn (by decide)
  | succ n ih =>
    intro h x2 s i0 hn hm
    rw [f_X9_hungers_38_s]
    refine ok_if (fun c => u_X9_hungers_74 h x2 s i0) (fun c => ?_)
    have d := gi_of_nle c
    have hn := IM_n s.1
    have z1 : (1 : Int32).toInt = 1 := rfl
    have e := fb_addI (x := x2) (y := 1) (by omega) (by omega)
    refine ok_ob2 (u_X9_ofGoose h x2 4 s.1 (by omega) (by decide)) (fun r4 h4 k4 => ?_)
    have e1 : h = h4 := k4.1.symm
    subst e1
    refine ok_if (fun c => ?_) (fun c => ?_)
    · refine ok_ob2 (u_X9_ofGoose h x2 8 s.1 (by omega) (by decide)) (fun r6 h6 k6 => ?_)
      have e1 : h = h6 := k6.1.symm
      subst e1
      refine ok_if (fun c => ?_) (fun c => u_X9_hungers_74 h x2 s i0)
      unfold f_X9_hungers_68
      exact ih h (x2 + 1) s (by omega) (by omega) (by omega)
    · unfold f_X9_hungers_68
      exact ih h (x2 + 1) s (by omega) (by omega) (by omega)
theorem u_X9_hungers (h : HS) (hI : IM h) : ok (f_X9_hungers h) (fun a => SW h a ∧ True) := by
  unfold f_X9_hungers
  refine ok_ob2 (u_X9_geeseOf h 0 hI) (fun r1 h1 k1 => ?_)
  have e1 : h = h1 := k1.1.symm
  subst e1
  refine ok_if (fun c => u_X9_hungers_38 _ h 0 (SW_refl hI) (by decide) (by decide) (by have : (0 : Int32).toInt = 0 := rfl; omega)) (fun c => ?_)
  exact ok_some ⟨sw_row (SW_refl hI) (RO_free hI.2.1 (by decide)) rfl rfl rfl, trivial⟩
theorem u_X9_pass_51 {h0 : HS} (x1 : Int32) (x2 : Int32) {k33 : HS → Int32 → Int32 → Option (Int32 × HS)} (hk33 : ∀ h : HS, SW h0 h → ok (k33 h x1 (x2 + 1)) (fun a => SW h0 a.2 ∧ True)) : ∀ (n : Nat) (h : HS) (x3 : Int32), SW h0 h → 0 ≤ x3.toInt → 0 ≤ x2.toInt → x1.toInt ≤ 99 → x2.toInt < x1.toInt → 0 < n → (10 - (x3).toInt : Int) < (n : Int) → ok (f_X9_pass_51 k33 n h x1 x2 x3) (fun a => SW h0 a.2 ∧ True) := by
  intro n
  induction n with
  | zero =>
    intro h x3 hSC i0 i1 i2 i3 hn hm
    exact absurd hn (by decide)
  | succ n ih_X9_pass_51 =>
    intro h x3 hSC i0 i1 i2 i3 hn hm
    rw [f_X9_pass_51_s]
    refine ok_if (fun c1 => ?_) (fun c1 => ?_)
    · refine ok_ob1 (u_X9_hungers h (hSC).1) (fun h2 k2 => ?_)
      have s2 : SW h0 h2 := SW_trans (b := h) hSC k2.1
      exact hk33 h2 s2
    · refine ok_ob2 (u_X9_ofGoose h x3 4 (hSC).1 (by have := IM_n hSC.1; have := i0; have := i1; have := i2; have := i3; have := hm; have := gi_of_nle c1; have := fb_rng ((eA h 0 0) 1); have := fb_rng (x3); omega) (by have := i0; have := i1; have := i2; have := i3; have := hm; have : (4 : Int32).toInt = 4 := rfl; omega)) (fun r3 h3 k3 => ?_)
      have e3 : h = h3 := k3.1.symm
      subst e3
      refine ok_if (fun c4 => ?_) (fun c4 => ?_)
      · refine ok_ob2 (u_X9_ofGoose h x3 6 (hSC).1 (by have := IM_n hSC.1; have := i0; have := i1; have := i2; have := i3; have := hm; have := gi_of_nle c1; have := fb_rng ((eA h 0 0) 1); have := fb_rng (x3); omega) (by have := i0; have := i1; have := i2; have := i3; have := hm; have : (6 : Int32).toInt = 6 := rfl; omega)) (fun r5 h5 k5 => ?_)
        have e5 : h = h5 := k5.1.symm
        subst e5
        refine ok_if (fun c6 => ?_) (fun c6 => ?_)
        · refine ok_ob1 (u_X9_comesThere h x3 (hSC).1 (by have := IM_n hSC.1; have := i0; have := i1; have := i2; have := i3; have := hm; have := gi_of_nle c1; have := fb_rng ((eA h 0 0) 1); have := fb_rng (x3); omega)) (fun h7 k7 => ?_)
          have s7 : SW h0 h7 := SW_trans (b := h) hSC k7.1
          unfold f_X9_pass_93
          exact ih_X9_pass_51 h7 (x3 + 1) s7 (by have := IM_n hSC.1; have := i0; have := i1; have := i2; have := i3; have := hm; have := gi_of_nle c1; have : (1 : Int32).toInt = 1 := rfl; have := fb_rng ((eA h 0 0) 1); have := fb_rng (x3); (try have := fb_addI (x := x3) (y := 1) (by omega) (by omega)); omega) (by have := i0; have := i1; have := i2; have := i3; have := hm; have := fb_rng (x2); omega) (by have := i0; have := i1; have := i2; have := i3; have := hm; have := fb_rng (x1); omega) (by have := i0; have := i1; have := i2; have := i3; have := hm; have := fb_rng (x2); have := fb_rng (x1); omega) (by have := IM_n hSC.1; have := i0; have := i1; have := i2; have := i3; have := hm; have := gi_of_nle c1; have : (1 : Int32).toInt = 1 := rfl; have := fb_rng ((eA h 0 0) 1); have := fb_rng (x3); (try have := fb_addI (x := x3) (y := 1) (by omega) (by omega)); omega) (by have := IM_n hSC.1; have := i0; have := i1; have := i2; have := i3; have := hm; have := gi_of_nle c1; have : (1 : Int32).toInt = 1 := rfl; have := fb_rng ((eA h 0 0) 1); have := fb_rng (x3); (try have := fb_addI (x := x3) (y := 1) (by omega) (by omega)); omega)
        · unfold f_X9_pass_93
          exact ih_X9_pass_51 h (x3 + 1) hSC (by have := IM_n hSC.1; have := i0; have := i1; have := i2; have := i3; have := hm; have := gi_of_nle c1; have : (1 : Int32).toInt = 1 := rfl; have := fb_rng ((eA h 0 0) 1); have := fb_rng (x3); (try have := fb_addI (x := x3) (y := 1) (by omega) (by omega)); omega) (by have := i0; have := i1; have := i2; have := i3; have := hm; have := fb_rng (x2); omega) (by have := i0; have := i1; have := i2; have := i3; have := hm; have := fb_rng (x1); omega) (by have := i0; have := i1; have := i2; have := i3; have := hm; have := fb_rng (x2); have := fb_rng (x1); omega) (by have := IM_n hSC.1; have := i0; have := i1; have := i2; have := i3; have := hm; have := gi_of_nle c1; have : (1 : Int32).toInt = 1 := rfl; have := fb_rng ((eA h 0 0) 1); have := fb_rng (x3); (try have := fb_addI (x := x3) (y := 1) (by omega) (by omega)); omega) (by have := IM_n hSC.1; have := i0; have := i1; have := i2; have := i3; have := hm; have := gi_of_nle c1; have : (1 : Int32).toInt = 1 := rfl; have := fb_rng ((eA h 0 0) 1); have := fb_rng (x3); (try have := fb_addI (x := x3) (y := 1) (by omega) (by omega)); omega)
      · unfold f_X9_pass_93
        exact ih_X9_pass_51 h (x3 + 1) hSC (by have := IM_n hSC.1; have := i0; have := i1; have := i2; have := i3; have := hm; have := gi_of_nle c1; have : (1 : Int32).toInt = 1 := rfl; have := fb_rng ((eA h 0 0) 1); have := fb_rng (x3); (try have := fb_addI (x := x3) (y := 1) (by omega) (by omega)); omega) (by have := i0; have := i1; have := i2; have := i3; have := hm; have := fb_rng (x2); omega) (by have := i0; have := i1; have := i2; have := i3; have := hm; have := fb_rng (x1); omega) (by have := i0; have := i1; have := i2; have := i3; have := hm; have := fb_rng (x2); have := fb_rng (x1); omega) (by have := IM_n hSC.1; have := i0; have := i1; have := i2; have := i3; have := hm; have := gi_of_nle c1; have : (1 : Int32).toInt = 1 := rfl; have := fb_rng ((eA h 0 0) 1); have := fb_rng (x3); (try have := fb_addI (x := x3) (y := 1) (by omega) (by omega)); omega) (by have := IM_n hSC.1; have := i0; have := i1; have := i2; have := i3; have := hm; have := gi_of_nle c1; have : (1 : Int32).toInt = 1 := rfl; have := fb_rng ((eA h 0 0) 1); have := fb_rng (x3); (try have := fb_addI (x := x3) (y := 1) (by omega) (by omega)); omega)
theorem u_X9_pass_33 {h0 : HS} (x1 : Int32) : ∀ (n : Nat) (h : HS) (x2 : Int32), SW h0 h → 0 ≤ x2.toInt → x1.toInt ≤ 99 → 0 < n → (100 - (x2).toInt : Int) < (n : Int) → ok (f_X9_pass_33  n h x1 x2) (fun a => SW h0 a.2 ∧ True) := by
  intro n
  induction n with
  | zero =>
    intro h x2 hSC i0 i1 hn hm
    exact absurd hn (by decide)
  | succ n ih_X9_pass_33 =>
    intro h x2 hSC i0 i1 hn hm
    rw [f_X9_pass_33_s]
    refine ok_if (fun c1 => ?_) (fun c1 => ?_)
    · exact ok_some ⟨hSC, trivial⟩
    · exact u_X9_pass_51 (h0 := h0) x1 x2 (fun h_9 s_9 => ih_X9_pass_33 h_9 (x2 + 1) s_9 (by have := i0; have := i1; have := hm; have := gi_of_nle c1; have : (1 : Int32).toInt = 1 := rfl; have := fb_rng (x1); have := fb_rng (x2); (try have := fb_addI (x := x2) (y := 1) (by omega) (by omega)); omega) (by have := i0; have := i1; have := hm; have := gi_of_nle c1; have := fb_rng (x1); have := fb_rng (x2); omega) (by have := i0; have := i1; have := hm; have := gi_of_nle c1; have : (1 : Int32).toInt = 1 := rfl; have := fb_rng (x1); have := fb_rng (x2); (try have := fb_addI (x := x2) (y := 1) (by omega) (by omega)); omega) (by have := i0; have := i1; have := hm; have := gi_of_nle c1; have : (1 : Int32).toInt = 1 := rfl; have := fb_rng (x1); have := fb_rng (x2); (try have := fb_addI (x := x2) (y := 1) (by omega) (by omega)); omega)) 8589934592 (sA h 0 0 (upd (eA h 0 0) 121 (((eA h 0 0) 121) + 1))) 0 (sw_row (c := h) (f := (upd (eA h 0 0) 121 (((eA h 0 0) 121) + 1))) hSC (RO_free (i := 121) (v := (((eA h 0 0) 121) + 1)) hSC.1.2.1 (by decide)) rfl rfl rfl) (by have := i0; have := i1; have := hm; have : (0 : Int32).toInt = 0 := rfl; omega) (by have := i0; have := i1; have := hm; have := gi_of_nle c1; have := fb_rng (x1); have := fb_rng (x2); omega) (by have := i0; have := i1; have := hm; have := gi_of_nle c1; have := fb_rng (x1); have := fb_rng (x2); omega) (by have := i0; have := i1; have := hm; have := gi_of_nle c1; have := fb_rng (x1); have := fb_rng (x2); omega) (by decide) (by have := i0; have := i1; have := hm; have : (0 : Int32).toInt = 0 := rfl; omega)
theorem u_X9_pass (h : HS) (p1 : Int32) (hI : IM h) : ok (f_X9_pass h p1) (fun a => SW h a.2 ∧ True) := by
  unfold f_X9_pass
  refine ok_ob1 (u_X9_in p1 1 99) (fun r1 k1 => ?_)
  refine ok_if (fun c2 => ?_) (fun c2 => ?_)
  · unfold f_X9_pass_25
    exact ok_some ⟨(SW_refl hI), trivial⟩
  · refine ok_if (fun c3 => ?_) (fun c3 => ?_)
    · refine ok_ob1 (u_X9_keepsStep h ((SW_refl hI)).1) (fun h4 k4 => ?_)
      have s4 : SW h h4 := SW_trans (b := h) (SW_refl hI) k4.1
      exact u_X9_pass_33 (h0 := h) p1 8589934592 h4 0 s4 (by have : ((r1).toInt = 0 ∨ ((1 : Int32).toInt ≤ p1.toInt ∧ p1.toInt ≤ (99 : Int32).toInt)) := k1.2; have : (0 : Int32).toInt = 0 := rfl; have : (1 : Int32).toInt = 1 := rfl; have : (99 : Int32).toInt = 99 := rfl; omega) (by have := IM_n (SW_refl hI).1; have : ((r1).toInt = 0 ∨ ((1 : Int32).toInt ≤ p1.toInt ∧ p1.toInt ≤ (99 : Int32).toInt)) := k1.2; have := gi_of_ne c2; have := gi_of_le c3; have : (0 : Int32).toInt = 0 := rfl; have : (1 : Int32).toInt = 1 := rfl; have : (99 : Int32).toInt = 99 := rfl; have : (999 : Int32).toInt = 999 := rfl; have := fb_rng (r1); have := fb_rng ((eA h 0 0) 121); have := fb_rng (p1); (try have := fb_addI (x := ((eA h 0 0) 121)) (y := p1) (by omega) (by omega)); omega) (by decide) (by have : ((r1).toInt = 0 ∨ ((1 : Int32).toInt ≤ p1.toInt ∧ p1.toInt ≤ (99 : Int32).toInt)) := k1.2; have : (0 : Int32).toInt = 0 := rfl; have : (1 : Int32).toInt = 1 := rfl; have : (99 : Int32).toInt = 99 := rfl; omega)
    · unfold f_X9_pass_25
      exact ok_some ⟨(SW_refl hI), trivial⟩
theorem u_X9_played_21 {h0 : HS} (x1 : Int32) (w : 0 ≤ x1.toInt ∧ x1.toInt ≤ 3) : ∀ (n : Nat) (h : HS) (x2 : Int32), SW h0 h → 0 ≤ x2.toInt → 0 < n → (24 - (x2).toInt : Int) < (n : Int) → ok (f_X9_played_21 n h x1 x2) (fun a => SW h0 a.2 ∧ True) := by
  intro n
  induction n with
  | zero => intro h x2 s i0 hn hm; exact absurd hn (by decide)
  | succ n ih =>
    intro h x2 s i0 hn hm
    rw [f_X9_played_21_s]
    have tx := s.1.2.2.2.1 x1.toInt.toNat (by omega)
    have b1 : x1.toNatClampNeg = x1.toInt.toNat := by rw [Int32.toNatClampNeg]
    have z1 : (1 : Int32).toInt = 1 := rfl
    refine ok_chk (by omega) ?_
    rw [b1]
    refine ok_if (fun c => ok_some ⟨s, trivial⟩) (fun c => ?_)
    have d := gi_of_nle c
    have m1 : (24 * x1).toInt = 24 * x1.toInt := fb_mulJ rfl (by omega) (by omega)
    have a1 : (24 * x1 + x2).toInt = 24 * x1.toInt + x2.toInt := by rw [fb_addI (by omega) (by omega)]; omega
    have a2 := fb_addI (x := x2) (y := 1) (by omega) (by omega)
    have go : ∀ (h1 : HS) (y : Int32), SW h0 h1 → ok (f_X9_played_154 (f_X9_played_21 n) h1 x1 x2 y) (fun a => SW h0 a.2 ∧ True) := by
      intro h1 y s1
      unfold f_X9_played_154
      exact ok_if (fun c => ok_some ⟨s1, trivial⟩) (fun c => ih h1 (x2 + 1) s1 (by omega) (by omega) (by omega))
    have ck : 0 ≤ (24 * x1 + x2).toInt ∧ (24 * x1 + x2).toInt < 96 := by omega
    refine ok_chk ck ?_
    refine ok_if (fun c => ?_) (fun c => ?_)
    · refine ok_chk ck (ok_chk ck (ok_chk ck ?_))
      exact ok_ob2 (u_X9_fill h _ _ _ s.1) (fun r h1 k => go h1 r (SW_trans s k.1))
    refine ok_if (fun c => ?_) (fun c => ?_)
    · refine ok_chk ck (ok_chk ck ?_)
      exact ok_ob2 (u_X9_send h _ _ s.1) (fun r h1 k => go h1 r (SW_trans s k.1))
    refine ok_if (fun c => ?_) (fun c => ?_)
    · refine ok_chk ck ?_
      exact ok_ob2 (u_X9_fatten h _ s.1) (fun r h1 k => go h1 r (SW_trans s k.1))
    refine ok_if (fun c => ?_) (fun c => ?_)
    · refine ok_chk ck ?_
      exact ok_ob2 (u_X9_pass h _ s.1) (fun r h1 k => go h1 r (SW_trans s k.1))
    exact go h 0 s
theorem u_X9_played (h : HS) (p1 : Int32) (hI : IM h) : ok (f_X9_played h p1) (fun a => SW h a.2 ∧ True) := by
  unfold f_X9_played
  have hn := IM_n hI
  refine ok_ob1 (u_X9_in p1 0 _) (fun r k => ?_)
  refine ok_if (fun c => ok_some ⟨SW_refl hI, trivial⟩) (fun c => ?_)
  have z0 : (0 : Int32).toInt = 0 := rfl; have z1 : (1 : Int32).toInt = 1 := rfl
  have e := fb_subI (x := eA h 0 0 3) (y := 1) (by omega) (by omega)
  have := k.2; have := gi_of_ne c
  exact u_X9_played_21 p1 (by omega) _ h 0 (SW_refl hI) (by decide) (by decide) (by omega)
theorem u_X9_of (h : HS) (p1 : Int32) (p2 : Int32) (hI : IM h) : ok (f_X9_of h p1 p2) (fun a => SM h a.2 ∧ True) := by
  unfold f_X9_of
  refine ok_ob2 (u_X9_isGoose h p1 ((SM_refl hI)).1) (fun r1 h1 k1 => ?_)
  have e1 : h = h1 := k1.1.symm
  subst e1
  refine ok_if (fun c2 => ?_) (fun c2 => ?_)
  · unfold f_X9_of_18
    exact ok_some ⟨(SM_refl hI), trivial⟩
  · refine ok_ob1 (u_X9_in p2 0 9) (fun r3 k3 => ?_)
    refine ok_if (fun c4 => ?_) (fun c4 => ?_)
    · unfold f_X9_of_18
      exact ok_some ⟨(SM_refl hI), trivial⟩
    · refine ok_if (fun c5 => ?_) (fun c5 => ?_)
      · refine ok_ob2 (u_X9_isTrue h p1 ((SM_refl hI)).1 (by have := IM_n (SM_refl hI).1; have : ((r1).toInt = 0 ∨ (0 ≤ p1.toInt ∧ p1.toInt < ((eA h 0 0) 1).toInt)) := k1.2.2; have : ((r3).toInt = 0 ∨ ((0 : Int32).toInt ≤ p2.toInt ∧ p2.toInt ≤ (9 : Int32).toInt)) := k3.2; have := gi_of_ne c2; have : (0 : Int32).toInt = 0 := rfl; have : (9 : Int32).toInt = 9 := rfl; have := fb_rng (r1); have := fb_rng (p1); omega)) (fun r6 h6 k6 => ?_)
        have s6 : SM h h6 := SM_trans (b := h) (SM_refl hI) k6.1
        refine ok_if (fun c7 => ?_) (fun c7 => ?_)
        · unfold f_X9_of_47
          exact ok_some ⟨s6, trivial⟩
        · unfold f_X9_of_47
          exact ok_some ⟨s6, trivial⟩
      · refine ok_ob2 (u_X9_ofGoose h p1 p2 ((SM_refl hI)).1 (by have := IM_n (SM_refl hI).1; have : ((r1).toInt = 0 ∨ (0 ≤ p1.toInt ∧ p1.toInt < ((eA h 0 0) 1).toInt)) := k1.2.2; have : ((r3).toInt = 0 ∨ ((0 : Int32).toInt ≤ p2.toInt ∧ p2.toInt ≤ (9 : Int32).toInt)) := k3.2; have := gi_of_ne c2; have : (0 : Int32).toInt = 0 := rfl; have : (9 : Int32).toInt = 9 := rfl; have := fb_rng (r1); have := fb_rng (p1); omega) (by have := IM_n (SM_refl hI).1; have : ((r1).toInt = 0 ∨ (0 ≤ p1.toInt ∧ p1.toInt < ((eA h 0 0) 1).toInt)) := k1.2.2; have : ((r3).toInt = 0 ∨ ((0 : Int32).toInt ≤ p2.toInt ∧ p2.toInt ≤ (9 : Int32).toInt)) := k3.2; have := gi_of_ne c4; have := gi_of_nle c5; have : (0 : Int32).toInt = 0 := rfl; have : (9 : Int32).toInt = 9 := rfl; have := fb_rng (r3); have := fb_rng (p2); omega)) (fun r8 h8 k8 => ?_)
        have e8 : h = h8 := k8.1.symm
        subst e8
        exact ok_some ⟨(SM_refl hI), trivial⟩
theorem u_X9_brought (h : HS) (p1 : Int32) (p2 : Int32) (p3 : Int32) (p4 : Int32) (hI : IM h) (w0 : 0 ≤ p1.toInt ∧ p1.toInt ≤ 9) : ok (f_X9_brought h p1 p2 p3 p4) (fun a => SM h a.2 ∧ True) := by
  unfold f_X9_brought
  refine ok_ob2 (u_X9_ofGoose h p1 2 ((SM_refl hI)).1 (by have := w0; have := fb_rng (p1); omega) (by have := w0; have : (2 : Int32).toInt = 2 := rfl; omega)) (fun r1 h1 k1 => ?_)
  have e1 : h = h1 := k1.1.symm
  subst e1
  refine ok_if (fun c2 => ?_) (fun c2 => ?_)
  · refine ok_ob2 (u_X9_ofGoose h p1 7 ((SM_refl hI)).1 (by have := w0; have := fb_rng (p1); omega) (by have := w0; have : (7 : Int32).toInt = 7 := rfl; omega)) (fun r3 h3 k3 => ?_)
    have e3 : h = h3 := k3.1.symm
    subst e3
    refine ok_if (fun c4 => ?_) (fun c4 => ?_)
    · unfold f_X9_brought_51
      exact ok_some ⟨(SM_refl hI), trivial⟩
    · refine ok_ob2 (u_X9_ofGoose h p1 7 ((SM_refl hI)).1 (by have := w0; have := fb_rng (p1); omega) (by have := w0; have : (7 : Int32).toInt = 7 := rfl; omega)) (fun r5 h5 k5 => ?_)
      have e5 : h = h5 := k5.1.symm
      subst e5
      refine ok_if (fun c6 => ?_) (fun c6 => ?_)
      · unfold f_X9_brought_51
        exact ok_some ⟨(SM_refl hI), trivial⟩
      · refine ok_ob2 (u_X9_ofGoose h p1 4 ((SM_refl hI)).1 (by have := w0; have := fb_rng (p1); omega) (by have := w0; have : (4 : Int32).toInt = 4 := rfl; omega)) (fun r7 h7 k7 => ?_)
        have e7 : h = h7 := k7.1.symm
        subst e7
        refine ok_if (fun c8 => ?_) (fun c8 => ?_)
        · unfold f_X9_brought_48
          refine ok_if (fun c9 => ?_) (fun c9 => ?_)
          · refine ok_if (fun c10 => ?_) (fun c10 => ?_)
            · refine ok_ob2 (u_X9_isTrue h p1 ((SM_refl hI)).1 (by have := w0; have := fb_rng (p1); omega)) (fun r11 h11 k11 => ?_)
              have s11 : SM h h11 := SM_trans (b := h) (SM_refl hI) k11.1
              refine ok_if (fun c12 => ?_) (fun c12 => ?_)
              · unfold f_X9_brought_79
                exact ok_some ⟨s11, trivial⟩
              · unfold f_X9_brought_66
                refine ok_ob2 (u_X9_ofGoose h11 p1 3 (s11).1 (by have := w0; have := fb_rng (p1); omega) (by have := w0; have : (3 : Int32).toInt = 3 := rfl; omega)) (fun r13 h13 k13 => ?_)
                have e13 : h11 = h13 := k13.1.symm
                subst e13
                refine ok_ob1 (u_X9_halves r13) (fun r14 k14 => ?_)
                unfold f_X9_brought_79
                exact ok_some ⟨s11, trivial⟩
            · unfold f_X9_brought_66
              refine ok_ob2 (u_X9_ofGoose h p1 3 ((SM_refl hI)).1 (by have := w0; have := fb_rng (p1); omega) (by have := w0; have : (3 : Int32).toInt = 3 := rfl; omega)) (fun r15 h15 k15 => ?_)
              have e15 : h = h15 := k15.1.symm
              subst e15
              refine ok_ob1 (u_X9_halves r15) (fun r16 k16 => ?_)
              unfold f_X9_brought_79
              exact ok_some ⟨(SM_refl hI), trivial⟩
          · unfold f_X9_brought_51
            exact ok_some ⟨(SM_refl hI), trivial⟩
        · unfold f_X9_brought_48
          refine ok_if (fun c17 => ?_) (fun c17 => ?_)
          · refine ok_if (fun c18 => ?_) (fun c18 => ?_)
            · refine ok_ob2 (u_X9_isTrue h p1 ((SM_refl hI)).1 (by have := w0; have := fb_rng (p1); omega)) (fun r19 h19 k19 => ?_)
              have s19 : SM h h19 := SM_trans (b := h) (SM_refl hI) k19.1
              refine ok_if (fun c20 => ?_) (fun c20 => ?_)
              · unfold f_X9_brought_79
                exact ok_some ⟨s19, trivial⟩
              · unfold f_X9_brought_66
                refine ok_ob2 (u_X9_ofGoose h19 p1 3 (s19).1 (by have := w0; have := fb_rng (p1); omega) (by have := w0; have : (3 : Int32).toInt = 3 := rfl; omega)) (fun r21 h21 k21 => ?_)
                have e21 : h19 = h21 := k21.1.symm
                subst e21
                refine ok_ob1 (u_X9_halves r21) (fun r22 k22 => ?_)
                unfold f_X9_brought_79
                exact ok_some ⟨s19, trivial⟩
            · unfold f_X9_brought_66
              refine ok_ob2 (u_X9_ofGoose h p1 3 ((SM_refl hI)).1 (by have := w0; have := fb_rng (p1); omega) (by have := w0; have : (3 : Int32).toInt = 3 := rfl; omega)) (fun r23 h23 k23 => ?_)
              have e23 : h = h23 := k23.1.symm
              subst e23
              refine ok_ob1 (u_X9_halves r23) (fun r24 k24 => ?_)
              unfold f_X9_brought_79
              exact ok_some ⟨(SM_refl hI), trivial⟩
          · unfold f_X9_brought_51
            exact ok_some ⟨(SM_refl hI), trivial⟩
  · unfold f_X9_brought_51
    exact ok_some ⟨(SM_refl hI), trivial⟩
theorem u_X9_knownBy_6 {h0 : HS} (x1 : Int32) (x2 : Int32) (x3 : Int32) : ∀ (n : Nat) (h : HS) (x4 : Int32) (x5 : Int32), SM h0 h → 0 ≤ x5.toInt → 0 < n → (10 - (x5).toInt : Int) < (n : Int) → ok (f_X9_knownBy_6  n h x1 x2 x3 x4 x5) (fun a => SM h0 a.2 ∧ True) := by
  intro n
  induction n with
  | zero =>
    intro h x4 x5 hSC i0 hn hm
    exact absurd hn (by decide)
  | succ n ih_X9_knownBy_6 =>
    intro h x4 x5 hSC i0 hn hm
    rw [f_X9_knownBy_6_s]
    refine ok_if (fun c1 => ?_) (fun c1 => ?_)
    · exact ok_some ⟨hSC, trivial⟩
    · refine ok_ob2 (u_X9_brought h x5 x1 x2 x3 (hSC).1 (by have := IM_n hSC.1; have := i0; have := hm; have := gi_of_nle c1; have := fb_rng ((eA h 0 0) 1); have := fb_rng (x5); omega)) (fun r2 h2 k2 => ?_)
      have s2 : SM h0 h2 := SM_trans (b := h) hSC k2.1
      exact ih_X9_knownBy_6 h2 (x4 ||| r2) (x5 + 1) s2 (by have := IM_n hSC.1; have := i0; have := hm; have := gi_of_nle c1; have : (1 : Int32).toInt = 1 := rfl; have := fb_rng ((eA h 0 0) 1); have := fb_rng (x5); (try have := fb_addI (x := x5) (y := 1) (by omega) (by omega)); omega) (by have := IM_n hSC.1; have := i0; have := hm; have := gi_of_nle c1; have : (1 : Int32).toInt = 1 := rfl; have := fb_rng ((eA h 0 0) 1); have := fb_rng (x5); (try have := fb_addI (x := x5) (y := 1) (by omega) (by omega)); omega) (by have := IM_n hSC.1; have := i0; have := hm; have := gi_of_nle c1; have : (1 : Int32).toInt = 1 := rfl; have := fb_rng ((eA h 0 0) 1); have := fb_rng (x5); (try have := fb_addI (x := x5) (y := 1) (by omega) (by omega)); omega)
theorem u_X9_knownBy (h : HS) (p1 : Int32) (p2 : Int32) (p3 : Int32) (hI : IM h) : ok (f_X9_knownBy h p1 p2 p3) (fun a => SM h a.2 ∧ True) := by
  unfold f_X9_knownBy
  exact u_X9_knownBy_6 (h0 := h) p1 p2 p3 8589934592 h 0 0 (SM_refl hI) (by have : (0 : Int32).toInt = 0 := rfl; omega) (by decide) (by have : (0 : Int32).toInt = 0 := rfl; omega)
theorem u_X9_known (h : HS) (p1 : Int32) (p2 : Int32) (hI : IM h) : ok (f_X9_known h p1 p2) (fun a => SM h a.2 ∧ True) := by
  unfold f_X9_known
  refine ok_ob1 (u_X9_isLetterNumber p1) (fun r1 k1 => ?_)
  refine ok_if (fun c2 => ?_) (fun c2 => ?_)
  · unfold f_X9_known_18
    exact ok_some ⟨(SM_refl hI), trivial⟩
  · refine ok_ob1 (u_X9_in p2 0 999) (fun r3 k3 => ?_)
    refine ok_if (fun c4 => ?_) (fun c4 => ?_)
    · unfold f_X9_known_18
      exact ok_some ⟨(SM_refl hI), trivial⟩
    · refine ok_ob2 (u_X9_knownBy h p1 p2 0 ((SM_refl hI)).1) (fun r5 h5 k5 => ?_)
      have s5 : SM h h5 := SM_trans (b := h) (SM_refl hI) k5.1
      refine ok_if (fun c6 => ?_) (fun c6 => ?_)
      · unfold f_X9_known_36
        refine ok_ob2 (u_X9_knownBy h5 p1 p2 1 (s5).1) (fun r7 h7 k7 => ?_)
        have s7 : SM h h7 := SM_trans (b := h5) s5 k7.1
        refine ok_if (fun c8 => ?_) (fun c8 => ?_)
        · unfold f_X9_known_52
          exact ok_some ⟨s7, trivial⟩
        · unfold f_X9_known_52
          exact ok_some ⟨s7, trivial⟩
      · unfold f_X9_known_36
        refine ok_ob2 (u_X9_knownBy h5 p1 p2 1 (s5).1) (fun r9 h9 k9 => ?_)
        have s9 : SM h h9 := SM_trans (b := h5) s5 k9.1
        refine ok_if (fun c10 => ?_) (fun c10 => ?_)
        · unfold f_X9_known_52
          exact ok_some ⟨s9, trivial⟩
        · unfold f_X9_known_52
          exact ok_some ⟨s9, trivial⟩
theorem u_X9_led_25 {h0 : HS} (x1 x2 x4 : Int32) (i4 : 0 ≤ x4.toInt) {k14 : HS → Int32 → Int32 → Int32 → Int32 → Option (Int32 × HS)} (hk : ∀ (h : HS) (x3 : Int32), SM h0 h → ok (k14 h x1 x2 x3 (x4 + 1)) (fun a => SM h0 a.2 ∧ (a.1.toInt = -1 ∨ (0 ≤ a.1.toInt ∧ a.1.toInt ≤ 9)))) : ∀ (n : Nat) (h : HS) (x3 x5 : Int32), SM h0 h → 0 ≤ x5.toInt → 0 < n → (10 - (x5).toInt : Int) < (n : Int) → ok (f_X9_led_25 k14 n h x1 x2 x3 x4 x5) (fun a => SM h0 a.2 ∧ (a.1.toInt = -1 ∨ (0 ≤ a.1.toInt ∧ a.1.toInt ≤ 9))) := by
  intro n
  induction n with
  | zero => intro h x3 x5 s i0 hn hm; exact absurd hn (by decide)
  | succ n ih =>
    intro h x3 x5 s i0 hn hm
    rw [f_X9_led_25_s]
    unfold f_X9_led_70
    refine ok_if (fun c => hk h x3 s) (fun c => ?_)
    have d := gi_of_nle c
    have hn := IM_n s.1
    have z1 : (1 : Int32).toInt = 1 := rfl
    have e := fb_addI (x := x5) (y := 1) (by omega) (by omega)
    refine ok_ob2 (u_X9_ofGoose h x5 7 s.1 (by omega) (by decide)) (fun r4 h4 k4 => ?_)
    have e1 : h = h4 := k4.1.symm
    subst e1
    refine ok_if (fun c => ?_) (fun c => ih h x3 (x5 + 1) s (by omega) (by omega) (by omega))
    refine ok_ob2 (u_X9_brought h x5 x1 x4 x2 s.1 (by omega)) (fun r7 h7 k7 => ?_)
    have s7 := SM_trans s k7.1
    exact ok_if (fun c => ok_some ⟨s7, Or.inr (by show 0 ≤ x5.toInt ∧ x5.toInt ≤ 9; omega)⟩) (fun c => ih h7 _ (x5 + 1) s7 (by omega) (by omega) (by omega))
theorem u_X9_led_14 {h0 : HS} (x1 x2 : Int32) : ∀ (n : Nat) (h : HS) (x3 x4 : Int32), SM h0 h → 0 ≤ x4.toInt → 0 < n → (1000 - (x4).toInt : Int) < (n : Int) → ok (f_X9_led_14 n h x1 x2 x3 x4) (fun a => SM h0 a.2 ∧ (a.1.toInt = -1 ∨ (0 ≤ a.1.toInt ∧ a.1.toInt ≤ 9))) := by
  intro n
  induction n with
  | zero => intro h x3 x4 s i0 hn hm; exact absurd hn (by decide)
  | succ n ih =>
    intro h x3 x4 s i0 hn hm
    rw [f_X9_led_14_s]
    refine ok_if (fun c => ok_some ⟨s, Or.inl rfl⟩) (fun c => ?_)
    have d := gi_of_nle c
    have z1 : (1 : Int32).toInt = 1 := rfl; have z1000 : (1000 : Int32).toInt = 1000 := rfl
    have e := fb_addI (x := x4) (y := 1) (by omega) (by omega)
    exact u_X9_led_25 x1 x2 x4 i0 (fun h y s => ih h y (x4 + 1) s (by omega) (by omega) (by omega)) _ h x3 0 s (by decide) (by decide) (by have : (0 : Int32).toInt = 0 := rfl; omega)
theorem u_X9_led (h : HS) (p1 p2 : Int32) (hI : IM h) : ok (f_X9_led h p1 p2) (fun a => SM h a.2 ∧ (a.1.toInt = -1 ∨ (0 ≤ a.1.toInt ∧ a.1.toInt ≤ 9))) := by
  unfold f_X9_led
  refine ok_ob1 (u_X9_isLetterNumber p1) (fun r1 k1 => ?_)
  exact ok_if (fun c => ok_some ⟨SM_refl hI, Or.inl rfl⟩) (fun c => u_X9_led_14 p1 p2 _ h 0 0 (SM_refl hI) (by decide) (by decide) (by have : (0 : Int32).toInt = 0 := rfl; omega))
