theorem u_X0_add_129 {h0 : HS} (x4 : Int32) (x5 : Int32) (x7 : Int32) (x8 : Int32) : ∀ (n : Nat) (h : HS) (x9 : Int32), SC h0 h → 0 ≤ x9.toInt → (0 ≤ x4.toInt ∧ x4.toInt ≤ 3) → (0 ≤ x5.toInt ∧ x5.toInt ≤ 3) → 0 < n → (16 - (x9).toInt : Int) < (n : Int) → ok (f_X0_add_129  n h x4 x5 x7 x8 x9) (fun a => SC h0 a ∧ True) := by
  intro n
  induction n with
  | zero =>
    intro h x9 hSC i0 i1 i2 hn hm
    exact absurd hn (by decide)
  | succ n ih_X0_add_129 =>
    intro h x9 hSC i0 i1 i2 hn hm
    rw [f_X0_add_129_s]
    refine ok_if (fun c1 => ?_) (fun c1 => ?_)
    · exact ok_some ⟨hSC, trivial⟩
    · refine ok_chk (by have := i0; have := i1; have := i2; have := hm; have := gi_of_nle c1; have : (16 : Int32).toInt = 16 := rfl; have : (4 : Int32).toInt = 4 := rfl; have := fb_rng (x9); have := fb_rng (x5); (try have := fb_mulK (x := x5) (y := 4) (k := 4) rfl (by omega) (by omega)); (try have := fb_or4 (x := x9) (y := (x5 * 4)) (by omega) (by omega) (by omega) (by omega)); omega) ?_
      refine ok_chk (by have := i0; have := i1; have := i2; have := hm; have := gi_of_nle c1; have : (16 : Int32).toInt = 16 := rfl; have := fb_rng (x9); omega) ?_
      refine ok_chk (by have := i0; have := i1; have := i2; have := hm; have := gi_of_nle c1; have : (16 : Int32).toInt = 16 := rfl; have : (4 : Int32).toInt = 4 := rfl; have := fb_rng (x9); have := fb_rng (x5); (try have := fb_mulK (x := x5) (y := 4) (k := 4) rfl (by omega) (by omega)); (try have := fb_or4 (x := x9) (y := (x5 * 4)) (by omega) (by omega) (by omega) (by omega)); omega) ?_
      refine ok_chk (by have := i0; have := i1; have := i2; have := hm; have := gi_of_nle c1; have : (16 : Int32).toInt = 16 := rfl; have := fb_rng (x9); have := fb_rng (x4); (try have := fb_or4 (x := x9) (y := x4) (by omega) (by omega) (by omega) (by omega)); omega) ?_
      refine ok_chk (by have := i0; have := i1; have := i2; have := hm; have := gi_of_nle c1; have : (16 : Int32).toInt = 16 := rfl; have := fb_rng (x9); omega) ?_
      refine ok_chk (by have := i0; have := i1; have := i2; have := hm; have := gi_of_nle c1; have : (16 : Int32).toInt = 16 := rfl; have := fb_rng (x9); have := fb_rng (x4); (try have := fb_or4 (x := x9) (y := x4) (by omega) (by omega) (by omega) (by omega)); omega) ?_
      exact ih_X0_add_129 (sJ (sJ h 7 3 (vp_updL (eJ h 7 3) (((x9 ||| (x5 * 4))).toNatClampNeg) (((eJ h 7 3) (((x9 ||| (x5 * 4))).toNatClampNeg)) + (((eJ h 7 2) ((x9).toNatClampNeg)) * ((x8).toInt64))))) 7 3 (vp_updL (vp_updL (eJ h 7 3) (((x9 ||| (x5 * 4))).toNatClampNeg) (((eJ h 7 3) (((x9 ||| (x5 * 4))).toNatClampNeg)) + (((eJ h 7 2) ((x9).toNatClampNeg)) * ((x8).toInt64)))) (((x9 ||| x4)).toNatClampNeg) (((vp_updL (eJ h 7 3) (((x9 ||| (x5 * 4))).toNatClampNeg) (((eJ h 7 3) (((x9 ||| (x5 * 4))).toNatClampNeg)) + (((eJ h 7 2) ((x9).toNatClampNeg)) * ((x8).toInt64)))) (((x9 ||| x4)).toNatClampNeg)) + (((eJ h 7 2) ((x9).toNatClampNeg)) * ((x7).toInt64))))) (x9 + 1) hSC (by have := i0; have := i1; have := i2; have := hm; have := gi_of_nle c1; have : (1 : Int32).toInt = 1 := rfl; have : (16 : Int32).toInt = 16 := rfl; have := fb_rng (x9); (try have := fb_addI (x := x9) (y := 1) (by omega) (by omega)); omega) (by have := i0; have := i1; have := i2; have := hm; have := fb_rng (x4); omega) (by have := i0; have := i1; have := i2; have := hm; have := fb_rng (x5); omega) (by have := i0; have := i1; have := i2; have := hm; have := gi_of_nle c1; have : (1 : Int32).toInt = 1 := rfl; have : (16 : Int32).toInt = 16 := rfl; have := fb_rng (x9); (try have := fb_addI (x := x9) (y := 1) (by omega) (by omega)); omega) (by have := i0; have := i1; have := i2; have := hm; have := gi_of_nle c1; have : (1 : Int32).toInt = 1 := rfl; have : (16 : Int32).toInt = 16 := rfl; have := fb_rng (x9); (try have := fb_addI (x := x9) (y := 1) (by omega) (by omega)); omega)
theorem u_X0_add_86 {h0 : HS} (x4 : Int32) (x5 : Int32) (x7 : Int32) (x8 : Int32) : ∀ (n : Nat) (h : HS) (x9 : Int32), SC h0 h → 0 ≤ x9.toInt → (0 ≤ x4.toInt ∧ x4.toInt ≤ 3) → (0 ≤ x5.toInt ∧ x5.toInt ≤ 3) → 0 < n → (16 - (x9).toInt : Int) < (n : Int) → ok (f_X0_add_86  n h x4 x5 x7 x8 x9) (fun a => SC h0 a ∧ True) := by
  intro n
  induction n with
  | zero =>
    intro h x9 hSC i0 i1 i2 hn hm
    exact absurd hn (by decide)
  | succ n ih_X0_add_86 =>
    intro h x9 hSC i0 i1 i2 hn hm
    rw [f_X0_add_86_s]
    refine ok_if (fun c1 => ?_) (fun c1 => ?_)
    · exact u_X0_add_129 (h0 := h0) x4 x5 x7 x8 8589934592 h 0 hSC (by have := i0; have := i1; have := i2; have := hm; have : (0 : Int32).toInt = 0 := rfl; omega) (by have := i0; have := i1; have := i2; have := hm; have := fb_rng (x4); omega) (by have := i0; have := i1; have := i2; have := hm; have := fb_rng (x5); omega) (by decide) (by have := i0; have := i1; have := i2; have := hm; have : (0 : Int32).toInt = 0 := rfl; omega)
    · refine ok_chk (by have := i0; have := i1; have := i2; have := hm; have := gi_of_nle c1; have : (16 : Int32).toInt = 16 := rfl; have := fb_rng (x9); omega) ?_
      refine ok_chk (by have := i0; have := i1; have := i2; have := hm; have := gi_of_nle c1; have : (16 : Int32).toInt = 16 := rfl; have := fb_rng (x9); omega) ?_
      exact ih_X0_add_86 (sJ h 7 3 (vp_updL (eJ h 7 3) ((x9).toNatClampNeg) (((eJ h 7 2) ((x9).toNatClampNeg)) * ((((100 - x8) - x7)).toInt64)))) (x9 + 1) hSC (by have := i0; have := i1; have := i2; have := hm; have := gi_of_nle c1; have : (1 : Int32).toInt = 1 := rfl; have : (16 : Int32).toInt = 16 := rfl; have := fb_rng (x9); (try have := fb_addI (x := x9) (y := 1) (by omega) (by omega)); omega) (by have := i0; have := i1; have := i2; have := hm; have := fb_rng (x4); omega) (by have := i0; have := i1; have := i2; have := hm; have := fb_rng (x5); omega) (by have := i0; have := i1; have := i2; have := hm; have := gi_of_nle c1; have : (1 : Int32).toInt = 1 := rfl; have : (16 : Int32).toInt = 16 := rfl; have := fb_rng (x9); (try have := fb_addI (x := x9) (y := 1) (by omega) (by omega)); omega) (by have := i0; have := i1; have := i2; have := hm; have := gi_of_nle c1; have : (1 : Int32).toInt = 1 := rfl; have : (16 : Int32).toInt = 16 := rfl; have := fb_rng (x9); (try have := fb_addI (x := x9) (y := 1) (by omega) (by omega)); omega)
theorem u_X0_add (h : HS) (p1 : Int32) (hI : IC h) : ok (f_X0_add h p1) (fun a => SC h a ∧ True) := by
  unfold f_X0_add
  refine ok_if (fun c1 => ?_) (fun c1 => ?_)
  · refine ok_ob2 (u_X4_ofGoose (sI h 7 0 ((eI h 7 0) + 1)) p1 3 ((SC_refl hI)).1) (fun r2 h2 k2 => ?_)
    have e2 : (sI h 7 0 ((eI h 7 0) + 1)) = h2 := k2.1.symm
    subst e2
    refine ok_ob1 (u_X8_halvesOf r2) (fun r3 k3 => ?_)
    refine ok_ob2 (u_X1_isTrue (sI h 7 0 ((eI h 7 0) + 1)) p1 ((SC_refl hI)).1) (fun r4 h4 k4 => ?_)
    have s4 : SC h h4 := SC_trans (b := (sI h 7 0 ((eI h 7 0) + 1))) (SC_refl hI) k4.1
    refine ok_if (fun c5 => ?_) (fun c5 => ?_)
    · unfold f_X0_add_46
      refine ok_ob1 (u_X1_lookAtTraveller h4 p1 (s4).1) (fun h6 k6 => ?_)
      have s6 : SC h h6 := SC_trans (b := h4) s4 k6.1
      refine ok_ob2 (u_X1_rule h6 0 (s6).1) (fun r7 h7 k7 => ?_)
      have s7 : SC h h7 := SC_trans (b := h6) s6 k7.1
      refine ok_ob2 (u_X1_rule h7 1 (s7).1) (fun r8 h8 k8 => ?_)
      have s8 : SC h h8 := SC_trans (b := h7) s7 k8.1
      exact u_X0_add_86 (h0 := h) r3 0 (r7 * r8) ((10 - r7) * 10) 8589934592 h8 0 s8 (by have : (0 ≤ (r3).toInt ∧ (r3).toInt ≤ 3) := k3; have : (0 : Int32).toInt = 0 := rfl; omega) (by have : (0 ≤ (r3).toInt ∧ (r3).toInt ≤ 3) := k3; have := fb_rng (r3); omega) (by have : (0 ≤ (r3).toInt ∧ (r3).toInt ≤ 3) := k3; have : (0 : Int32).toInt = 0 := rfl; omega) (by decide) (by have : (0 ≤ (r3).toInt ∧ (r3).toInt ≤ 3) := k3; have : (0 : Int32).toInt = 0 := rfl; omega)
    · unfold f_X0_add_46
      refine ok_ob1 (u_X1_lookAtTraveller h4 p1 (s4).1) (fun h9 k9 => ?_)
      have s9 : SC h h9 := SC_trans (b := h4) s4 k9.1
      refine ok_ob2 (u_X1_rule h9 0 (s9).1) (fun r10 h10 k10 => ?_)
      have s10 : SC h h10 := SC_trans (b := h9) s9 k10.1
      refine ok_ob2 (u_X1_rule h10 1 (s10).1) (fun r11 h11 k11 => ?_)
      have s11 : SC h h11 := SC_trans (b := h10) s10 k11.1
      exact u_X0_add_86 (h0 := h) r3 r3 (r10 * r11) ((10 - r10) * 10) 8589934592 h11 0 s11 (by have : (0 ≤ (r3).toInt ∧ (r3).toInt ≤ 3) := k3; have : (0 : Int32).toInt = 0 := rfl; omega) (by have : (0 ≤ (r3).toInt ∧ (r3).toInt ≤ 3) := k3; have := fb_rng (r3); omega) (by have : (0 ≤ (r3).toInt ∧ (r3).toInt ≤ 3) := k3; have := fb_rng (r3); omega) (by decide) (by have : (0 ≤ (r3).toInt ∧ (r3).toInt ≤ 3) := k3; have : (0 : Int32).toInt = 0 := rfl; omega)
  · exact ok_some ⟨(SC_refl hI), trivial⟩
