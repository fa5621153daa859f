theorem u_X3_tryMarkets_20 {h0 : HS} (x1 : Int32) {kR_X3_tryMarkets : HS → Int32 → Option HS} (m : Int) (hR_X3_tryMarkets : ∀ (h : HS) (p1 : Int32), IC h → (0 ≤ p1.toInt ∧ p1.toInt ≤ 3) → 3 - p1.toInt < m → ok (kR_X3_tryMarkets h p1) (fun a => SC h a ∧ True)) : ∀ (n : Nat) (h : HS) (x2 : Int32), SC h0 h → (0 ≤ x1.toInt ∧ x1.toInt < 3) → 3 - x1.toInt ≤ m → 0 < n → (4 - (x2).toInt : Int) < (n : Int) → ok (f_X3_tryMarkets_20 kR_X3_tryMarkets n h x1 x2) (fun a => SC h0 a ∧ True) := by
  intro n
  induction n with
  | zero =>
    intro h x2 hSC i0 i1 hn hm
    exact absurd hn (by decide)
  | succ n ih_X3_tryMarkets_20 =>
    intro h x2 hSC i0 i1 hn hm
    rw [f_X3_tryMarkets_20_s]
    refine ok_if (fun c1 => ?_) (fun c1 => ?_)
    · exact ok_some ⟨hSC, trivial⟩
    · refine ok_chk (by have := i0; have := i1; have := hm; have := fb_rng (x1); omega) ?_
      refine ok_ob1 (hR_X3_tryMarkets (sA h 8 5 (upd (eA h 8 5) ((x1).toNatClampNeg) x2)) (x1 + 1) (hSC).1 (by have := IC_n hSC.1; have := i0; have := i1; have := hm; have := gi_of_nle c1; have : (1 : Int32).toInt = 1 := rfl; have := fb_rng (eI h 8 11); have := fb_rng (x2); have := fb_rng (x1); (try have := fb_addI (x := x1) (y := 1) (by omega) (by omega)); omega) (by have := IC_n hSC.1; have := i0; have := i1; have := hm; have := gi_of_nle c1; have : (1 : Int32).toInt = 1 := rfl; have := fb_rng (eI h 8 11); have := fb_rng (x2); have := fb_rng (x1); (try have := fb_addI (x := x1) (y := 1) (by omega) (by omega)); omega)) (fun h3 k3 => ?_)
      have s3 : SC h0 h3 := SC_trans (b := (sA h 8 5 (upd (eA h 8 5) ((x1).toNatClampNeg) x2))) hSC k3.1
      exact ih_X3_tryMarkets_20 h3 (x2 + 1) s3 (by have := i0; have := i1; have := hm; have := fb_rng (x1); omega) (by have := i0; have := i1; have := hm; have := fb_rng (x1); omega) (by have := IC_n hSC.1; have := i0; have := i1; have := hm; have := gi_of_nle c1; have : (1 : Int32).toInt = 1 := rfl; have := fb_rng (eI h 8 11); have := fb_rng (x2); (try have := fb_addI (x := x2) (y := 1) (by omega) (by omega)); omega) (by have := IC_n hSC.1; have := i0; have := i1; have := hm; have := gi_of_nle c1; have : (1 : Int32).toInt = 1 := rfl; have := fb_rng (eI h 8 11); have := fb_rng (x2); (try have := fb_addI (x := x2) (y := 1) (by omega) (by omega)); omega)
theorem u_X3_tryMarkets_b {kR_X3_tryMarkets : HS → Int32 → Option HS} (m : Int) (hR_X3_tryMarkets : ∀ (h : HS) (p1 : Int32), IC h → (0 ≤ p1.toInt ∧ p1.toInt ≤ 3) → 3 - p1.toInt < m → ok (kR_X3_tryMarkets h p1) (fun a => SC h a ∧ True)) (h : HS) (p1 : Int32) (hI : IC h) (w0 : 0 ≤ p1.toInt ∧ p1.toInt ≤ 3) (w1 : 3 - p1.toInt ≤ m) : ok (f_X3_tryMarkets_b kR_X3_tryMarkets h p1) (fun a => SC h a ∧ True) := by
  unfold f_X3_tryMarkets_b
  refine ok_if (fun c1 => ?_) (fun c1 => ?_)
  · unfold f_X3_tryMarkets_13
    refine ok_ob1 (u_X3_compare h ((SC_refl hI)).1) (fun h2 k2 => ?_)
    have s2 : SC h h2 := SC_trans (b := h) (SC_refl hI) k2.1
    exact ok_some ⟨s2, trivial⟩
  · refine ok_if (fun c3 => ?_) (fun c3 => ?_)
    · exact u_X3_tryMarkets_20 (h0 := h) p1 (m := m) hR_X3_tryMarkets 8589934592 h 0 (SC_refl hI) (by have := IC_n (SC_refl hI).1; have := w0; have := w1; have := gi_of_nle c1; have := gi_of_lt c3; have : (3 : Int32).toInt = 3 := rfl; have := fb_rng (eI h 8 8); have := fb_rng (p1); omega) (by have := IC_n (SC_refl hI).1; have := w0; have := w1; have := gi_of_nle c1; have := gi_of_lt c3; have : (3 : Int32).toInt = 3 := rfl; have := fb_rng (eI h 8 8); have := fb_rng (p1); omega) (by decide) (by have := w0; have := w1; have : (0 : Int32).toInt = 0 := rfl; omega)
    · unfold f_X3_tryMarkets_13
      refine ok_ob1 (u_X3_compare h ((SC_refl hI)).1) (fun h4 k4 => ?_)
      have s4 : SC h h4 := SC_trans (b := h) (SC_refl hI) k4.1
      exact ok_some ⟨s4, trivial⟩
theorem u_G_tryMarkets : ∀ (n : Nat) (h : HS) (p1 : Int32), IC h → (0 ≤ p1.toInt ∧ p1.toInt ≤ 3) → 3 - p1.toInt < (n : Int) → ok (G_tryMarkets n 0 h p1) (fun a => SC h a ∧ True) := by
  intro n
  induction n with
  | zero => intro h p1 hI h0 hm; exact absurd hm (by omega)
  | succ n ih =>
    intro h p1 hI h0 hm
    exact u_X3_tryMarkets_b (m := n) (fun h p i a b => ih h p i a b) h p1 hI h0 (by omega)
theorem u_X3_tryPatterns_69 {h0 : HS} (x1 : Int32) (x2 : Int32) {k38 : HS → Int32 → Int32 → Option HS} (hk38 : ∀ h : HS, SC h0 h → ok (k38 h x1 (x2 + 1)) (fun a => SC h0 a ∧ True)) : ∀ (n : Nat) (h : HS) (x3 : Int32) (x4 : Int32), SC h0 h → x4.toInt < 3 → 0 < n → (x4.toInt + 1 : Int) < (n : Int) → ok (f_X3_tryPatterns_69 k38 n h x1 x2 x3 x4) (fun a => SC h0 a ∧ True) := by
  intro n
  induction n with
  | zero =>
    intro h x3 x4 hSC i0 hn hm
    exact absurd hn (by decide)
  | succ n ih_X3_tryPatterns_69 =>
    intro h x3 x4 hSC i0 hn hm
    rw [f_X3_tryPatterns_69_s]
    refine ok_if (fun c1 => ?_) (fun c1 => ?_)
    · refine ok_ob2 (u_X3_missOf_f h (hSC).1) (fun r2 h2 k2 => ?_)
      have e2 : h = h2 := k2.1.symm
      subst e2
      refine ok_ob2 (u_X3_isEnough h r2 (hSC).1) (fun r3 h3 k3 => ?_)
      have e3 : h = h3 := k3.1.symm
      subst e3
      refine ok_if (fun c4 => ?_) (fun c4 => ?_)
      · unfold f_X3_tryPatterns_146
        exact hk38 h hSC
      · refine ok_if (fun c5 => ?_) (fun c5 => ?_)
        · refine ok_ob2 (u_X3_missOf_r h (hSC).1) (fun r6 h6 k6 => ?_)
          have e6 : h = h6 := k6.1.symm
          subst e6
          refine ok_ob2 (u_X3_isBetter h r6 (hSC).1) (fun r7 h7 k7 => ?_)
          have e7 : h = h7 := k7.1.symm
          subst e7
          refine ok_if (fun c8 => ?_) (fun c8 => ?_)
          · unfold f_X3_tryPatterns_146
            exact hk38 h hSC
          · unfold f_X3_tryPatterns_141
            refine ok_ob1 (u_G_tryMarkets 6 h 0 (hSC).1 (by have := i0; have := hm; have : (0 : Int32).toInt = 0 := rfl; omega) (by have := i0; have := hm; have : (0 : Int32).toInt = 0 := rfl; omega)) (fun h9 k9 => ?_)
            have s9 : SC h0 h9 := SC_trans (b := h) hSC k9.1
            unfold f_X3_tryPatterns_146
            exact hk38 h9 s9
        · unfold f_X3_tryPatterns_141
          refine ok_ob1 (u_G_tryMarkets 6 h 0 (hSC).1 (by have := i0; have := hm; have : (0 : Int32).toInt = 0 := rfl; omega) (by have := i0; have := hm; have : (0 : Int32).toInt = 0 := rfl; omega)) (fun h10 k10 => ?_)
          have s10 : SC h0 h10 := SC_trans (b := h) hSC k10.1
          unfold f_X3_tryPatterns_146
          exact hk38 h10 s10
    · refine ok_chk (by have := i0; have := hm; have := gi_of_nlt c1; have : (0 : Int32).toInt = 0 := rfl; have := fb_rng (x4); omega) ?_
      refine ok_chk (by have := i0; have := hm; have := gi_of_nlt c1; have : (0 : Int32).toInt = 0 := rfl; have := fb_rng (x4); omega) ?_
      exact ih_X3_tryPatterns_69 (sA (sA h 8 4 (upd (eA h 8 4) ((x4).toNatClampNeg) (x3 - x3 / 10 * 10))) 8 5 (upd (eA h 8 5) ((x4).toNatClampNeg) 4)) (x3 / 10) (x4 + (-1)) hSC (by have := i0; have := hm; have := gi_of_nlt c1; have : ((-1) : Int32).toInt = -1 := rfl; have : (0 : Int32).toInt = 0 := rfl; have := fb_rng (x4); (try have := fb_addI (x := x4) (y := (-1)) (by omega) (by omega)); omega) (by have := i0; have := hm; have := gi_of_nlt c1; have : ((-1) : Int32).toInt = -1 := rfl; have : (0 : Int32).toInt = 0 := rfl; have := fb_rng (x4); (try have := fb_addI (x := x4) (y := (-1)) (by omega) (by omega)); omega) (by have := i0; have := hm; have := gi_of_nlt c1; have : ((-1) : Int32).toInt = -1 := rfl; have : (0 : Int32).toInt = 0 := rfl; have := fb_rng (x4); (try have := fb_addI (x := x4) (y := (-1)) (by omega) (by omega)); omega)
theorem u_X3_tryPatterns_38 {h0 : HS} (x1 : Int32) : ∀ (n : Nat) (h : HS) (x2 : Int32), SC h0 h → 0 ≤ x2.toInt → 0 < n → (13 - (x2).toInt : Int) < (n : Int) → ok (f_X3_tryPatterns_38  n h x1 x2) (fun a => SC h0 a ∧ True) := by
  intro n
  induction n with
  | zero =>
    intro h x2 hSC i0 hn hm
    exact absurd hn (by decide)
  | succ n ih_X3_tryPatterns_38 =>
    intro h x2 hSC i0 hn hm
    rw [f_X3_tryPatterns_38_s]
    refine ok_if (fun c1 => ?_) (fun c1 => ?_)
    · unfold f_X3_tryPatterns_152
      exact ok_some ⟨hSC, trivial⟩
    · refine ok_if (fun c2 => ?_) (fun c2 => ?_)
      · unfold f_X3_tryPatterns_152
        exact ok_some ⟨hSC, trivial⟩
      · refine ok_chk (by have := i0; have := hm; have := gi_of_nle c1; have := gi_of_nle c2; have : (13 : Int32).toInt = 13 := rfl; have := fb_rng (x1); have := fb_rng (x2); omega) ?_
        exact u_X3_tryPatterns_69 (h0 := h0) x1 x2 (fun h_9 s_9 => ih_X3_tryPatterns_38 h_9 (x2 + 1) s_9 (by have := i0; have := hm; have := gi_of_nle c1; have := gi_of_nle c2; have : (1 : Int32).toInt = 1 := rfl; have : (13 : Int32).toInt = 13 := rfl; have := fb_rng (x1); have := fb_rng (x2); (try have := fb_addI (x := x2) (y := 1) (by omega) (by omega)); omega) (by have := i0; have := hm; have := gi_of_nle c1; have := gi_of_nle c2; have : (1 : Int32).toInt = 1 := rfl; have : (13 : Int32).toInt = 13 := rfl; have := fb_rng (x1); have := fb_rng (x2); (try have := fb_addI (x := x2) (y := 1) (by omega) (by omega)); omega) (by have := i0; have := hm; have := gi_of_nle c1; have := gi_of_nle c2; have : (1 : Int32).toInt = 1 := rfl; have : (13 : Int32).toInt = 13 := rfl; have := fb_rng (x1); have := fb_rng (x2); (try have := fb_addI (x := x2) (y := 1) (by omega) (by omega)); omega)) 8589934592 h (gPat ((x2).toNatClampNeg)) ((if 3 < (eI h 8 8) then 3 else (eI h 8 8)) - 1) hSC (by have := IC_n hSC.1; have := i0; have := hm; have : (1 : Int32).toInt = 1 := rfl; have : (3 : Int32).toInt = 3 := rfl; have := fb_rng (eI h 8 8); have := fb_itel (x := 3) (y := (eI h 8 8)) (a := 3) (b := (eI h 8 8)); (try have := fb_subI (x := (if 3 < (eI h 8 8) then 3 else (eI h 8 8))) (y := 1) (by omega) (by omega)); omega) (by decide) (by have := IC_n hSC.1; have := i0; have := hm; have : (1 : Int32).toInt = 1 := rfl; have : (3 : Int32).toInt = 3 := rfl; have := fb_rng (eI h 8 8); have := fb_itel (x := 3) (y := (eI h 8 8)) (a := 3) (b := (eI h 8 8)); (try have := fb_subI (x := (if 3 < (eI h 8 8) then 3 else (eI h 8 8))) (y := 1) (by omega) (by omega)); omega)
theorem u_X3_tryPatterns (h : HS) (hI : IC h) : ok (f_X3_tryPatterns h) (fun a => SC h a ∧ True) := by
  unfold f_X3_tryPatterns
  refine ok_if (fun c1 => ?_) (fun c1 => ?_)
  · unfold f_X3_tryPatterns_34
    unfold f_X3_tryPatterns_35
    exact u_X3_tryPatterns_38 (h0 := h) 0 8589934592 (sI h 8 13 0) 0 (SC_refl hI) (by have : (0 : Int32).toInt = 0 := rfl; omega) (by decide) (by have : (0 : Int32).toInt = 0 := rfl; omega)
  · refine ok_if (fun c2 => ?_) (fun c2 => ?_)
    · unfold f_X3_tryPatterns_34
      unfold f_X3_tryPatterns_35
      exact u_X3_tryPatterns_38 (h0 := h) 0 8589934592 (sI h 8 13 0) 0 (SC_refl hI) (by have : (0 : Int32).toInt = 0 := rfl; omega) (by decide) (by have : (0 : Int32).toInt = 0 := rfl; omega)
    · refine ok_chk (by have := IC_n (SC_refl hI).1; have := gi_of_nlt c1; have := gi_of_nle c2; have : (0 : Int32).toInt = 0 := rfl; have : (4 : Int32).toInt = 4 := rfl; have := fb_rng (eI h 8 8); omega) ?_
      unfold f_X3_tryPatterns_35
      exact u_X3_tryPatterns_38 (h0 := h) (gCnt (((eI h 8 8)).toNatClampNeg)) 8589934592 (sI h 8 13 0) 0 (SC_refl hI) (by have : (0 : Int32).toInt = 0 := rfl; omega) (by decide) (by have : (0 : Int32).toInt = 0 := rfl; omega)
theorem u_X3_tryGeese_20 {h0 : HS} (x1 : Int32) {kR_X3_tryGeese : HS → Int32 → Int32 → Option HS} (m : Int) (hR_X3_tryGeese : ∀ (h : HS) (p1 p2 : Int32), IC h → (0 ≤ p1.toInt ∧ p1.toInt ≤ 3) → (0 ≤ p2.toInt ∧ p2.toInt ≤ 10) → 3 - p1.toInt < m → ok (kR_X3_tryGeese h p1 p2) (fun a => SC h a ∧ True)) : ∀ (n : Nat) (h : HS) (x3 : Int32), SC h0 h → 0 ≤ x3.toInt → (0 ≤ x1.toInt ∧ x1.toInt < 3) → 3 - x1.toInt ≤ m → 0 < n → (10 - (x3).toInt : Int) < (n : Int) → ok (f_X3_tryGeese_20 kR_X3_tryGeese n h x1 x3) (fun a => SC h0 a ∧ True) := by
  intro n
  induction n with
  | zero =>
    intro h x3 hSC i0 i1 i2 hn hm
    exact absurd hn (by decide)
  | succ n ih_X3_tryGeese_20 =>
    intro h x3 hSC i0 i1 i2 hn hm
    rw [f_X3_tryGeese_20_s]
    refine ok_if (fun c1 => ?_) (fun c1 => ?_)
    · exact ok_some ⟨hSC, trivial⟩
    · refine ok_chk (by have := i0; have := i1; have := i2; have := hm; have := gi_of_nle c1; have : (10 : Int32).toInt = 10 := rfl; have := fb_rng (x3); omega) ?_
      refine ok_if (fun c3 => ?_) (fun c3 => ?_)
      · unfold f_X3_tryGeese_52
        exact ih_X3_tryGeese_20 h (x3 + 1) hSC (by have := i0; have := i1; have := i2; have := hm; have := gi_of_nle c1; have := gi_of_eq c3; have : (0 : Int32).toInt = 0 := rfl; have : (1 : Int32).toInt = 1 := rfl; have : (10 : Int32).toInt = 10 := rfl; have := fb_rng (x3); have := fb_rng ((eA h 8 2) ((x3).toNatClampNeg)); (try have := fb_addI (x := x3) (y := 1) (by omega) (by omega)); omega) (by have := i0; have := i1; have := i2; have := hm; have := fb_rng (x1); omega) (by have := i0; have := i1; have := i2; have := hm; have := fb_rng (x1); omega) (by have := i0; have := i1; have := i2; have := hm; have := gi_of_nle c1; have := gi_of_eq c3; have : (0 : Int32).toInt = 0 := rfl; have : (1 : Int32).toInt = 1 := rfl; have : (10 : Int32).toInt = 10 := rfl; have := fb_rng (x3); have := fb_rng ((eA h 8 2) ((x3).toNatClampNeg)); (try have := fb_addI (x := x3) (y := 1) (by omega) (by omega)); omega) (by have := i0; have := i1; have := i2; have := hm; have := gi_of_nle c1; have := gi_of_eq c3; have : (0 : Int32).toInt = 0 := rfl; have : (1 : Int32).toInt = 1 := rfl; have : (10 : Int32).toInt = 10 := rfl; have := fb_rng (x3); have := fb_rng ((eA h 8 2) ((x3).toNatClampNeg)); (try have := fb_addI (x := x3) (y := 1) (by omega) (by omega)); omega)
      · refine ok_chk (by have := i0; have := i1; have := i2; have := hm; have := fb_rng (x1); omega) ?_
        refine ok_ob1 (hR_X3_tryGeese (sA h 8 3 (upd (eA h 8 3) ((x1).toNatClampNeg) x3)) (x1 + 1) (x3 + 1) (hSC).1 (by have := i0; have := i1; have := i2; have := hm; have := gi_of_nle c1; have := gi_of_ne c3; have : (0 : Int32).toInt = 0 := rfl; have : (1 : Int32).toInt = 1 := rfl; have : (10 : Int32).toInt = 10 := rfl; have := fb_rng (x3); have := fb_rng ((eA h 8 2) ((x3).toNatClampNeg)); have := fb_rng (x1); (try have := fb_addI (x := x1) (y := 1) (by omega) (by omega)); (try have := fb_addI (x := x3) (y := 1) (by omega) (by omega)); omega) (by have := i0; have := i1; have := i2; have := hm; have := gi_of_nle c1; have := gi_of_ne c3; have : (0 : Int32).toInt = 0 := rfl; have : (1 : Int32).toInt = 1 := rfl; have : (10 : Int32).toInt = 10 := rfl; have := fb_rng (x3); have := fb_rng ((eA h 8 2) ((x3).toNatClampNeg)); have := fb_rng (x1); (try have := fb_addI (x := x1) (y := 1) (by omega) (by omega)); (try have := fb_addI (x := x3) (y := 1) (by omega) (by omega)); omega) (by have := i0; have := i1; have := i2; have := hm; have := gi_of_nle c1; have := gi_of_ne c3; have : (0 : Int32).toInt = 0 := rfl; have : (1 : Int32).toInt = 1 := rfl; have : (10 : Int32).toInt = 10 := rfl; have := fb_rng (x3); have := fb_rng ((eA h 8 2) ((x3).toNatClampNeg)); have := fb_rng (x1); (try have := fb_addI (x := x1) (y := 1) (by omega) (by omega)); (try have := fb_addI (x := x3) (y := 1) (by omega) (by omega)); omega)) (fun h5 k5 => ?_)
        have s5 : SC h0 h5 := SC_trans (b := (sA h 8 3 (upd (eA h 8 3) ((x1).toNatClampNeg) x3))) hSC k5.1
        unfold f_X3_tryGeese_52
        exact ih_X3_tryGeese_20 h5 (x3 + 1) s5 (by have := i0; have := i1; have := i2; have := hm; have := gi_of_nle c1; have := gi_of_ne c3; have : (0 : Int32).toInt = 0 := rfl; have : (1 : Int32).toInt = 1 := rfl; have : (10 : Int32).toInt = 10 := rfl; have := fb_rng (x3); have := fb_rng ((eA h 8 2) ((x3).toNatClampNeg)); (try have := fb_addI (x := x3) (y := 1) (by omega) (by omega)); omega) (by have := i0; have := i1; have := i2; have := hm; have := fb_rng (x1); omega) (by have := i0; have := i1; have := i2; have := hm; have := fb_rng (x1); omega) (by have := i0; have := i1; have := i2; have := hm; have := gi_of_nle c1; have := gi_of_ne c3; have : (0 : Int32).toInt = 0 := rfl; have : (1 : Int32).toInt = 1 := rfl; have : (10 : Int32).toInt = 10 := rfl; have := fb_rng (x3); have := fb_rng ((eA h 8 2) ((x3).toNatClampNeg)); (try have := fb_addI (x := x3) (y := 1) (by omega) (by omega)); omega) (by have := i0; have := i1; have := i2; have := hm; have := gi_of_nle c1; have := gi_of_ne c3; have : (0 : Int32).toInt = 0 := rfl; have : (1 : Int32).toInt = 1 := rfl; have : (10 : Int32).toInt = 10 := rfl; have := fb_rng (x3); have := fb_rng ((eA h 8 2) ((x3).toNatClampNeg)); (try have := fb_addI (x := x3) (y := 1) (by omega) (by omega)); omega)
theorem u_X3_tryGeese_b {kR_X3_tryGeese : HS → Int32 → Int32 → Option HS} (m : Int) (hR_X3_tryGeese : ∀ (h : HS) (p1 p2 : Int32), IC h → (0 ≤ p1.toInt ∧ p1.toInt ≤ 3) → (0 ≤ p2.toInt ∧ p2.toInt ≤ 10) → 3 - p1.toInt < m → ok (kR_X3_tryGeese h p1 p2) (fun a => SC h a ∧ True)) (h : HS) (p1 : Int32) (p2 : Int32) (hI : IC h) (w0 : 0 ≤ p1.toInt ∧ p1.toInt ≤ 3) (w2 : 0 ≤ p2.toInt ∧ p2.toInt ≤ 10) (w1 : 3 - p1.toInt ≤ m) : ok (f_X3_tryGeese_b kR_X3_tryGeese h p1 p2) (fun a => SC h a ∧ True) := by
  unfold f_X3_tryGeese_b
  refine ok_if (fun c1 => ?_) (fun c1 => ?_)
  · unfold f_X3_tryGeese_13
    refine ok_ob1 (u_X3_tryPatterns h ((SC_refl hI)).1) (fun h2 k2 => ?_)
    have s2 : SC h h2 := SC_trans (b := h) (SC_refl hI) k2.1
    exact ok_some ⟨s2, trivial⟩
  · refine ok_if (fun c3 => ?_) (fun c3 => ?_)
    · exact u_X3_tryGeese_20 (h0 := h) p1 (m := m) hR_X3_tryGeese 8589934592 h p2 (SC_refl hI) (by have := w0; have := w2; have := w1; have := fb_rng (p2); omega) (by have := IC_n (SC_refl hI).1; have := w0; have := w2; have := w1; have := gi_of_nle c1; have := gi_of_lt c3; have : (3 : Int32).toInt = 3 := rfl; have := fb_rng (eI h 8 8); have := fb_rng (p1); omega) (by have := IC_n (SC_refl hI).1; have := w0; have := w2; have := w1; have := gi_of_nle c1; have := gi_of_lt c3; have : (3 : Int32).toInt = 3 := rfl; have := fb_rng (eI h 8 8); have := fb_rng (p1); omega) (by decide) (by have := w0; have := w2; have := w1; have := fb_rng (p2); omega)
    · unfold f_X3_tryGeese_13
      refine ok_ob1 (u_X3_tryPatterns h ((SC_refl hI)).1) (fun h4 k4 => ?_)
      have s4 : SC h h4 := SC_trans (b := h) (SC_refl hI) k4.1
      exact ok_some ⟨s4, trivial⟩
theorem u_G_tryGeese : ∀ (n : Nat) (h : HS) (p1 p2 : Int32), IC h → (0 ≤ p1.toInt ∧ p1.toInt ≤ 3) → (0 ≤ p2.toInt ∧ p2.toInt ≤ 10) → 3 - p1.toInt < (n : Int) → ok (G_tryGeese n 0 h p1 p2) (fun a => SC h a ∧ True) := by
  intro n
  induction n with
  | zero => intro h p1 p2 hI h0 h2 hm; exact absurd hm (by omega)
  | succ n ih =>
    intro h p1 p2 hI h0 h2 hm
    exact u_X3_tryGeese_b (m := n) (fun h p q i a b c => ih h p q i a b c) h p1 p2 hI h0 h2 (by omega)
theorem u_X3_weighGoose_64 {h0 : HS} (x3 : Int32) (x4 : Int32) (x5 : Int32) (x6 : Int32) (x7 : Int32) {k3 : HS → Int32 → Int32 → Int32 → Option HS} (hk3 : ∀ h : HS, SC h0 h → ok (k3 h x3 x4 (x5 + 1)) (fun a => SC h0 a ∧ True)) : ∀ (n : Nat) (h : HS) (x8 : Int32), SC h0 h → 0 ≤ x8.toInt → (0 ≤ x7.toInt ∧ x7.toInt < 150) → (0 ≤ x3.toInt ∧ x3.toInt < 10) → (0 ≤ x5.toInt ∧ x5.toInt < 3) → 0 < n → (4 - (x8).toInt : Int) < (n : Int) → ok (f_X3_weighGoose_64 k3 n h x3 x4 x5 x6 x7 x8) (fun a => SC h0 a ∧ True) := by
  intro n
  induction n with
  | zero =>
    intro h x8 hSC i0 i1 i2 i3 hn hm
    exact absurd hn (by decide)
  | succ n ih_X3_weighGoose_64 =>
    intro h x8 hSC i0 i1 i2 i3 hn hm
    rw [f_X3_weighGoose_64_s]
    refine ok_if (fun c1 => ?_) (fun c1 => ?_)
    · exact hk3 h hSC
    · refine ok_ob2 (u_X4_ofMarket h x8 0 (hSC).1) (fun r2 h2 k2 => ?_)
      have e2 : h = h2 := k2.1.symm
      subst e2
      refine ok_ob1 (u_X1_lookAtMarket h x8 ((eI h 1 7) + r2) (hSC).1) (fun h3 k3 => ?_)
      have s3 : SC h0 h3 := SC_trans (b := h) hSC k3.1
      refine ok_ob2 (u_X1_rule h3 0 (s3).1) (fun r4 h4 k4 => ?_)
      have s4 : SC h0 h4 := SC_trans (b := h3) s3 k4.1
      refine ok_ob1 (u_X3_cell x3 x5 x8) (fun r5 k5 => ?_)
      subst k5
      refine ok_if (fun c6 => ?_) (fun c6 => ?_)
      · unfold f_X3_weighGoose_133
        refine ok_chk (by have := IC_n hSC.1; have := i0; have := i1; have := i2; have := i3; have := hm; have := gi_of_nle c1; have : (3 : Int32).toInt = 3 := rfl; have : (5 : Int32).toInt = 5 := rfl; have := fb_rng (eI h 8 11); have := fb_rng (x8); have := fb_rng (x3); (try have := fb_mulK (x := x3) (y := 3) (k := 3) rfl (by omega) (by omega)); have := fb_rng (x5); (try have := fb_addI (x := (x3 * 3)) (y := x5) (by omega) (by omega)); (try have := fb_mulK (x := ((x3 * 3) + x5)) (y := 5) (k := 5) rfl (by omega) (by omega)); (try have := fb_addI (x := (((x3 * 3) + x5) * 5)) (y := x8) (by omega) (by omega)); omega) ?_
        refine ok_ob2 (u_X1_rule (sA h4 8 0 (upd (eA h4 8 0) ((((((x3 * 3) + x5) * 5) + x8)).toNatClampNeg) 0)) 1 (s4).1) (fun r8 h8 k8 => ?_)
        have s8 : SC h0 h8 := SC_trans (b := (sA h4 8 0 (upd (eA h4 8 0) ((((((x3 * 3) + x5) * 5) + x8)).toNatClampNeg) 0))) s4 k8.1
        refine ok_chk (by have := IC_n hSC.1; have := i0; have := i1; have := i2; have := i3; have := hm; have := gi_of_nle c1; have : (3 : Int32).toInt = 3 := rfl; have : (5 : Int32).toInt = 5 := rfl; have := fb_rng (eI h 8 11); have := fb_rng (x8); have := fb_rng (x3); (try have := fb_mulK (x := x3) (y := 3) (k := 3) rfl (by omega) (by omega)); have := fb_rng (x5); (try have := fb_addI (x := (x3 * 3)) (y := x5) (by omega) (by omega)); (try have := fb_mulK (x := ((x3 * 3) + x5)) (y := 5) (k := 5) rfl (by omega) (by omega)); (try have := fb_addI (x := (((x3 * 3) + x5) * 5)) (y := x8) (by omega) (by omega)); omega) ?_
        refine ok_chk (by have := i0; have := i1; have := i2; have := i3; have := hm; have := fb_rng (x7); omega) ?_
        refine ok_chk (by have := IC_n hSC.1; have := i0; have := i1; have := i2; have := i3; have := hm; have := gi_of_nle c1; have : (3 : Int32).toInt = 3 := rfl; have : (5 : Int32).toInt = 5 := rfl; have := fb_rng (eI h 8 11); have := fb_rng (x8); have := fb_rng (x3); (try have := fb_mulK (x := x3) (y := 3) (k := 3) rfl (by omega) (by omega)); have := fb_rng (x5); (try have := fb_addI (x := (x3 * 3)) (y := x5) (by omega) (by omega)); (try have := fb_mulK (x := ((x3 * 3) + x5)) (y := 5) (k := 5) rfl (by omega) (by omega)); (try have := fb_addI (x := (((x3 * 3) + x5) * 5)) (y := x8) (by omega) (by omega)); omega) ?_
        refine ok_chk (by have := i0; have := i1; have := i2; have := i3; have := hm; have := fb_rng (x7); omega) ?_
        refine ok_chk (by have := i0; have := i1; have := i2; have := i3; have := hm; have := fb_rng (x7); omega) ?_
        refine ok_chk (by have := IC_n hSC.1; have := i0; have := i1; have := i2; have := i3; have := hm; have := gi_of_nle c1; have : (3 : Int32).toInt = 3 := rfl; have : (5 : Int32).toInt = 5 := rfl; have := fb_rng (eI h 8 11); have := fb_rng (x8); have := fb_rng (x3); (try have := fb_mulK (x := x3) (y := 3) (k := 3) rfl (by omega) (by omega)); have := fb_rng (x5); (try have := fb_addI (x := (x3 * 3)) (y := x5) (by omega) (by omega)); (try have := fb_mulK (x := ((x3 * 3) + x5)) (y := 5) (k := 5) rfl (by omega) (by omega)); (try have := fb_addI (x := (((x3 * 3) + x5) * 5)) (y := x8) (by omega) (by omega)); omega) ?_
        refine ok_chk (by have := i0; have := i1; have := i2; have := i3; have := hm; have := fb_rng (x7); omega) ?_
        exact ih_X3_weighGoose_64 (sA (sA (sA h8 8 1 (upd (eA h8 8 1) ((((((x3 * 3) + x5) * 5) + x8)).toNatClampNeg) (r4 * r8))) 8 0 (upd (eA h8 8 0) ((x7).toNatClampNeg) (if ((eA h8 8 0) ((x7).toNatClampNeg)) < ((eA h8 8 0) ((((((x3 * 3) + x5) * 5) + x8)).toNatClampNeg)) then ((eA h8 8 0) ((((((x3 * 3) + x5) * 5) + x8)).toNatClampNeg)) else ((eA h8 8 0) ((x7).toNatClampNeg))))) 8 1 (upd (upd (eA h8 8 1) ((((((x3 * 3) + x5) * 5) + x8)).toNatClampNeg) (r4 * r8)) ((x7).toNatClampNeg) (if ((upd (eA h8 8 1) ((((((x3 * 3) + x5) * 5) + x8)).toNatClampNeg) (r4 * r8)) ((((((x3 * 3) + x5) * 5) + x8)).toNatClampNeg)) < ((upd (eA h8 8 1) ((((((x3 * 3) + x5) * 5) + x8)).toNatClampNeg) (r4 * r8)) ((x7).toNatClampNeg)) then ((upd (eA h8 8 1) ((((((x3 * 3) + x5) * 5) + x8)).toNatClampNeg) (r4 * r8)) ((((((x3 * 3) + x5) * 5) + x8)).toNatClampNeg)) else ((upd (eA h8 8 1) ((((((x3 * 3) + x5) * 5) + x8)).toNatClampNeg) (r4 * r8)) ((x7).toNatClampNeg))))) (x8 + 1) s8 (by have := IC_n hSC.1; have := i0; have := i1; have := i2; have := i3; have := hm; have := gi_of_nle c1; have : (1 : Int32).toInt = 1 := rfl; have := fb_rng (eI h 8 11); have := fb_rng (x8); (try have := fb_addI (x := x8) (y := 1) (by omega) (by omega)); omega) (by have := i0; have := i1; have := i2; have := i3; have := hm; have := fb_rng (x7); omega) (by have := i0; have := i1; have := i2; have := i3; have := hm; have := fb_rng (x3); omega) (by have := i0; have := i1; have := i2; have := i3; have := hm; have := fb_rng (x5); omega) (by have := IC_n hSC.1; have := i0; have := i1; have := i2; have := i3; have := hm; have := gi_of_nle c1; have : (1 : Int32).toInt = 1 := rfl; have := fb_rng (eI h 8 11); have := fb_rng (x8); (try have := fb_addI (x := x8) (y := 1) (by omega) (by omega)); omega) (by have := IC_n hSC.1; have := i0; have := i1; have := i2; have := i3; have := hm; have := gi_of_nle c1; have : (1 : Int32).toInt = 1 := rfl; have := fb_rng (eI h 8 11); have := fb_rng (x8); (try have := fb_addI (x := x8) (y := 1) (by omega) (by omega)); omega)
      · unfold f_X3_weighGoose_133
        refine ok_chk (by have := IC_n hSC.1; have := i0; have := i1; have := i2; have := i3; have := hm; have := gi_of_nle c1; have : (3 : Int32).toInt = 3 := rfl; have : (5 : Int32).toInt = 5 := rfl; have := fb_rng (eI h 8 11); have := fb_rng (x8); have := fb_rng (x3); (try have := fb_mulK (x := x3) (y := 3) (k := 3) rfl (by omega) (by omega)); have := fb_rng (x5); (try have := fb_addI (x := (x3 * 3)) (y := x5) (by omega) (by omega)); (try have := fb_mulK (x := ((x3 * 3) + x5)) (y := 5) (k := 5) rfl (by omega) (by omega)); (try have := fb_addI (x := (((x3 * 3) + x5) * 5)) (y := x8) (by omega) (by omega)); omega) ?_
        refine ok_ob2 (u_X1_rule (sA h4 8 0 (upd (eA h4 8 0) ((((((x3 * 3) + x5) * 5) + x8)).toNatClampNeg) ((10 - r4) * 10))) 1 (s4).1) (fun r17 h17 k17 => ?_)
        have s17 : SC h0 h17 := SC_trans (b := (sA h4 8 0 (upd (eA h4 8 0) ((((((x3 * 3) + x5) * 5) + x8)).toNatClampNeg) ((10 - r4) * 10)))) s4 k17.1
        refine ok_chk (by have := IC_n hSC.1; have := i0; have := i1; have := i2; have := i3; have := hm; have := gi_of_nle c1; have : (3 : Int32).toInt = 3 := rfl; have : (5 : Int32).toInt = 5 := rfl; have := fb_rng (eI h 8 11); have := fb_rng (x8); have := fb_rng (x3); (try have := fb_mulK (x := x3) (y := 3) (k := 3) rfl (by omega) (by omega)); have := fb_rng (x5); (try have := fb_addI (x := (x3 * 3)) (y := x5) (by omega) (by omega)); (try have := fb_mulK (x := ((x3 * 3) + x5)) (y := 5) (k := 5) rfl (by omega) (by omega)); (try have := fb_addI (x := (((x3 * 3) + x5) * 5)) (y := x8) (by omega) (by omega)); omega) ?_
        refine ok_chk (by have := i0; have := i1; have := i2; have := i3; have := hm; have := fb_rng (x7); omega) ?_
        refine ok_chk (by have := IC_n hSC.1; have := i0; have := i1; have := i2; have := i3; have := hm; have := gi_of_nle c1; have : (3 : Int32).toInt = 3 := rfl; have : (5 : Int32).toInt = 5 := rfl; have := fb_rng (eI h 8 11); have := fb_rng (x8); have := fb_rng (x3); (try have := fb_mulK (x := x3) (y := 3) (k := 3) rfl (by omega) (by omega)); have := fb_rng (x5); (try have := fb_addI (x := (x3 * 3)) (y := x5) (by omega) (by omega)); (try have := fb_mulK (x := ((x3 * 3) + x5)) (y := 5) (k := 5) rfl (by omega) (by omega)); (try have := fb_addI (x := (((x3 * 3) + x5) * 5)) (y := x8) (by omega) (by omega)); omega) ?_
        refine ok_chk (by have := i0; have := i1; have := i2; have := i3; have := hm; have := fb_rng (x7); omega) ?_
        refine ok_chk (by have := i0; have := i1; have := i2; have := i3; have := hm; have := fb_rng (x7); omega) ?_
        refine ok_chk (by have := IC_n hSC.1; have := i0; have := i1; have := i2; have := i3; have := hm; have := gi_of_nle c1; have : (3 : Int32).toInt = 3 := rfl; have : (5 : Int32).toInt = 5 := rfl; have := fb_rng (eI h 8 11); have := fb_rng (x8); have := fb_rng (x3); (try have := fb_mulK (x := x3) (y := 3) (k := 3) rfl (by omega) (by omega)); have := fb_rng (x5); (try have := fb_addI (x := (x3 * 3)) (y := x5) (by omega) (by omega)); (try have := fb_mulK (x := ((x3 * 3) + x5)) (y := 5) (k := 5) rfl (by omega) (by omega)); (try have := fb_addI (x := (((x3 * 3) + x5) * 5)) (y := x8) (by omega) (by omega)); omega) ?_
        refine ok_chk (by have := i0; have := i1; have := i2; have := i3; have := hm; have := fb_rng (x7); omega) ?_
        exact ih_X3_weighGoose_64 (sA (sA (sA h17 8 1 (upd (eA h17 8 1) ((((((x3 * 3) + x5) * 5) + x8)).toNatClampNeg) (r4 * r17))) 8 0 (upd (eA h17 8 0) ((x7).toNatClampNeg) (if ((eA h17 8 0) ((x7).toNatClampNeg)) < ((eA h17 8 0) ((((((x3 * 3) + x5) * 5) + x8)).toNatClampNeg)) then ((eA h17 8 0) ((((((x3 * 3) + x5) * 5) + x8)).toNatClampNeg)) else ((eA h17 8 0) ((x7).toNatClampNeg))))) 8 1 (upd (upd (eA h17 8 1) ((((((x3 * 3) + x5) * 5) + x8)).toNatClampNeg) (r4 * r17)) ((x7).toNatClampNeg) (if ((upd (eA h17 8 1) ((((((x3 * 3) + x5) * 5) + x8)).toNatClampNeg) (r4 * r17)) ((((((x3 * 3) + x5) * 5) + x8)).toNatClampNeg)) < ((upd (eA h17 8 1) ((((((x3 * 3) + x5) * 5) + x8)).toNatClampNeg) (r4 * r17)) ((x7).toNatClampNeg)) then ((upd (eA h17 8 1) ((((((x3 * 3) + x5) * 5) + x8)).toNatClampNeg) (r4 * r17)) ((((((x3 * 3) + x5) * 5) + x8)).toNatClampNeg)) else ((upd (eA h17 8 1) ((((((x3 * 3) + x5) * 5) + x8)).toNatClampNeg) (r4 * r17)) ((x7).toNatClampNeg))))) (x8 + 1) s17 (by have := IC_n hSC.1; have := i0; have := i1; have := i2; have := i3; have := hm; have := gi_of_nle c1; have : (1 : Int32).toInt = 1 := rfl; have := fb_rng (eI h 8 11); have := fb_rng (x8); (try have := fb_addI (x := x8) (y := 1) (by omega) (by omega)); omega) (by have := i0; have := i1; have := i2; have := i3; have := hm; have := fb_rng (x7); omega) (by have := i0; have := i1; have := i2; have := i3; have := hm; have := fb_rng (x3); omega) (by have := i0; have := i1; have := i2; have := i3; have := hm; have := fb_rng (x5); omega) (by have := IC_n hSC.1; have := i0; have := i1; have := i2; have := i3; have := hm; have := gi_of_nle c1; have : (1 : Int32).toInt = 1 := rfl; have := fb_rng (eI h 8 11); have := fb_rng (x8); (try have := fb_addI (x := x8) (y := 1) (by omega) (by omega)); omega) (by have := IC_n hSC.1; have := i0; have := i1; have := i2; have := i3; have := hm; have := gi_of_nle c1; have : (1 : Int32).toInt = 1 := rfl; have := fb_rng (eI h 8 11); have := fb_rng (x8); (try have := fb_addI (x := x8) (y := 1) (by omega) (by omega)); omega)
theorem u_X3_weighGoose_3 {h0 : HS} (x3 : Int32) (x4 : Int32) : ∀ (n : Nat) (h : HS) (x5 : Int32), SC h0 h → 0 ≤ x5.toInt → (0 ≤ x3.toInt ∧ x3.toInt < 10) → 0 < n → (3 - (x5).toInt : Int) < (n : Int) → ok (f_X3_weighGoose_3  n h x3 x4 x5) (fun a => SC h0 a ∧ True) := by
  intro n
  induction n with
  | zero =>
    intro h x5 hSC i0 i1 hn hm
    exact absurd hn (by decide)
  | succ n ih_X3_weighGoose_3 =>
    intro h x5 hSC i0 i1 hn hm
    rw [f_X3_weighGoose_3_s]
    refine ok_if (fun c1 => ?_) (fun c1 => ?_)
    · exact ok_some ⟨hSC, trivial⟩
    · refine ok_ob1 (u_X1_lookAtFilled h x3 x4 x5 (hSC).1) (fun h2 k2 => ?_)
      have s2 : SC h0 h2 := SC_trans (b := h) hSC k2.1
      refine ok_ob2 (u_X1_rule h2 3 (s2).1) (fun r3 h3 k3 => ?_)
      have s3 : SC h0 h3 := SC_trans (b := h2) s2 k3.1
      refine ok_if (fun c4 => ?_) (fun c4 => ?_)
      · unfold f_X3_weighGoose_33
        refine ok_ob1 (u_X3_cell x3 x5 4) (fun r5 k5 => ?_)
        subst k5
        refine ok_chk (by have := i0; have := i1; have := hm; have := gi_of_nle c1; have : (3 : Int32).toInt = 3 := rfl; have : (4 : Int32).toInt = 4 := rfl; have : (5 : Int32).toInt = 5 := rfl; have := fb_rng (x5); have := fb_rng (x3); (try have := fb_mulK (x := x3) (y := 3) (k := 3) rfl (by omega) (by omega)); (try have := fb_addI (x := (x3 * 3)) (y := x5) (by omega) (by omega)); (try have := fb_mulK (x := ((x3 * 3) + x5)) (y := 5) (k := 5) rfl (by omega) (by omega)); (try have := fb_addI (x := (((x3 * 3) + x5) * 5)) (y := 4) (by omega) (by omega)); omega) ?_
        refine ok_chk (by have := i0; have := i1; have := hm; have := gi_of_nle c1; have : (3 : Int32).toInt = 3 := rfl; have : (4 : Int32).toInt = 4 := rfl; have : (5 : Int32).toInt = 5 := rfl; have := fb_rng (x5); have := fb_rng (x3); (try have := fb_mulK (x := x3) (y := 3) (k := 3) rfl (by omega) (by omega)); (try have := fb_addI (x := (x3 * 3)) (y := x5) (by omega) (by omega)); (try have := fb_mulK (x := ((x3 * 3) + x5)) (y := 5) (k := 5) rfl (by omega) (by omega)); (try have := fb_addI (x := (((x3 * 3) + x5) * 5)) (y := 4) (by omega) (by omega)); omega) ?_
        exact u_X3_weighGoose_64 (h0 := h0) x3 x4 x5 0 ((((x3 * 3) + x5) * 5) + 4) (fun h_9 s_9 => ih_X3_weighGoose_3 h_9 (x5 + 1) s_9 (by have := i0; have := i1; have := hm; have := gi_of_nle c1; have : (1 : Int32).toInt = 1 := rfl; have : (3 : Int32).toInt = 3 := rfl; have := fb_rng (x5); (try have := fb_addI (x := x5) (y := 1) (by omega) (by omega)); omega) (by have := i0; have := i1; have := hm; have := fb_rng (x3); omega) (by have := i0; have := i1; have := hm; have := gi_of_nle c1; have : (1 : Int32).toInt = 1 := rfl; have : (3 : Int32).toInt = 3 := rfl; have := fb_rng (x5); (try have := fb_addI (x := x5) (y := 1) (by omega) (by omega)); omega) (by have := i0; have := i1; have := hm; have := gi_of_nle c1; have : (1 : Int32).toInt = 1 := rfl; have : (3 : Int32).toInt = 3 := rfl; have := fb_rng (x5); (try have := fb_addI (x := x5) (y := 1) (by omega) (by omega)); omega)) 8589934592 (sA (sA h3 8 0 (upd (eA h3 8 0) ((((((x3 * 3) + x5) * 5) + 4)).toNatClampNeg) 0)) 8 1 (upd (eA h3 8 1) ((((((x3 * 3) + x5) * 5) + 4)).toNatClampNeg) 100)) 0 s3 (by have := i0; have := i1; have := hm; have : (0 : Int32).toInt = 0 := rfl; omega) (by have := i0; have := i1; have := hm; have := gi_of_nle c1; have : (3 : Int32).toInt = 3 := rfl; have : (4 : Int32).toInt = 4 := rfl; have : (5 : Int32).toInt = 5 := rfl; have := fb_rng (x5); have := fb_rng (x3); (try have := fb_mulK (x := x3) (y := 3) (k := 3) rfl (by omega) (by omega)); (try have := fb_addI (x := (x3 * 3)) (y := x5) (by omega) (by omega)); (try have := fb_mulK (x := ((x3 * 3) + x5)) (y := 5) (k := 5) rfl (by omega) (by omega)); (try have := fb_addI (x := (((x3 * 3) + x5) * 5)) (y := 4) (by omega) (by omega)); omega) (by have := i0; have := i1; have := hm; have := fb_rng (x3); omega) (by have := i0; have := i1; have := hm; have := gi_of_nle c1; have : (3 : Int32).toInt = 3 := rfl; have := fb_rng (x5); omega) (by decide) (by have := i0; have := i1; have := hm; have : (0 : Int32).toInt = 0 := rfl; omega)
      · unfold f_X3_weighGoose_33
        refine ok_ob1 (u_X3_cell x3 x5 4) (fun r8 k8 => ?_)
        subst k8
        refine ok_chk (by have := i0; have := i1; have := hm; have := gi_of_nle c1; have : (3 : Int32).toInt = 3 := rfl; have : (4 : Int32).toInt = 4 := rfl; have : (5 : Int32).toInt = 5 := rfl; have := fb_rng (x5); have := fb_rng (x3); (try have := fb_mulK (x := x3) (y := 3) (k := 3) rfl (by omega) (by omega)); (try have := fb_addI (x := (x3 * 3)) (y := x5) (by omega) (by omega)); (try have := fb_mulK (x := ((x3 * 3) + x5)) (y := 5) (k := 5) rfl (by omega) (by omega)); (try have := fb_addI (x := (((x3 * 3) + x5) * 5)) (y := 4) (by omega) (by omega)); omega) ?_
        refine ok_chk (by have := i0; have := i1; have := hm; have := gi_of_nle c1; have : (3 : Int32).toInt = 3 := rfl; have : (4 : Int32).toInt = 4 := rfl; have : (5 : Int32).toInt = 5 := rfl; have := fb_rng (x5); have := fb_rng (x3); (try have := fb_mulK (x := x3) (y := 3) (k := 3) rfl (by omega) (by omega)); (try have := fb_addI (x := (x3 * 3)) (y := x5) (by omega) (by omega)); (try have := fb_mulK (x := ((x3 * 3) + x5)) (y := 5) (k := 5) rfl (by omega) (by omega)); (try have := fb_addI (x := (((x3 * 3) + x5) * 5)) (y := 4) (by omega) (by omega)); omega) ?_
        exact u_X3_weighGoose_64 (h0 := h0) x3 x4 x5 1 ((((x3 * 3) + x5) * 5) + 4) (fun h_9 s_9 => ih_X3_weighGoose_3 h_9 (x5 + 1) s_9 (by have := i0; have := i1; have := hm; have := gi_of_nle c1; have : (1 : Int32).toInt = 1 := rfl; have : (3 : Int32).toInt = 3 := rfl; have := fb_rng (x5); (try have := fb_addI (x := x5) (y := 1) (by omega) (by omega)); omega) (by have := i0; have := i1; have := hm; have := fb_rng (x3); omega) (by have := i0; have := i1; have := hm; have := gi_of_nle c1; have : (1 : Int32).toInt = 1 := rfl; have : (3 : Int32).toInt = 3 := rfl; have := fb_rng (x5); (try have := fb_addI (x := x5) (y := 1) (by omega) (by omega)); omega) (by have := i0; have := i1; have := hm; have := gi_of_nle c1; have : (1 : Int32).toInt = 1 := rfl; have : (3 : Int32).toInt = 3 := rfl; have := fb_rng (x5); (try have := fb_addI (x := x5) (y := 1) (by omega) (by omega)); omega)) 8589934592 (sA (sA h3 8 0 (upd (eA h3 8 0) ((((((x3 * 3) + x5) * 5) + 4)).toNatClampNeg) 0)) 8 1 (upd (eA h3 8 1) ((((((x3 * 3) + x5) * 5) + 4)).toNatClampNeg) 100)) 0 s3 (by have := i0; have := i1; have := hm; have : (0 : Int32).toInt = 0 := rfl; omega) (by have := i0; have := i1; have := hm; have := gi_of_nle c1; have : (3 : Int32).toInt = 3 := rfl; have : (4 : Int32).toInt = 4 := rfl; have : (5 : Int32).toInt = 5 := rfl; have := fb_rng (x5); have := fb_rng (x3); (try have := fb_mulK (x := x3) (y := 3) (k := 3) rfl (by omega) (by omega)); (try have := fb_addI (x := (x3 * 3)) (y := x5) (by omega) (by omega)); (try have := fb_mulK (x := ((x3 * 3) + x5)) (y := 5) (k := 5) rfl (by omega) (by omega)); (try have := fb_addI (x := (((x3 * 3) + x5) * 5)) (y := 4) (by omega) (by omega)); omega) (by have := i0; have := i1; have := hm; have := fb_rng (x3); omega) (by have := i0; have := i1; have := hm; have := gi_of_nle c1; have : (3 : Int32).toInt = 3 := rfl; have := fb_rng (x5); omega) (by decide) (by have := i0; have := i1; have := hm; have : (0 : Int32).toInt = 0 := rfl; omega)
theorem u_X3_weighGoose (h : HS) (p1 : Int32) (p2 : Int32) (hI : IC h) (w0 : 0 ≤ p1.toInt ∧ p1.toInt < 10) : ok (f_X3_weighGoose h p1 p2) (fun a => SC h a ∧ True) := by
  unfold f_X3_weighGoose
  exact u_X3_weighGoose_3 (h0 := h) p1 p2 8589934592 h 0 (SC_refl hI) (by have := w0; have : (0 : Int32).toInt = 0 := rfl; omega) (by have := w0; have := fb_rng (p1); omega) (by decide) (by have := w0; have : (0 : Int32).toInt = 0 := rfl; omega)
theorem u_X3_fewest_98 {h0 : HS} : ∀ (n : Nat) (h : HS) (x5 : Int32), SC h0 h → 0 ≤ x5.toInt → 0 < n → (4 - x5.toInt : Int) < (n : Int) → ok (f_X3_fewest_98  n h x5) (fun a => SC h0 a.2 ∧ True) := by
  intro n
  induction n with
  | zero =>
    intro h x5 hSC i0 hn hm
    exact absurd hn (by decide)
  | succ n ih_X3_fewest_98 =>
    intro h x5 hSC i0 hn hm
    rw [f_X3_fewest_98_s]
    refine ok_if (fun c1 => ?_) (fun c1 => ?_)
    · exact ok_some ⟨hSC, trivial⟩
    · refine ok_ob1 (u_G_tryGeese 6 (sL (sI h 8 8 x5) 8 9 ((eL h 8 9) * 100)) 0 0 ((st_8_8 (c := h) (x := x5) hSC (by have := i0; have := hm; have := gi_of_nlt c1; have : (3 : Int32).toInt = 3 := rfl; have := fb_rng (x5); omega) (by have := i0; have := hm; have := gi_of_nlt c1; have : (3 : Int32).toInt = 3 := rfl; have := fb_rng (x5); omega))).1 (by have := i0; have := hm; have : (0 : Int32).toInt = 0 := rfl; omega) (by have := i0; have := hm; have : (0 : Int32).toInt = 0 := rfl; omega) (by have := i0; have := hm; have : (0 : Int32).toInt = 0 := rfl; omega)) (fun h2 k2 => ?_)
      have s2 : SC h0 h2 := SC_trans (b := (sL (sI h 8 8 x5) 8 9 ((eL h 8 9) * 100))) (st_8_8 (c := h) (x := x5) hSC (by have := i0; have := hm; have := gi_of_nlt c1; have : (3 : Int32).toInt = 3 := rfl; have := fb_rng (x5); omega) (by have := i0; have := hm; have := gi_of_nlt c1; have : (3 : Int32).toInt = 3 := rfl; have := fb_rng (x5); omega)) k2.1
      refine ok_if (fun c3 => ?_) (fun c3 => ?_)
      · exact ih_X3_fewest_98 h2 (x5 + 1) s2 (by have := i0; have := hm; have := gi_of_nlt c1; have : (1 : Int32).toInt = 1 := rfl; have : (3 : Int32).toInt = 3 := rfl; have := fb_rng (x5); (try have := fb_addI (x := x5) (y := 1) (by omega) (by omega)); omega) (by have := i0; have := hm; have := gi_of_nlt c1; have : (1 : Int32).toInt = 1 := rfl; have : (3 : Int32).toInt = 3 := rfl; have := fb_rng (x5); (try have := fb_addI (x := x5) (y := 1) (by omega) (by omega)); omega) (by have := i0; have := hm; have := gi_of_nlt c1; have : (1 : Int32).toInt = 1 := rfl; have : (3 : Int32).toInt = 3 := rfl; have := fb_rng (x5); (try have := fb_addI (x := x5) (y := 1) (by omega) (by omega)); omega)
      · exact ok_some ⟨s2, trivial⟩
theorem u_X3_fewest_31 {h0 : HS} (x3 : Int32) : ∀ (n : Nat) (h : HS) (x5 : Int32), SC h0 h → 0 ≤ x5.toInt → 0 < n → (10 - (x5).toInt : Int) < (n : Int) → ok (f_X3_fewest_31  n h x3 x5) (fun a => SC h0 a.2 ∧ True) := by
  intro n
  induction n with
  | zero =>
    intro h x5 hSC i0 hn hm
    exact absurd hn (by decide)
  | succ n ih_X3_fewest_31 =>
    intro h x5 hSC i0 hn hm
    rw [f_X3_fewest_31_s]
    refine ok_if (fun c1 => ?_) (fun c1 => ?_)
    · exact u_X3_fewest_98 (h0 := h0) 8589934592 h 1 hSC (by have := i0; have := hm; have : (1 : Int32).toInt = 1 := rfl; omega) (by decide) (by have := i0; have := hm; have : (1 : Int32).toInt = 1 := rfl; omega)
    · refine ok_ob2 (u_X4_isFree h x5 (hSC).1) (fun r2 h2 k2 => ?_)
      have e2 : h = h2 := k2.1.symm
      subst e2
      refine ok_if (fun c3 => ?_) (fun c3 => ?_)
      · unfold f_X3_fewest_68
        unfold f_X3_fewest_69
        refine ok_chk (by have := i0; have := hm; have := gi_of_nle c1; have : (10 : Int32).toInt = 10 := rfl; have := fb_rng (x5); omega) ?_
        refine ok_chk (by have := i0; have := hm; have := gi_of_nle c1; have : (10 : Int32).toInt = 10 := rfl; have := fb_rng (x5); omega) ?_
        refine ok_if (fun c6 => ?_) (fun c6 => ?_)
        · unfold f_X3_fewest_89
          exact ih_X3_fewest_31 (sA h 8 2 (upd (eA h 8 2) ((x5).toNatClampNeg) (vp_nar .boolean 0))) (x5 + 1) hSC (by have := i0; have := hm; have := gi_of_nle c1; have := gi_of_eq c6; have : (0 : Int32).toInt = 0 := rfl; have : (1 : Int32).toInt = 1 := rfl; have : (10 : Int32).toInt = 10 := rfl; have := fb_rng (x5); have := fb_rng ((upd (eA h 8 2) ((x5).toNatClampNeg) (vp_nar .boolean 0)) ((x5).toNatClampNeg)); (try have := fb_addI (x := x5) (y := 1) (by omega) (by omega)); omega) (by have := i0; have := hm; have := gi_of_nle c1; have := gi_of_eq c6; have : (0 : Int32).toInt = 0 := rfl; have : (1 : Int32).toInt = 1 := rfl; have : (10 : Int32).toInt = 10 := rfl; have := fb_rng (x5); have := fb_rng ((upd (eA h 8 2) ((x5).toNatClampNeg) (vp_nar .boolean 0)) ((x5).toNatClampNeg)); (try have := fb_addI (x := x5) (y := 1) (by omega) (by omega)); omega) (by have := i0; have := hm; have := gi_of_nle c1; have := gi_of_eq c6; have : (0 : Int32).toInt = 0 := rfl; have : (1 : Int32).toInt = 1 := rfl; have : (10 : Int32).toInt = 10 := rfl; have := fb_rng (x5); have := fb_rng ((upd (eA h 8 2) ((x5).toNatClampNeg) (vp_nar .boolean 0)) ((x5).toNatClampNeg)); (try have := fb_addI (x := x5) (y := 1) (by omega) (by omega)); omega)
        · refine ok_ob1 (u_X3_weighGoose (sA h 8 2 (upd (eA h 8 2) ((x5).toNatClampNeg) (vp_nar .boolean 0))) x5 x3 (hSC).1 (by have := i0; have := hm; have := gi_of_nle c1; have := gi_of_ne c6; have : (0 : Int32).toInt = 0 := rfl; have : (10 : Int32).toInt = 10 := rfl; have := fb_rng (x5); have := fb_rng ((upd (eA h 8 2) ((x5).toNatClampNeg) (vp_nar .boolean 0)) ((x5).toNatClampNeg)); omega)) (fun h7 k7 => ?_)
          have s7 : SC h0 h7 := SC_trans (b := (sA h 8 2 (upd (eA h 8 2) ((x5).toNatClampNeg) (vp_nar .boolean 0)))) hSC k7.1
          unfold f_X3_fewest_89
          exact ih_X3_fewest_31 h7 (x5 + 1) s7 (by have := i0; have := hm; have := gi_of_nle c1; have := gi_of_ne c6; have : (0 : Int32).toInt = 0 := rfl; have : (1 : Int32).toInt = 1 := rfl; have : (10 : Int32).toInt = 10 := rfl; have := fb_rng (x5); have := fb_rng ((upd (eA h 8 2) ((x5).toNatClampNeg) (vp_nar .boolean 0)) ((x5).toNatClampNeg)); (try have := fb_addI (x := x5) (y := 1) (by omega) (by omega)); omega) (by have := i0; have := hm; have := gi_of_nle c1; have := gi_of_ne c6; have : (0 : Int32).toInt = 0 := rfl; have : (1 : Int32).toInt = 1 := rfl; have : (10 : Int32).toInt = 10 := rfl; have := fb_rng (x5); have := fb_rng ((upd (eA h 8 2) ((x5).toNatClampNeg) (vp_nar .boolean 0)) ((x5).toNatClampNeg)); (try have := fb_addI (x := x5) (y := 1) (by omega) (by omega)); omega) (by have := i0; have := hm; have := gi_of_nle c1; have := gi_of_ne c6; have : (0 : Int32).toInt = 0 := rfl; have : (1 : Int32).toInt = 1 := rfl; have : (10 : Int32).toInt = 10 := rfl; have := fb_rng (x5); have := fb_rng ((upd (eA h 8 2) ((x5).toNatClampNeg) (vp_nar .boolean 0)) ((x5).toNatClampNeg)); (try have := fb_addI (x := x5) (y := 1) (by omega) (by omega)); omega)
      · refine ok_ob2 (u_X4_ofGoose h x5 2 (hSC).1) (fun r8 h8 k8 => ?_)
        have e8 : h = h8 := k8.1.symm
        subst e8
        refine ok_if (fun c9 => ?_) (fun c9 => ?_)
        · unfold f_X3_fewest_69
          refine ok_chk (by have := i0; have := hm; have := gi_of_nle c1; have : (10 : Int32).toInt = 10 := rfl; have := fb_rng (x5); omega) ?_
          refine ok_chk (by have := i0; have := hm; have := gi_of_nle c1; have : (10 : Int32).toInt = 10 := rfl; have := fb_rng (x5); omega) ?_
          refine ok_if (fun c12 => ?_) (fun c12 => ?_)
          · unfold f_X3_fewest_89
            exact ih_X3_fewest_31 (sA h 8 2 (upd (eA h 8 2) ((x5).toNatClampNeg) (vp_nar .boolean 1))) (x5 + 1) hSC (by have := i0; have := hm; have := gi_of_nle c1; have := gi_of_eq c12; have : (0 : Int32).toInt = 0 := rfl; have : (1 : Int32).toInt = 1 := rfl; have : (10 : Int32).toInt = 10 := rfl; have := fb_rng (x5); have := fb_rng ((upd (eA h 8 2) ((x5).toNatClampNeg) (vp_nar .boolean 1)) ((x5).toNatClampNeg)); (try have := fb_addI (x := x5) (y := 1) (by omega) (by omega)); omega) (by have := i0; have := hm; have := gi_of_nle c1; have := gi_of_eq c12; have : (0 : Int32).toInt = 0 := rfl; have : (1 : Int32).toInt = 1 := rfl; have : (10 : Int32).toInt = 10 := rfl; have := fb_rng (x5); have := fb_rng ((upd (eA h 8 2) ((x5).toNatClampNeg) (vp_nar .boolean 1)) ((x5).toNatClampNeg)); (try have := fb_addI (x := x5) (y := 1) (by omega) (by omega)); omega) (by have := i0; have := hm; have := gi_of_nle c1; have := gi_of_eq c12; have : (0 : Int32).toInt = 0 := rfl; have : (1 : Int32).toInt = 1 := rfl; have : (10 : Int32).toInt = 10 := rfl; have := fb_rng (x5); have := fb_rng ((upd (eA h 8 2) ((x5).toNatClampNeg) (vp_nar .boolean 1)) ((x5).toNatClampNeg)); (try have := fb_addI (x := x5) (y := 1) (by omega) (by omega)); omega)
          · refine ok_ob1 (u_X3_weighGoose (sA h 8 2 (upd (eA h 8 2) ((x5).toNatClampNeg) (vp_nar .boolean 1))) x5 x3 (hSC).1 (by have := i0; have := hm; have := gi_of_nle c1; have := gi_of_ne c12; have : (0 : Int32).toInt = 0 := rfl; have : (10 : Int32).toInt = 10 := rfl; have := fb_rng (x5); have := fb_rng ((upd (eA h 8 2) ((x5).toNatClampNeg) (vp_nar .boolean 1)) ((x5).toNatClampNeg)); omega)) (fun h13 k13 => ?_)
            have s13 : SC h0 h13 := SC_trans (b := (sA h 8 2 (upd (eA h 8 2) ((x5).toNatClampNeg) (vp_nar .boolean 1)))) hSC k13.1
            unfold f_X3_fewest_89
            exact ih_X3_fewest_31 h13 (x5 + 1) s13 (by have := i0; have := hm; have := gi_of_nle c1; have := gi_of_ne c12; have : (0 : Int32).toInt = 0 := rfl; have : (1 : Int32).toInt = 1 := rfl; have : (10 : Int32).toInt = 10 := rfl; have := fb_rng (x5); have := fb_rng ((upd (eA h 8 2) ((x5).toNatClampNeg) (vp_nar .boolean 1)) ((x5).toNatClampNeg)); (try have := fb_addI (x := x5) (y := 1) (by omega) (by omega)); omega) (by have := i0; have := hm; have := gi_of_nle c1; have := gi_of_ne c12; have : (0 : Int32).toInt = 0 := rfl; have : (1 : Int32).toInt = 1 := rfl; have : (10 : Int32).toInt = 10 := rfl; have := fb_rng (x5); have := fb_rng ((upd (eA h 8 2) ((x5).toNatClampNeg) (vp_nar .boolean 1)) ((x5).toNatClampNeg)); (try have := fb_addI (x := x5) (y := 1) (by omega) (by omega)); omega) (by have := i0; have := hm; have := gi_of_nle c1; have := gi_of_ne c12; have : (0 : Int32).toInt = 0 := rfl; have : (1 : Int32).toInt = 1 := rfl; have : (10 : Int32).toInt = 10 := rfl; have := fb_rng (x5); have := fb_rng ((upd (eA h 8 2) ((x5).toNatClampNeg) (vp_nar .boolean 1)) ((x5).toNatClampNeg)); (try have := fb_addI (x := x5) (y := 1) (by omega) (by omega)); omega)
        · unfold f_X3_fewest_68
          unfold f_X3_fewest_69
          refine ok_chk (by have := i0; have := hm; have := gi_of_nle c1; have : (10 : Int32).toInt = 10 := rfl; have := fb_rng (x5); omega) ?_
          refine ok_chk (by have := i0; have := hm; have := gi_of_nle c1; have : (10 : Int32).toInt = 10 := rfl; have := fb_rng (x5); omega) ?_
          refine ok_if (fun c16 => ?_) (fun c16 => ?_)
          · unfold f_X3_fewest_89
            exact ih_X3_fewest_31 (sA h 8 2 (upd (eA h 8 2) ((x5).toNatClampNeg) (vp_nar .boolean 0))) (x5 + 1) hSC (by have := i0; have := hm; have := gi_of_nle c1; have := gi_of_eq c16; have : (0 : Int32).toInt = 0 := rfl; have : (1 : Int32).toInt = 1 := rfl; have : (10 : Int32).toInt = 10 := rfl; have := fb_rng (x5); have := fb_rng ((upd (eA h 8 2) ((x5).toNatClampNeg) (vp_nar .boolean 0)) ((x5).toNatClampNeg)); (try have := fb_addI (x := x5) (y := 1) (by omega) (by omega)); omega) (by have := i0; have := hm; have := gi_of_nle c1; have := gi_of_eq c16; have : (0 : Int32).toInt = 0 := rfl; have : (1 : Int32).toInt = 1 := rfl; have : (10 : Int32).toInt = 10 := rfl; have := fb_rng (x5); have := fb_rng ((upd (eA h 8 2) ((x5).toNatClampNeg) (vp_nar .boolean 0)) ((x5).toNatClampNeg)); (try have := fb_addI (x := x5) (y := 1) (by omega) (by omega)); omega) (by have := i0; have := hm; have := gi_of_nle c1; have := gi_of_eq c16; have : (0 : Int32).toInt = 0 := rfl; have : (1 : Int32).toInt = 1 := rfl; have : (10 : Int32).toInt = 10 := rfl; have := fb_rng (x5); have := fb_rng ((upd (eA h 8 2) ((x5).toNatClampNeg) (vp_nar .boolean 0)) ((x5).toNatClampNeg)); (try have := fb_addI (x := x5) (y := 1) (by omega) (by omega)); omega)
          · refine ok_ob1 (u_X3_weighGoose (sA h 8 2 (upd (eA h 8 2) ((x5).toNatClampNeg) (vp_nar .boolean 0))) x5 x3 (hSC).1 (by have := i0; have := hm; have := gi_of_nle c1; have := gi_of_ne c16; have : (0 : Int32).toInt = 0 := rfl; have : (10 : Int32).toInt = 10 := rfl; have := fb_rng (x5); have := fb_rng ((upd (eA h 8 2) ((x5).toNatClampNeg) (vp_nar .boolean 0)) ((x5).toNatClampNeg)); omega)) (fun h17 k17 => ?_)
            have s17 : SC h0 h17 := SC_trans (b := (sA h 8 2 (upd (eA h 8 2) ((x5).toNatClampNeg) (vp_nar .boolean 0)))) hSC k17.1
            unfold f_X3_fewest_89
            exact ih_X3_fewest_31 h17 (x5 + 1) s17 (by have := i0; have := hm; have := gi_of_nle c1; have := gi_of_ne c16; have : (0 : Int32).toInt = 0 := rfl; have : (1 : Int32).toInt = 1 := rfl; have : (10 : Int32).toInt = 10 := rfl; have := fb_rng (x5); have := fb_rng ((upd (eA h 8 2) ((x5).toNatClampNeg) (vp_nar .boolean 0)) ((x5).toNatClampNeg)); (try have := fb_addI (x := x5) (y := 1) (by omega) (by omega)); omega) (by have := i0; have := hm; have := gi_of_nle c1; have := gi_of_ne c16; have : (0 : Int32).toInt = 0 := rfl; have : (1 : Int32).toInt = 1 := rfl; have : (10 : Int32).toInt = 10 := rfl; have := fb_rng (x5); have := fb_rng ((upd (eA h 8 2) ((x5).toNatClampNeg) (vp_nar .boolean 0)) ((x5).toNatClampNeg)); (try have := fb_addI (x := x5) (y := 1) (by omega) (by omega)); omega) (by have := i0; have := hm; have := gi_of_nle c1; have := gi_of_ne c16; have : (0 : Int32).toInt = 0 := rfl; have : (1 : Int32).toInt = 1 := rfl; have : (10 : Int32).toInt = 10 := rfl; have := fb_rng (x5); have := fb_rng ((upd (eA h 8 2) ((x5).toNatClampNeg) (vp_nar .boolean 0)) ((x5).toNatClampNeg)); (try have := fb_addI (x := x5) (y := 1) (by omega) (by omega)); omega)
theorem u_X3_fewest (h : HS) (p1 : Int32) (p2 : Int32) (hI : IC h) : ok (f_X3_fewest h p1 p2) (fun a => SC h a.2 ∧ True) := by
  unfold f_X3_fewest
  exact u_X3_fewest_31 (h0 := h) p1 8589934592 (sI (sI (sL (sI h 8 10 p2) 8 9 1) 8 12 0) 8 11 (if (eI h 1 4) < 4 then (eI h 1 4) else 4)) 0 (st_8_11 (c := (sI (sL (sI h 8 10 p2) 8 9 1) 8 12 0)) (x := (if (eI h 1 4) < 4 then (eI h 1 4) else 4)) (SC_refl hI) (by have := IC_n (SC_refl hI).1; have : (4 : Int32).toInt = 4 := rfl; have := fb_rng (eI h 1 4); have := fb_itel (x := (eI h 1 4)) (y := 4) (a := (eI h 1 4)) (b := 4); omega)) (by have : (0 : Int32).toInt = 0 := rfl; omega) (by decide) (by have : (0 : Int32).toInt = 0 := rfl; omega)
