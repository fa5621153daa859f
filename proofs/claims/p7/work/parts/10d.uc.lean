theorem u_X6_clear_0_12 {h0 : HS} : ∀ (n : Nat) (h : HS) (x1 : Int32), SC h0 h → 0 ≤ x1.toInt → 0 < n → (4 - (x1).toInt : Int) < (n : Int) → ok (f_X6_clear_0_12  n h x1) (fun a => SC h0 a ∧ True) := by
  intro n
  induction n with
  | zero =>
    intro h x1 hSC i0 hn hm
    exact absurd hn (by decide)
  | succ n ih_X6_clear_0_12 =>
    intro h x1 hSC i0 hn hm
    rw [f_X6_clear_0_12_s]
    refine ok_if (fun c1 => ?_) (fun c1 => ?_)
    · exact ok_some ⟨hSC, trivial⟩
    · refine ok_chk (by have := i0; have := hm; have := gi_of_nle c1; have : (4 : Int32).toInt = 4 := rfl; have := fb_rng (x1); omega) ?_
      refine ok_chk (by have := i0; have := hm; have := gi_of_nle c1; have : (4 : Int32).toInt = 4 := rfl; have := fb_rng (x1); omega) ?_
      exact ih_X6_clear_0_12 (sA (sA h 9 3 (upd (eA h 9 3) ((x1).toNatClampNeg) (-1))) 9 4 (upd (eA h 9 4) ((x1).toNatClampNeg) (-1))) (x1 + 1) hSC (by have := i0; have := hm; have := gi_of_nle c1; have : (1 : Int32).toInt = 1 := rfl; have : (4 : Int32).toInt = 4 := rfl; have := fb_rng (x1); (try have := fb_addI (x := x1) (y := 1) (by omega) (by omega)); omega) (by have := i0; have := hm; have := gi_of_nle c1; have : (1 : Int32).toInt = 1 := rfl; have : (4 : Int32).toInt = 4 := rfl; have := fb_rng (x1); (try have := fb_addI (x := x1) (y := 1) (by omega) (by omega)); omega) (by have := i0; have := hm; have := gi_of_nle c1; have : (1 : Int32).toInt = 1 := rfl; have : (4 : Int32).toInt = 4 := rfl; have := fb_rng (x1); (try have := fb_addI (x := x1) (y := 1) (by omega) (by omega)); omega)
theorem u_X6_clear_0 (h : HS) (hI : IC h) : ok (f_X6_clear_0 h) (fun a => SC h a ∧ True) := by
  unfold f_X6_clear_0
  exact u_X6_clear_0_12 (h0 := h) 8589934592 (sI (sI h 9 1 0) 9 5 0) 0 (st_9_5 (c := (sI h 9 1 0)) (x := 0) (SC_refl hI) (by have : (0 : Int32).toInt = 0 := rfl; omega) (by have : (0 : Int32).toInt = 0 := rfl; omega)) (by have : (0 : Int32).toInt = 0 := rfl; omega) (by decide) (by have : (0 : Int32).toInt = 0 := rfl; omega)
theorem u_X6_hasLaw_0 (h : HS) (p1 : Int32) (hI : IC h) : ok (f_X6_hasLaw_0 h p1) (fun a => a.2 = h ∧ (a.1 = 0 ∨ a.1 = 1)) := by
  unfold f_X6_hasLaw_0
  refine ok_if (fun c1 => ?_) (fun c1 => ?_)
  · unfold f_X6_hasLaw_0_23
    unfold f_X6_hasLaw_0_24
    refine ok_chk (Or.inl rfl) ?_
    exact ok_some ⟨rfl, (Or.inl rfl)⟩
  · refine ok_if (fun c3 => ?_) (fun c3 => ?_)
    · unfold f_X6_hasLaw_0_23
      unfold f_X6_hasLaw_0_24
      refine ok_chk (Or.inl rfl) ?_
      exact ok_some ⟨rfl, (Or.inl rfl)⟩
    · refine ok_chk (by have := gi_of_nlt c1; have := gi_of_nle c3; have : (0 : Int32).toInt = 0 := rfl; have : (4 : Int32).toInt = 4 := rfl; have := fb_rng (p1); omega) ?_
      refine ok_if (fun c6 => ?_) (fun c6 => ?_)
      · unfold f_X6_hasLaw_0_23
        unfold f_X6_hasLaw_0_24
        refine ok_chk (Or.inl rfl) ?_
        exact ok_some ⟨rfl, (Or.inl rfl)⟩
      · unfold f_X6_hasLaw_0_24
        refine ok_chk (Or.inr rfl) ?_
        exact ok_some ⟨rfl, (Or.inr rfl)⟩
theorem u_X6_beginLaw_0 (h : HS) (p1 : Int32) (hI : IC h) : ok (f_X6_beginLaw_0 h p1) (fun a => SC h a ∧ True) := by
  unfold f_X6_beginLaw_0
  refine ok_if (fun c1 => ?_) (fun c1 => ?_)
  · unfold f_X6_beginLaw_0_19
    exact ok_some ⟨(SC_refl hI), trivial⟩
  · refine ok_if (fun c2 => ?_) (fun c2 => ?_)
    · unfold f_X6_beginLaw_0_19
      exact ok_some ⟨(SC_refl hI), trivial⟩
    · refine ok_chk (by have := gi_of_nlt c1; have := gi_of_nle c2; have : (0 : Int32).toInt = 0 := rfl; have : (4 : Int32).toInt = 4 := rfl; have := fb_rng (p1); omega) ?_
      unfold f_X6_beginLaw_0_19
      exact ok_some ⟨(SC_refl hI), trivial⟩
theorem u_X6_closeLaw_0 (h : HS) (p1 : Int32) (hI : IC h) : ok (f_X6_closeLaw_0 h p1) (fun a => SC h a ∧ True) := by
  unfold f_X6_closeLaw_0
  refine ok_if (fun c1 => ?_) (fun c1 => ?_)
  · unfold f_X6_closeLaw_0_19
    exact ok_some ⟨(SC_refl hI), trivial⟩
  · refine ok_if (fun c2 => ?_) (fun c2 => ?_)
    · unfold f_X6_closeLaw_0_19
      exact ok_some ⟨(SC_refl hI), trivial⟩
    · refine ok_chk (by have := gi_of_nlt c1; have := gi_of_nle c2; have : (0 : Int32).toInt = 0 := rfl; have : (4 : Int32).toInt = 4 := rfl; have := fb_rng (p1); omega) ?_
      unfold f_X6_closeLaw_0_19
      exact ok_some ⟨(SC_refl hI), trivial⟩
theorem u_X6_firstStep_0 (h : HS) (p1 : Int32) (hI : IC h) : ok (f_X6_firstStep_0 h p1) (fun a => a.2 = h ∧ True) := by
  unfold f_X6_firstStep_0
  refine ok_if (fun c1 => ?_) (fun c1 => ?_)
  · unfold f_X6_firstStep_0_18
    unfold f_X6_firstStep_0_19
    exact ok_some ⟨rfl, trivial⟩
  · refine ok_if (fun c2 => ?_) (fun c2 => ?_)
    · unfold f_X6_firstStep_0_18
      unfold f_X6_firstStep_0_19
      exact ok_some ⟨rfl, trivial⟩
    · refine ok_chk (by have := gi_of_nlt c1; have := gi_of_nle c2; have : (0 : Int32).toInt = 0 := rfl; have : (4 : Int32).toInt = 4 := rfl; have := fb_rng (p1); omega) ?_
      unfold f_X6_firstStep_0_19
      exact ok_some ⟨rfl, trivial⟩
theorem u_X6_stepsEnd_0 (h : HS) (p1 : Int32) (hI : IC h) : ok (f_X6_stepsEnd_0 h p1) (fun a => a.2 = h ∧ True) := by
  unfold f_X6_stepsEnd_0
  refine ok_if (fun c1 => ?_) (fun c1 => ?_)
  · unfold f_X6_stepsEnd_0_18
    unfold f_X6_stepsEnd_0_19
    exact ok_some ⟨rfl, trivial⟩
  · refine ok_if (fun c2 => ?_) (fun c2 => ?_)
    · unfold f_X6_stepsEnd_0_18
      unfold f_X6_stepsEnd_0_19
      exact ok_some ⟨rfl, trivial⟩
    · refine ok_chk (by have := gi_of_nlt c1; have := gi_of_nle c2; have : (0 : Int32).toInt = 0 := rfl; have : (4 : Int32).toInt = 4 := rfl; have := fb_rng (p1); omega) ?_
      unfold f_X6_stepsEnd_0_19
      exact ok_some ⟨rfl, trivial⟩
theorem u_X6_addStep_0 (h : HS) (p1 : Int32) (hI : IC h) : ok (f_X6_addStep_0 h p1) (fun a => SC h a ∧ True) := by
  unfold f_X6_addStep_0
  refine ok_if (fun c1 => ?_) (fun c1 => ?_)
  · unfold f_X6_addStep_0_32
    exact ok_some ⟨(SC_refl hI), trivial⟩
  · refine ok_chk (by have := IC_n (SC_refl hI).1; have := gi_of_nle c1; have : (300 : Int32).toInt = 300 := rfl; have := fb_rng (eI h 9 5); omega) ?_
    unfold f_X6_addStep_0_32
    exact ok_some ⟨(st_9_5 (c := (sA h 9 2 (upd (eA h 9 2) (((eI h 9 5)).toNatClampNeg) p1))) (x := ((eI h 9 5) + 1)) (SC_refl hI) (by have := IC_n (SC_refl hI).1; have := gi_of_nle c1; have : (1 : Int32).toInt = 1 := rfl; have : (300 : Int32).toInt = 300 := rfl; have := fb_rng (eI h 9 5); (try have := fb_addI (x := (eI h 9 5)) (y := 1) (by omega) (by omega)); omega) (by have := IC_n (SC_refl hI).1; have := gi_of_nle c1; have : (1 : Int32).toInt = 1 := rfl; have : (300 : Int32).toInt = 300 := rfl; have := fb_rng (eI h 9 5); (try have := fb_addI (x := (eI h 9 5)) (y := 1) (by omega) (by omega)); omega)), trivial⟩
theorem u_X6_stepAt_0 (h : HS) (p1 : Int32) (hI : IC h) : ok (f_X6_stepAt_0 h p1) (fun a => a.2 = h ∧ True) := by
  unfold f_X6_stepAt_0
  refine ok_if (fun c1 => ?_) (fun c1 => ?_)
  · unfold f_X6_stepAt_0_30
    unfold f_X6_stepAt_0_31
    exact ok_some ⟨rfl, trivial⟩
  · refine ok_if (fun c2 => ?_) (fun c2 => ?_)
    · unfold f_X6_stepAt_0_30
      unfold f_X6_stepAt_0_31
      exact ok_some ⟨rfl, trivial⟩
    · refine ok_if (fun c3 => ?_) (fun c3 => ?_)
      · unfold f_X6_stepAt_0_30
        unfold f_X6_stepAt_0_31
        exact ok_some ⟨rfl, trivial⟩
      · refine ok_chk (by have := IC_n (SC_refl hI).1; have := gi_of_nlt c1; have := gi_of_nle c2; have := gi_of_nle c3; have : (0 : Int32).toInt = 0 := rfl; have : (300 : Int32).toInt = 300 := rfl; have := fb_rng (p1); have := fb_rng (eI h 9 5); omega) ?_
        unfold f_X6_stepAt_0_31
        exact ok_some ⟨rfl, trivial⟩
theorem u_X6_clauseField_0 (h : HS) (p1 : Int32) (p2 : Int32) (hI : IC h) : ok (f_X6_clauseField_0 h p1 p2) (fun a => a.2 = h ∧ True) := by
  unfold f_X6_clauseField_0
  refine ok_if (fun c1 => ?_) (fun c1 => ?_)
  · unfold f_X6_clauseField_0_19
    exact ok_some ⟨rfl, trivial⟩
  · refine ok_if (fun c2 => ?_) (fun c2 => ?_)
    · unfold f_X6_clauseField_0_19
      exact ok_some ⟨rfl, trivial⟩
    · refine ok_if (fun c3 => ?_) (fun c3 => ?_)
      · unfold f_X6_clauseField_0_19
        exact ok_some ⟨rfl, trivial⟩
      · refine ok_if (fun c4 => ?_) (fun c4 => ?_)
        · refine ok_chk (by have := gi_of_nlt c1; have := gi_of_nle c2; have := gi_of_nlt c3; have := gi_of_lt c4; have : (0 : Int32).toInt = 0 := rfl; have : (24 : Int32).toInt = 24 := rfl; have : (4 : Int32).toInt = 4 := rfl; have := fb_rng (p1); have := fb_rng (p2); (try have := fb_mulK (x := p1) (y := 4) (k := 4) rfl (by omega) (by omega)); (try have := fb_addI (x := (p1 * 4)) (y := p2) (by omega) (by omega)); omega) ?_
          exact ok_some ⟨rfl, trivial⟩
        · unfold f_X6_clauseField_0_19
          exact ok_some ⟨rfl, trivial⟩
theorem u_X6_setClause_0 (h : HS) (p1 : Int32) (p2 : Int32) (p3 : Int32) (hI : IC h) : ok (f_X6_setClause_0 h p1 p2 p3) (fun a => SC h a ∧ True) := by
  unfold f_X6_setClause_0
  refine ok_if (fun c1 => ?_) (fun c1 => ?_)
  · unfold f_X6_setClause_0_30
    exact ok_some ⟨(SC_refl hI), trivial⟩
  · refine ok_if (fun c2 => ?_) (fun c2 => ?_)
    · unfold f_X6_setClause_0_30
      exact ok_some ⟨(SC_refl hI), trivial⟩
    · refine ok_if (fun c3 => ?_) (fun c3 => ?_)
      · unfold f_X6_setClause_0_30
        exact ok_some ⟨(SC_refl hI), trivial⟩
      · refine ok_if (fun c4 => ?_) (fun c4 => ?_)
        · unfold f_X6_setClause_0_30
          exact ok_some ⟨(SC_refl hI), trivial⟩
        · refine ok_chk (by have := gi_of_nlt c1; have := gi_of_nle c2; have := gi_of_nlt c3; have := gi_of_nle c4; have : (0 : Int32).toInt = 0 := rfl; have : (24 : Int32).toInt = 24 := rfl; have : (4 : Int32).toInt = 4 := rfl; have := fb_rng (p1); have := fb_rng (p2); (try have := fb_mulK (x := p1) (y := 4) (k := 4) rfl (by omega) (by omega)); (try have := fb_addI (x := (p1 * 4)) (y := p2) (by omega) (by omega)); omega) ?_
          unfold f_X6_setClause_0_30
          exact ok_some ⟨(SC_refl hI), trivial⟩
theorem u_X6_clear_1_12 {h0 : HS} : ∀ (n : Nat) (h : HS) (x1 : Int32), SC h0 h → 0 ≤ x1.toInt → 0 < n → (4 - (x1).toInt : Int) < (n : Int) → ok (f_X6_clear_1_12  n h x1) (fun a => SC h0 a ∧ True) := by
  intro n
  induction n with
  | zero =>
    intro h x1 hSC i0 hn hm
    exact absurd hn (by decide)
  | succ n ih_X6_clear_1_12 =>
    intro h x1 hSC i0 hn hm
    rw [f_X6_clear_1_12_s]
    refine ok_if (fun c1 => ?_) (fun c1 => ?_)
    · exact ok_some ⟨hSC, trivial⟩
    · refine ok_chk (by have := i0; have := hm; have := gi_of_nle c1; have : (4 : Int32).toInt = 4 := rfl; have := fb_rng (x1); omega) ?_
      refine ok_chk (by have := i0; have := hm; have := gi_of_nle c1; have : (4 : Int32).toInt = 4 := rfl; have := fb_rng (x1); omega) ?_
      exact ih_X6_clear_1_12 (sA (sA h 10 3 (upd (eA h 10 3) ((x1).toNatClampNeg) (-1))) 10 4 (upd (eA h 10 4) ((x1).toNatClampNeg) (-1))) (x1 + 1) hSC (by have := i0; have := hm; have := gi_of_nle c1; have : (1 : Int32).toInt = 1 := rfl; have : (4 : Int32).toInt = 4 := rfl; have := fb_rng (x1); (try have := fb_addI (x := x1) (y := 1) (by omega) (by omega)); omega) (by have := i0; have := hm; have := gi_of_nle c1; have : (1 : Int32).toInt = 1 := rfl; have : (4 : Int32).toInt = 4 := rfl; have := fb_rng (x1); (try have := fb_addI (x := x1) (y := 1) (by omega) (by omega)); omega) (by have := i0; have := hm; have := gi_of_nle c1; have : (1 : Int32).toInt = 1 := rfl; have : (4 : Int32).toInt = 4 := rfl; have := fb_rng (x1); (try have := fb_addI (x := x1) (y := 1) (by omega) (by omega)); omega)
theorem u_X6_clear_1 (h : HS) (hI : IC h) : ok (f_X6_clear_1 h) (fun a => SC h a ∧ True) := by
  unfold f_X6_clear_1
  exact u_X6_clear_1_12 (h0 := h) 8589934592 (sI (sI h 10 1 0) 10 5 0) 0 (st_10_5 (c := (sI h 10 1 0)) (x := 0) (SC_refl hI) (by have : (0 : Int32).toInt = 0 := rfl; omega) (by have : (0 : Int32).toInt = 0 := rfl; omega)) (by have : (0 : Int32).toInt = 0 := rfl; omega) (by decide) (by have : (0 : Int32).toInt = 0 := rfl; omega)
theorem u_X6_hasLaw_1 (h : HS) (p1 : Int32) (hI : IC h) : ok (f_X6_hasLaw_1 h p1) (fun a => a.2 = h ∧ (a.1 = 0 ∨ a.1 = 1)) := by
  unfold f_X6_hasLaw_1
  refine ok_if (fun c1 => ?_) (fun c1 => ?_)
  · unfold f_X6_hasLaw_1_23
    unfold f_X6_hasLaw_1_24
    refine ok_chk (Or.inl rfl) ?_
    exact ok_some ⟨rfl, (Or.inl rfl)⟩
  · refine ok_if (fun c3 => ?_) (fun c3 => ?_)
    · unfold f_X6_hasLaw_1_23
      unfold f_X6_hasLaw_1_24
      refine ok_chk (Or.inl rfl) ?_
      exact ok_some ⟨rfl, (Or.inl rfl)⟩
    · refine ok_chk (by have := gi_of_nlt c1; have := gi_of_nle c3; have : (0 : Int32).toInt = 0 := rfl; have : (4 : Int32).toInt = 4 := rfl; have := fb_rng (p1); omega) ?_
      refine ok_if (fun c6 => ?_) (fun c6 => ?_)
      · unfold f_X6_hasLaw_1_23
        unfold f_X6_hasLaw_1_24
        refine ok_chk (Or.inl rfl) ?_
        exact ok_some ⟨rfl, (Or.inl rfl)⟩
      · unfold f_X6_hasLaw_1_24
        refine ok_chk (Or.inr rfl) ?_
        exact ok_some ⟨rfl, (Or.inr rfl)⟩
theorem u_X6_beginLaw_1 (h : HS) (p1 : Int32) (hI : IC h) : ok (f_X6_beginLaw_1 h p1) (fun a => SC h a ∧ True) := by
  unfold f_X6_beginLaw_1
  refine ok_if (fun c1 => ?_) (fun c1 => ?_)
  · unfold f_X6_beginLaw_1_19
    exact ok_some ⟨(SC_refl hI), trivial⟩
  · refine ok_if (fun c2 => ?_) (fun c2 => ?_)
    · unfold f_X6_beginLaw_1_19
      exact ok_some ⟨(SC_refl hI), trivial⟩
    · refine ok_chk (by have := gi_of_nlt c1; have := gi_of_nle c2; have : (0 : Int32).toInt = 0 := rfl; have : (4 : Int32).toInt = 4 := rfl; have := fb_rng (p1); omega) ?_
      unfold f_X6_beginLaw_1_19
      exact ok_some ⟨(SC_refl hI), trivial⟩
theorem u_X6_closeLaw_1 (h : HS) (p1 : Int32) (hI : IC h) : ok (f_X6_closeLaw_1 h p1) (fun a => SC h a ∧ True) := by
  unfold f_X6_closeLaw_1
  refine ok_if (fun c1 => ?_) (fun c1 => ?_)
  · unfold f_X6_closeLaw_1_19
    exact ok_some ⟨(SC_refl hI), trivial⟩
  · refine ok_if (fun c2 => ?_) (fun c2 => ?_)
    · unfold f_X6_closeLaw_1_19
      exact ok_some ⟨(SC_refl hI), trivial⟩
    · refine ok_chk (by have := gi_of_nlt c1; have := gi_of_nle c2; have : (0 : Int32).toInt = 0 := rfl; have : (4 : Int32).toInt = 4 := rfl; have := fb_rng (p1); omega) ?_
      unfold f_X6_closeLaw_1_19
      exact ok_some ⟨(SC_refl hI), trivial⟩
theorem u_X6_firstStep_1 (h : HS) (p1 : Int32) (hI : IC h) : ok (f_X6_firstStep_1 h p1) (fun a => a.2 = h ∧ True) := by
  unfold f_X6_firstStep_1
  refine ok_if (fun c1 => ?_) (fun c1 => ?_)
  · unfold f_X6_firstStep_1_18
    unfold f_X6_firstStep_1_19
    exact ok_some ⟨rfl, trivial⟩
  · refine ok_if (fun c2 => ?_) (fun c2 => ?_)
    · unfold f_X6_firstStep_1_18
      unfold f_X6_firstStep_1_19
      exact ok_some ⟨rfl, trivial⟩
    · refine ok_chk (by have := gi_of_nlt c1; have := gi_of_nle c2; have : (0 : Int32).toInt = 0 := rfl; have : (4 : Int32).toInt = 4 := rfl; have := fb_rng (p1); omega) ?_
      unfold f_X6_firstStep_1_19
      exact ok_some ⟨rfl, trivial⟩
theorem u_X6_stepsEnd_1 (h : HS) (p1 : Int32) (hI : IC h) : ok (f_X6_stepsEnd_1 h p1) (fun a => a.2 = h ∧ True) := by
  unfold f_X6_stepsEnd_1
  refine ok_if (fun c1 => ?_) (fun c1 => ?_)
  · unfold f_X6_stepsEnd_1_18
    unfold f_X6_stepsEnd_1_19
    exact ok_some ⟨rfl, trivial⟩
  · refine ok_if (fun c2 => ?_) (fun c2 => ?_)
    · unfold f_X6_stepsEnd_1_18
      unfold f_X6_stepsEnd_1_19
      exact ok_some ⟨rfl, trivial⟩
    · refine ok_chk (by have := gi_of_nlt c1; have := gi_of_nle c2; have : (0 : Int32).toInt = 0 := rfl; have : (4 : Int32).toInt = 4 := rfl; have := fb_rng (p1); omega) ?_
      unfold f_X6_stepsEnd_1_19
      exact ok_some ⟨rfl, trivial⟩
theorem u_X6_addStep_1 (h : HS) (p1 : Int32) (hI : IC h) : ok (f_X6_addStep_1 h p1) (fun a => SC h a ∧ True) := by
  unfold f_X6_addStep_1
  refine ok_if (fun c1 => ?_) (fun c1 => ?_)
  · unfold f_X6_addStep_1_32
    exact ok_some ⟨(SC_refl hI), trivial⟩
  · refine ok_chk (by have := IC_n (SC_refl hI).1; have := gi_of_nle c1; have : (300 : Int32).toInt = 300 := rfl; have := fb_rng (eI h 10 5); omega) ?_
    unfold f_X6_addStep_1_32
    exact ok_some ⟨(st_10_5 (c := (sA h 10 2 (upd (eA h 10 2) (((eI h 10 5)).toNatClampNeg) p1))) (x := ((eI h 10 5) + 1)) (SC_refl hI) (by have := IC_n (SC_refl hI).1; have := gi_of_nle c1; have : (1 : Int32).toInt = 1 := rfl; have : (300 : Int32).toInt = 300 := rfl; have := fb_rng (eI h 10 5); (try have := fb_addI (x := (eI h 10 5)) (y := 1) (by omega) (by omega)); omega) (by have := IC_n (SC_refl hI).1; have := gi_of_nle c1; have : (1 : Int32).toInt = 1 := rfl; have : (300 : Int32).toInt = 300 := rfl; have := fb_rng (eI h 10 5); (try have := fb_addI (x := (eI h 10 5)) (y := 1) (by omega) (by omega)); omega)), trivial⟩
theorem u_X6_stepAt_1 (h : HS) (p1 : Int32) (hI : IC h) : ok (f_X6_stepAt_1 h p1) (fun a => a.2 = h ∧ True) := by
  unfold f_X6_stepAt_1
  refine ok_if (fun c1 => ?_) (fun c1 => ?_)
  · unfold f_X6_stepAt_1_30
    unfold f_X6_stepAt_1_31
    exact ok_some ⟨rfl, trivial⟩
  · refine ok_if (fun c2 => ?_) (fun c2 => ?_)
    · unfold f_X6_stepAt_1_30
      unfold f_X6_stepAt_1_31
      exact ok_some ⟨rfl, trivial⟩
    · refine ok_if (fun c3 => ?_) (fun c3 => ?_)
      · unfold f_X6_stepAt_1_30
        unfold f_X6_stepAt_1_31
        exact ok_some ⟨rfl, trivial⟩
      · refine ok_chk (by have := IC_n (SC_refl hI).1; have := gi_of_nlt c1; have := gi_of_nle c2; have := gi_of_nle c3; have : (0 : Int32).toInt = 0 := rfl; have : (300 : Int32).toInt = 300 := rfl; have := fb_rng (p1); have := fb_rng (eI h 10 5); omega) ?_
        unfold f_X6_stepAt_1_31
        exact ok_some ⟨rfl, trivial⟩
theorem u_X6_clauseField_1 (h : HS) (p1 : Int32) (p2 : Int32) (hI : IC h) : ok (f_X6_clauseField_1 h p1 p2) (fun a => a.2 = h ∧ True) := by
  unfold f_X6_clauseField_1
  refine ok_if (fun c1 => ?_) (fun c1 => ?_)
  · unfold f_X6_clauseField_1_19
    exact ok_some ⟨rfl, trivial⟩
  · refine ok_if (fun c2 => ?_) (fun c2 => ?_)
    · unfold f_X6_clauseField_1_19
      exact ok_some ⟨rfl, trivial⟩
    · refine ok_if (fun c3 => ?_) (fun c3 => ?_)
      · unfold f_X6_clauseField_1_19
        exact ok_some ⟨rfl, trivial⟩
      · refine ok_if (fun c4 => ?_) (fun c4 => ?_)
        · refine ok_chk (by have := gi_of_nlt c1; have := gi_of_nle c2; have := gi_of_nlt c3; have := gi_of_lt c4; have : (0 : Int32).toInt = 0 := rfl; have : (24 : Int32).toInt = 24 := rfl; have : (4 : Int32).toInt = 4 := rfl; have := fb_rng (p1); have := fb_rng (p2); (try have := fb_mulK (x := p1) (y := 4) (k := 4) rfl (by omega) (by omega)); (try have := fb_addI (x := (p1 * 4)) (y := p2) (by omega) (by omega)); omega) ?_
          exact ok_some ⟨rfl, trivial⟩
        · unfold f_X6_clauseField_1_19
          exact ok_some ⟨rfl, trivial⟩
theorem u_X6_setClause_1 (h : HS) (p1 : Int32) (p2 : Int32) (p3 : Int32) (hI : IC h) : ok (f_X6_setClause_1 h p1 p2 p3) (fun a => SC h a ∧ True) := by
  unfold f_X6_setClause_1
  refine ok_if (fun c1 => ?_) (fun c1 => ?_)
  · unfold f_X6_setClause_1_30
    exact ok_some ⟨(SC_refl hI), trivial⟩
  · refine ok_if (fun c2 => ?_) (fun c2 => ?_)
    · unfold f_X6_setClause_1_30
      exact ok_some ⟨(SC_refl hI), trivial⟩
    · refine ok_if (fun c3 => ?_) (fun c3 => ?_)
      · unfold f_X6_setClause_1_30
        exact ok_some ⟨(SC_refl hI), trivial⟩
      · refine ok_if (fun c4 => ?_) (fun c4 => ?_)
        · unfold f_X6_setClause_1_30
          exact ok_some ⟨(SC_refl hI), trivial⟩
        · refine ok_chk (by have := gi_of_nlt c1; have := gi_of_nle c2; have := gi_of_nlt c3; have := gi_of_nle c4; have : (0 : Int32).toInt = 0 := rfl; have : (24 : Int32).toInt = 24 := rfl; have : (4 : Int32).toInt = 4 := rfl; have := fb_rng (p1); have := fb_rng (p2); (try have := fb_mulK (x := p1) (y := 4) (k := 4) rfl (by omega) (by omega)); (try have := fb_addI (x := (p1 * 4)) (y := p2) (by omega) (by omega)); omega) ?_
          unfold f_X6_setClause_1_30
          exact ok_some ⟨(SC_refl hI), trivial⟩
theorem u_X6_clear_2_12 {h0 : HS} : ∀ (n : Nat) (h : HS) (x1 : Int32), SC h0 h → 0 ≤ x1.toInt → 0 < n → (4 - (x1).toInt : Int) < (n : Int) → ok (f_X6_clear_2_12  n h x1) (fun a => SC h0 a ∧ True) := by
  intro n
  induction n with
  | zero =>
    intro h x1 hSC i0 hn hm
    exact absurd hn (by decide)
  | succ n ih_X6_clear_2_12 =>
    intro h x1 hSC i0 hn hm
    rw [f_X6_clear_2_12_s]
    refine ok_if (fun c1 => ?_) (fun c1 => ?_)
    · exact ok_some ⟨hSC, trivial⟩
    · refine ok_chk (by have := i0; have := hm; have := gi_of_nle c1; have : (4 : Int32).toInt = 4 := rfl; have := fb_rng (x1); omega) ?_
      refine ok_chk (by have := i0; have := hm; have := gi_of_nle c1; have : (4 : Int32).toInt = 4 := rfl; have := fb_rng (x1); omega) ?_
      exact ih_X6_clear_2_12 (sA (sA h 11 3 (upd (eA h 11 3) ((x1).toNatClampNeg) (-1))) 11 4 (upd (eA h 11 4) ((x1).toNatClampNeg) (-1))) (x1 + 1) hSC (by have := i0; have := hm; have := gi_of_nle c1; have : (1 : Int32).toInt = 1 := rfl; have : (4 : Int32).toInt = 4 := rfl; have := fb_rng (x1); (try have := fb_addI (x := x1) (y := 1) (by omega) (by omega)); omega) (by have := i0; have := hm; have := gi_of_nle c1; have : (1 : Int32).toInt = 1 := rfl; have : (4 : Int32).toInt = 4 := rfl; have := fb_rng (x1); (try have := fb_addI (x := x1) (y := 1) (by omega) (by omega)); omega) (by have := i0; have := hm; have := gi_of_nle c1; have : (1 : Int32).toInt = 1 := rfl; have : (4 : Int32).toInt = 4 := rfl; have := fb_rng (x1); (try have := fb_addI (x := x1) (y := 1) (by omega) (by omega)); omega)
theorem u_X6_clear_2 (h : HS) (hI : IC h) : ok (f_X6_clear_2 h) (fun a => SC h a ∧ True) := by
  unfold f_X6_clear_2
  exact u_X6_clear_2_12 (h0 := h) 8589934592 (sI (sI h 11 1 0) 11 5 0) 0 (st_11_5 (c := (sI h 11 1 0)) (x := 0) (SC_refl hI) (by have : (0 : Int32).toInt = 0 := rfl; omega) (by have : (0 : Int32).toInt = 0 := rfl; omega)) (by have : (0 : Int32).toInt = 0 := rfl; omega) (by decide) (by have : (0 : Int32).toInt = 0 := rfl; omega)
theorem u_X6_hasLaw_2 (h : HS) (p1 : Int32) (hI : IC h) : ok (f_X6_hasLaw_2 h p1) (fun a => a.2 = h ∧ (a.1 = 0 ∨ a.1 = 1)) := by
  unfold f_X6_hasLaw_2
  refine ok_if (fun c1 => ?_) (fun c1 => ?_)
  · unfold f_X6_hasLaw_2_23
    unfold f_X6_hasLaw_2_24
    refine ok_chk (Or.inl rfl) ?_
    exact ok_some ⟨rfl, (Or.inl rfl)⟩
  · refine ok_if (fun c3 => ?_) (fun c3 => ?_)
    · unfold f_X6_hasLaw_2_23
      unfold f_X6_hasLaw_2_24
      refine ok_chk (Or.inl rfl) ?_
      exact ok_some ⟨rfl, (Or.inl rfl)⟩
    · refine ok_chk (by have := gi_of_nlt c1; have := gi_of_nle c3; have : (0 : Int32).toInt = 0 := rfl; have : (4 : Int32).toInt = 4 := rfl; have := fb_rng (p1); omega) ?_
      refine ok_if (fun c6 => ?_) (fun c6 => ?_)
      · unfold f_X6_hasLaw_2_23
        unfold f_X6_hasLaw_2_24
        refine ok_chk (Or.inl rfl) ?_
        exact ok_some ⟨rfl, (Or.inl rfl)⟩
      · unfold f_X6_hasLaw_2_24
        refine ok_chk (Or.inr rfl) ?_
        exact ok_some ⟨rfl, (Or.inr rfl)⟩
theorem u_X6_beginLaw_2 (h : HS) (p1 : Int32) (hI : IC h) : ok (f_X6_beginLaw_2 h p1) (fun a => SC h a ∧ True) := by
  unfold f_X6_beginLaw_2
  refine ok_if (fun c1 => ?_) (fun c1 => ?_)
  · unfold f_X6_beginLaw_2_19
    exact ok_some ⟨(SC_refl hI), trivial⟩
  · refine ok_if (fun c2 => ?_) (fun c2 => ?_)
    · unfold f_X6_beginLaw_2_19
      exact ok_some ⟨(SC_refl hI), trivial⟩
    · refine ok_chk (by have := gi_of_nlt c1; have := gi_of_nle c2; have : (0 : Int32).toInt = 0 := rfl; have : (4 : Int32).toInt = 4 := rfl; have := fb_rng (p1); omega) ?_
      unfold f_X6_beginLaw_2_19
      exact ok_some ⟨(SC_refl hI), trivial⟩
theorem u_X6_closeLaw_2 (h : HS) (p1 : Int32) (hI : IC h) : ok (f_X6_closeLaw_2 h p1) (fun a => SC h a ∧ True) := by
  unfold f_X6_closeLaw_2
  refine ok_if (fun c1 => ?_) (fun c1 => ?_)
  · unfold f_X6_closeLaw_2_19
    exact ok_some ⟨(SC_refl hI), trivial⟩
  · refine ok_if (fun c2 => ?_) (fun c2 => ?_)
    · unfold f_X6_closeLaw_2_19
      exact ok_some ⟨(SC_refl hI), trivial⟩
    · refine ok_chk (by have := gi_of_nlt c1; have := gi_of_nle c2; have : (0 : Int32).toInt = 0 := rfl; have : (4 : Int32).toInt = 4 := rfl; have := fb_rng (p1); omega) ?_
      unfold f_X6_closeLaw_2_19
      exact ok_some ⟨(SC_refl hI), trivial⟩
theorem u_X6_firstStep_2 (h : HS) (p1 : Int32) (hI : IC h) : ok (f_X6_firstStep_2 h p1) (fun a => a.2 = h ∧ True) := by
  unfold f_X6_firstStep_2
  refine ok_if (fun c1 => ?_) (fun c1 => ?_)
  · unfold f_X6_firstStep_2_18
    unfold f_X6_firstStep_2_19
    exact ok_some ⟨rfl, trivial⟩
  · refine ok_if (fun c2 => ?_) (fun c2 => ?_)
    · unfold f_X6_firstStep_2_18
      unfold f_X6_firstStep_2_19
      exact ok_some ⟨rfl, trivial⟩
    · refine ok_chk (by have := gi_of_nlt c1; have := gi_of_nle c2; have : (0 : Int32).toInt = 0 := rfl; have : (4 : Int32).toInt = 4 := rfl; have := fb_rng (p1); omega) ?_
      unfold f_X6_firstStep_2_19
      exact ok_some ⟨rfl, trivial⟩
theorem u_X6_stepsEnd_2 (h : HS) (p1 : Int32) (hI : IC h) : ok (f_X6_stepsEnd_2 h p1) (fun a => a.2 = h ∧ True) := by
  unfold f_X6_stepsEnd_2
  refine ok_if (fun c1 => ?_) (fun c1 => ?_)
  · unfold f_X6_stepsEnd_2_18
    unfold f_X6_stepsEnd_2_19
    exact ok_some ⟨rfl, trivial⟩
  · refine ok_if (fun c2 => ?_) (fun c2 => ?_)
    · unfold f_X6_stepsEnd_2_18
      unfold f_X6_stepsEnd_2_19
      exact ok_some ⟨rfl, trivial⟩
    · refine ok_chk (by have := gi_of_nlt c1; have := gi_of_nle c2; have : (0 : Int32).toInt = 0 := rfl; have : (4 : Int32).toInt = 4 := rfl; have := fb_rng (p1); omega) ?_
      unfold f_X6_stepsEnd_2_19
      exact ok_some ⟨rfl, trivial⟩
theorem u_X6_addStep_2 (h : HS) (p1 : Int32) (hI : IC h) : ok (f_X6_addStep_2 h p1) (fun a => SC h a ∧ True) := by
  unfold f_X6_addStep_2
  refine ok_if (fun c1 => ?_) (fun c1 => ?_)
  · unfold f_X6_addStep_2_32
    exact ok_some ⟨(SC_refl hI), trivial⟩
  · refine ok_chk (by have := IC_n (SC_refl hI).1; have := gi_of_nle c1; have : (300 : Int32).toInt = 300 := rfl; have := fb_rng (eI h 11 5); omega) ?_
    unfold f_X6_addStep_2_32
    exact ok_some ⟨(st_11_5 (c := (sA h 11 2 (upd (eA h 11 2) (((eI h 11 5)).toNatClampNeg) p1))) (x := ((eI h 11 5) + 1)) (SC_refl hI) (by have := IC_n (SC_refl hI).1; have := gi_of_nle c1; have : (1 : Int32).toInt = 1 := rfl; have : (300 : Int32).toInt = 300 := rfl; have := fb_rng (eI h 11 5); (try have := fb_addI (x := (eI h 11 5)) (y := 1) (by omega) (by omega)); omega) (by have := IC_n (SC_refl hI).1; have := gi_of_nle c1; have : (1 : Int32).toInt = 1 := rfl; have : (300 : Int32).toInt = 300 := rfl; have := fb_rng (eI h 11 5); (try have := fb_addI (x := (eI h 11 5)) (y := 1) (by omega) (by omega)); omega)), trivial⟩
theorem u_X6_stepAt_2 (h : HS) (p1 : Int32) (hI : IC h) : ok (f_X6_stepAt_2 h p1) (fun a => a.2 = h ∧ True) := by
  unfold f_X6_stepAt_2
  refine ok_if (fun c1 => ?_) (fun c1 => ?_)
  · unfold f_X6_stepAt_2_30
    unfold f_X6_stepAt_2_31
    exact ok_some ⟨rfl, trivial⟩
  · refine ok_if (fun c2 => ?_) (fun c2 => ?_)
    · unfold f_X6_stepAt_2_30
      unfold f_X6_stepAt_2_31
      exact ok_some ⟨rfl, trivial⟩
    · refine ok_if (fun c3 => ?_) (fun c3 => ?_)
      · unfold f_X6_stepAt_2_30
        unfold f_X6_stepAt_2_31
        exact ok_some ⟨rfl, trivial⟩
      · refine ok_chk (by have := IC_n (SC_refl hI).1; have := gi_of_nlt c1; have := gi_of_nle c2; have := gi_of_nle c3; have : (0 : Int32).toInt = 0 := rfl; have : (300 : Int32).toInt = 300 := rfl; have := fb_rng (p1); have := fb_rng (eI h 11 5); omega) ?_
        unfold f_X6_stepAt_2_31
        exact ok_some ⟨rfl, trivial⟩
theorem u_X6_clauseField_2 (h : HS) (p1 : Int32) (p2 : Int32) (hI : IC h) : ok (f_X6_clauseField_2 h p1 p2) (fun a => a.2 = h ∧ True) := by
  unfold f_X6_clauseField_2
  refine ok_if (fun c1 => ?_) (fun c1 => ?_)
  · unfold f_X6_clauseField_2_19
    exact ok_some ⟨rfl, trivial⟩
  · refine ok_if (fun c2 => ?_) (fun c2 => ?_)
    · unfold f_X6_clauseField_2_19
      exact ok_some ⟨rfl, trivial⟩
    · refine ok_if (fun c3 => ?_) (fun c3 => ?_)
      · unfold f_X6_clauseField_2_19
        exact ok_some ⟨rfl, trivial⟩
      · refine ok_if (fun c4 => ?_) (fun c4 => ?_)
        · refine ok_chk (by have := gi_of_nlt c1; have := gi_of_nle c2; have := gi_of_nlt c3; have := gi_of_lt c4; have : (0 : Int32).toInt = 0 := rfl; have : (24 : Int32).toInt = 24 := rfl; have : (4 : Int32).toInt = 4 := rfl; have := fb_rng (p1); have := fb_rng (p2); (try have := fb_mulK (x := p1) (y := 4) (k := 4) rfl (by omega) (by omega)); (try have := fb_addI (x := (p1 * 4)) (y := p2) (by omega) (by omega)); omega) ?_
          exact ok_some ⟨rfl, trivial⟩
        · unfold f_X6_clauseField_2_19
          exact ok_some ⟨rfl, trivial⟩
theorem u_X6_setClause_2 (h : HS) (p1 : Int32) (p2 : Int32) (p3 : Int32) (hI : IC h) : ok (f_X6_setClause_2 h p1 p2 p3) (fun a => SC h a ∧ True) := by
  unfold f_X6_setClause_2
  refine ok_if (fun c1 => ?_) (fun c1 => ?_)
  · unfold f_X6_setClause_2_30
    exact ok_some ⟨(SC_refl hI), trivial⟩
  · refine ok_if (fun c2 => ?_) (fun c2 => ?_)
    · unfold f_X6_setClause_2_30
      exact ok_some ⟨(SC_refl hI), trivial⟩
    · refine ok_if (fun c3 => ?_) (fun c3 => ?_)
      · unfold f_X6_setClause_2_30
        exact ok_some ⟨(SC_refl hI), trivial⟩
      · refine ok_if (fun c4 => ?_) (fun c4 => ?_)
        · unfold f_X6_setClause_2_30
          exact ok_some ⟨(SC_refl hI), trivial⟩
        · refine ok_chk (by have := gi_of_nlt c1; have := gi_of_nle c2; have := gi_of_nlt c3; have := gi_of_nle c4; have : (0 : Int32).toInt = 0 := rfl; have : (24 : Int32).toInt = 24 := rfl; have : (4 : Int32).toInt = 4 := rfl; have := fb_rng (p1); have := fb_rng (p2); (try have := fb_mulK (x := p1) (y := 4) (k := 4) rfl (by omega) (by omega)); (try have := fb_addI (x := (p1 * 4)) (y := p2) (by omega) (by omega)); omega) ?_
          unfold f_X6_setClause_2_30
          exact ok_some ⟨(SC_refl hI), trivial⟩
theorem u_X6_clear_3_12 {h0 : HS} : ∀ (n : Nat) (h : HS) (x1 : Int32), SC h0 h → 0 ≤ x1.toInt → 0 < n → (4 - (x1).toInt : Int) < (n : Int) → ok (f_X6_clear_3_12  n h x1) (fun a => SC h0 a ∧ True) := by
  intro n
  induction n with
  | zero =>
    intro h x1 hSC i0 hn hm
    exact absurd hn (by decide)
  | succ n ih_X6_clear_3_12 =>
    intro h x1 hSC i0 hn hm
    rw [f_X6_clear_3_12_s]
    refine ok_if (fun c1 => ?_) (fun c1 => ?_)
    · exact ok_some ⟨hSC, trivial⟩
    · refine ok_chk (by have := i0; have := hm; have := gi_of_nle c1; have : (4 : Int32).toInt = 4 := rfl; have := fb_rng (x1); omega) ?_
      refine ok_chk (by have := i0; have := hm; have := gi_of_nle c1; have : (4 : Int32).toInt = 4 := rfl; have := fb_rng (x1); omega) ?_
      exact ih_X6_clear_3_12 (sA (sA h 12 3 (upd (eA h 12 3) ((x1).toNatClampNeg) (-1))) 12 4 (upd (eA h 12 4) ((x1).toNatClampNeg) (-1))) (x1 + 1) hSC (by have := i0; have := hm; have := gi_of_nle c1; have : (1 : Int32).toInt = 1 := rfl; have : (4 : Int32).toInt = 4 := rfl; have := fb_rng (x1); (try have := fb_addI (x := x1) (y := 1) (by omega) (by omega)); omega) (by have := i0; have := hm; have := gi_of_nle c1; have : (1 : Int32).toInt = 1 := rfl; have : (4 : Int32).toInt = 4 := rfl; have := fb_rng (x1); (try have := fb_addI (x := x1) (y := 1) (by omega) (by omega)); omega) (by have := i0; have := hm; have := gi_of_nle c1; have : (1 : Int32).toInt = 1 := rfl; have : (4 : Int32).toInt = 4 := rfl; have := fb_rng (x1); (try have := fb_addI (x := x1) (y := 1) (by omega) (by omega)); omega)
theorem u_X6_clear_3 (h : HS) (hI : IC h) : ok (f_X6_clear_3 h) (fun a => SC h a ∧ True) := by
  unfold f_X6_clear_3
  exact u_X6_clear_3_12 (h0 := h) 8589934592 (sI (sI h 12 1 0) 12 5 0) 0 (st_12_5 (c := (sI h 12 1 0)) (x := 0) (SC_refl hI) (by have : (0 : Int32).toInt = 0 := rfl; omega) (by have : (0 : Int32).toInt = 0 := rfl; omega)) (by have : (0 : Int32).toInt = 0 := rfl; omega) (by decide) (by have : (0 : Int32).toInt = 0 := rfl; omega)
theorem u_X6_hasLaw_3 (h : HS) (p1 : Int32) (hI : IC h) : ok (f_X6_hasLaw_3 h p1) (fun a => a.2 = h ∧ (a.1 = 0 ∨ a.1 = 1)) := by
  unfold f_X6_hasLaw_3
  refine ok_if (fun c1 => ?_) (fun c1 => ?_)
  · unfold f_X6_hasLaw_3_23
    unfold f_X6_hasLaw_3_24
    refine ok_chk (Or.inl rfl) ?_
    exact ok_some ⟨rfl, (Or.inl rfl)⟩
  · refine ok_if (fun c3 => ?_) (fun c3 => ?_)
    · unfold f_X6_hasLaw_3_23
      unfold f_X6_hasLaw_3_24
      refine ok_chk (Or.inl rfl) ?_
      exact ok_some ⟨rfl, (Or.inl rfl)⟩
    · refine ok_chk (by have := gi_of_nlt c1; have := gi_of_nle c3; have : (0 : Int32).toInt = 0 := rfl; have : (4 : Int32).toInt = 4 := rfl; have := fb_rng (p1); omega) ?_
      refine ok_if (fun c6 => ?_) (fun c6 => ?_)
      · unfold f_X6_hasLaw_3_23
        unfold f_X6_hasLaw_3_24
        refine ok_chk (Or.inl rfl) ?_
        exact ok_some ⟨rfl, (Or.inl rfl)⟩
      · unfold f_X6_hasLaw_3_24
        refine ok_chk (Or.inr rfl) ?_
        exact ok_some ⟨rfl, (Or.inr rfl)⟩
theorem u_X6_beginLaw_3 (h : HS) (p1 : Int32) (hI : IC h) : ok (f_X6_beginLaw_3 h p1) (fun a => SC h a ∧ True) := by
  unfold f_X6_beginLaw_3
  refine ok_if (fun c1 => ?_) (fun c1 => ?_)
  · unfold f_X6_beginLaw_3_19
    exact ok_some ⟨(SC_refl hI), trivial⟩
  · refine ok_if (fun c2 => ?_) (fun c2 => ?_)
    · unfold f_X6_beginLaw_3_19
      exact ok_some ⟨(SC_refl hI), trivial⟩
    · refine ok_chk (by have := gi_of_nlt c1; have := gi_of_nle c2; have : (0 : Int32).toInt = 0 := rfl; have : (4 : Int32).toInt = 4 := rfl; have := fb_rng (p1); omega) ?_
      unfold f_X6_beginLaw_3_19
      exact ok_some ⟨(SC_refl hI), trivial⟩
theorem u_X6_closeLaw_3 (h : HS) (p1 : Int32) (hI : IC h) : ok (f_X6_closeLaw_3 h p1) (fun a => SC h a ∧ True) := by
  unfold f_X6_closeLaw_3
  refine ok_if (fun c1 => ?_) (fun c1 => ?_)
  · unfold f_X6_closeLaw_3_19
    exact ok_some ⟨(SC_refl hI), trivial⟩
  · refine ok_if (fun c2 => ?_) (fun c2 => ?_)
    · unfold f_X6_closeLaw_3_19
      exact ok_some ⟨(SC_refl hI), trivial⟩
    · refine ok_chk (by have := gi_of_nlt c1; have := gi_of_nle c2; have : (0 : Int32).toInt = 0 := rfl; have : (4 : Int32).toInt = 4 := rfl; have := fb_rng (p1); omega) ?_
      unfold f_X6_closeLaw_3_19
      exact ok_some ⟨(SC_refl hI), trivial⟩
theorem u_X6_firstStep_3 (h : HS) (p1 : Int32) (hI : IC h) : ok (f_X6_firstStep_3 h p1) (fun a => a.2 = h ∧ True) := by
  unfold f_X6_firstStep_3
  refine ok_if (fun c1 => ?_) (fun c1 => ?_)
  · unfold f_X6_firstStep_3_18
    unfold f_X6_firstStep_3_19
    exact ok_some ⟨rfl, trivial⟩
  · refine ok_if (fun c2 => ?_) (fun c2 => ?_)
    · unfold f_X6_firstStep_3_18
      unfold f_X6_firstStep_3_19
      exact ok_some ⟨rfl, trivial⟩
    · refine ok_chk (by have := gi_of_nlt c1; have := gi_of_nle c2; have : (0 : Int32).toInt = 0 := rfl; have : (4 : Int32).toInt = 4 := rfl; have := fb_rng (p1); omega) ?_
      unfold f_X6_firstStep_3_19
      exact ok_some ⟨rfl, trivial⟩
theorem u_X6_stepsEnd_3 (h : HS) (p1 : Int32) (hI : IC h) : ok (f_X6_stepsEnd_3 h p1) (fun a => a.2 = h ∧ True) := by
  unfold f_X6_stepsEnd_3
  refine ok_if (fun c1 => ?_) (fun c1 => ?_)
  · unfold f_X6_stepsEnd_3_18
    unfold f_X6_stepsEnd_3_19
    exact ok_some ⟨rfl, trivial⟩
  · refine ok_if (fun c2 => ?_) (fun c2 => ?_)
    · unfold f_X6_stepsEnd_3_18
      unfold f_X6_stepsEnd_3_19
      exact ok_some ⟨rfl, trivial⟩
    · refine ok_chk (by have := gi_of_nlt c1; have := gi_of_nle c2; have : (0 : Int32).toInt = 0 := rfl; have : (4 : Int32).toInt = 4 := rfl; have := fb_rng (p1); omega) ?_
      unfold f_X6_stepsEnd_3_19
      exact ok_some ⟨rfl, trivial⟩
theorem u_X6_addStep_3 (h : HS) (p1 : Int32) (hI : IC h) : ok (f_X6_addStep_3 h p1) (fun a => SC h a ∧ True) := by
  unfold f_X6_addStep_3
  refine ok_if (fun c1 => ?_) (fun c1 => ?_)
  · unfold f_X6_addStep_3_32
    exact ok_some ⟨(SC_refl hI), trivial⟩
  · refine ok_chk (by have := IC_n (SC_refl hI).1; have := gi_of_nle c1; have : (300 : Int32).toInt = 300 := rfl; have := fb_rng (eI h 12 5); omega) ?_
    unfold f_X6_addStep_3_32
    exact ok_some ⟨(st_12_5 (c := (sA h 12 2 (upd (eA h 12 2) (((eI h 12 5)).toNatClampNeg) p1))) (x := ((eI h 12 5) + 1)) (SC_refl hI) (by have := IC_n (SC_refl hI).1; have := gi_of_nle c1; have : (1 : Int32).toInt = 1 := rfl; have : (300 : Int32).toInt = 300 := rfl; have := fb_rng (eI h 12 5); (try have := fb_addI (x := (eI h 12 5)) (y := 1) (by omega) (by omega)); omega) (by have := IC_n (SC_refl hI).1; have := gi_of_nle c1; have : (1 : Int32).toInt = 1 := rfl; have : (300 : Int32).toInt = 300 := rfl; have := fb_rng (eI h 12 5); (try have := fb_addI (x := (eI h 12 5)) (y := 1) (by omega) (by omega)); omega)), trivial⟩
theorem u_X6_stepAt_3 (h : HS) (p1 : Int32) (hI : IC h) : ok (f_X6_stepAt_3 h p1) (fun a => a.2 = h ∧ True) := by
  unfold f_X6_stepAt_3
  refine ok_if (fun c1 => ?_) (fun c1 => ?_)
  · unfold f_X6_stepAt_3_30
    unfold f_X6_stepAt_3_31
    exact ok_some ⟨rfl, trivial⟩
  · refine ok_if (fun c2 => ?_) (fun c2 => ?_)
    · unfold f_X6_stepAt_3_30
      unfold f_X6_stepAt_3_31
      exact ok_some ⟨rfl, trivial⟩
    · refine ok_if (fun c3 => ?_) (fun c3 => ?_)
      · unfold f_X6_stepAt_3_30
        unfold f_X6_stepAt_3_31
        exact ok_some ⟨rfl, trivial⟩
      · refine ok_chk (by have := IC_n (SC_refl hI).1; have := gi_of_nlt c1; have := gi_of_nle c2; have := gi_of_nle c3; have : (0 : Int32).toInt = 0 := rfl; have : (300 : Int32).toInt = 300 := rfl; have := fb_rng (p1); have := fb_rng (eI h 12 5); omega) ?_
        unfold f_X6_stepAt_3_31
        exact ok_some ⟨rfl, trivial⟩
theorem u_X6_clauseField_3 (h : HS) (p1 : Int32) (p2 : Int32) (hI : IC h) : ok (f_X6_clauseField_3 h p1 p2) (fun a => a.2 = h ∧ True) := by
  unfold f_X6_clauseField_3
  refine ok_if (fun c1 => ?_) (fun c1 => ?_)
  · unfold f_X6_clauseField_3_19
    exact ok_some ⟨rfl, trivial⟩
  · refine ok_if (fun c2 => ?_) (fun c2 => ?_)
    · unfold f_X6_clauseField_3_19
      exact ok_some ⟨rfl, trivial⟩
    · refine ok_if (fun c3 => ?_) (fun c3 => ?_)
      · unfold f_X6_clauseField_3_19
        exact ok_some ⟨rfl, trivial⟩
      · refine ok_if (fun c4 => ?_) (fun c4 => ?_)
        · refine ok_chk (by have := gi_of_nlt c1; have := gi_of_nle c2; have := gi_of_nlt c3; have := gi_of_lt c4; have : (0 : Int32).toInt = 0 := rfl; have : (24 : Int32).toInt = 24 := rfl; have : (4 : Int32).toInt = 4 := rfl; have := fb_rng (p1); have := fb_rng (p2); (try have := fb_mulK (x := p1) (y := 4) (k := 4) rfl (by omega) (by omega)); (try have := fb_addI (x := (p1 * 4)) (y := p2) (by omega) (by omega)); omega) ?_
          exact ok_some ⟨rfl, trivial⟩
        · unfold f_X6_clauseField_3_19
          exact ok_some ⟨rfl, trivial⟩
theorem u_X6_setClause_3 (h : HS) (p1 : Int32) (p2 : Int32) (p3 : Int32) (hI : IC h) : ok (f_X6_setClause_3 h p1 p2 p3) (fun a => SC h a ∧ True) := by
  unfold f_X6_setClause_3
  refine ok_if (fun c1 => ?_) (fun c1 => ?_)
  · unfold f_X6_setClause_3_30
    exact ok_some ⟨(SC_refl hI), trivial⟩
  · refine ok_if (fun c2 => ?_) (fun c2 => ?_)
    · unfold f_X6_setClause_3_30
      exact ok_some ⟨(SC_refl hI), trivial⟩
    · refine ok_if (fun c3 => ?_) (fun c3 => ?_)
      · unfold f_X6_setClause_3_30
        exact ok_some ⟨(SC_refl hI), trivial⟩
      · refine ok_if (fun c4 => ?_) (fun c4 => ?_)
        · unfold f_X6_setClause_3_30
          exact ok_some ⟨(SC_refl hI), trivial⟩
        · refine ok_chk (by have := gi_of_nlt c1; have := gi_of_nle c2; have := gi_of_nlt c3; have := gi_of_nle c4; have : (0 : Int32).toInt = 0 := rfl; have : (24 : Int32).toInt = 24 := rfl; have : (4 : Int32).toInt = 4 := rfl; have := fb_rng (p1); have := fb_rng (p2); (try have := fb_mulK (x := p1) (y := 4) (k := 4) rfl (by omega) (by omega)); (try have := fb_addI (x := (p1 * 4)) (y := p2) (by omega) (by omega)); omega) ?_
          unfold f_X6_setClause_3_30
          exact ok_some ⟨(SC_refl hI), trivial⟩
