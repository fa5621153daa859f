theorem u_X8_market (h : HS) (p1 p2 p3 : Int32) (hI : IC h) : ok (f_X8_market h p1 p2 p3) (fun a => IC a.2) := by
  unfold f_X8_market f_X8_market_25
  refine ok_if (fun c => ok_some hI) (fun c1 => ?_)
  refine ok_if (fun c => ok_some hI) (fun c2 => ?_)
  refine ok_ob1 (u_X8_isDigit p2) (fun r3 k3 => ?_)
  refine ok_if (fun c => ok_some hI) (fun c2 => ?_)
  refine ok_ob1 (u_X8_isDigit p3) (fun r5 k5 => ?_)
  refine ok_if (fun c => ok_some hI) (fun c2 => ?_)
  exact ok_ob2 (u_X4_addMarket h p1 p2 p3 hI) (fun r7 h7 k7 => ok_some k7.1)
theorem u_X8_goose (h : HS) (p1 p2 : Int32) (hI : IC h) : ok (f_X8_goose h p1 p2) (fun a => IC a.2) := by
  unfold f_X8_goose f_X8_goose_21
  refine ok_if (fun c => ok_some hI) (fun c1 => ?_)
  refine ok_if (fun c => ok_some hI) (fun c2 => ?_)
  refine ok_if (fun c => ok_some hI) (fun c3 => ?_)
  refine ok_if (fun c4 => ?_) (fun c => ok_some hI)
  exact ok_ob2 (u_X4_addGoose h p1 p2 hI (gi_of_le c4)) (fun r7 h7 k7 => ok_some k7.1)
theorem u_X8_store (h : HS) (p1 : Int32) (p2 : Int32) (hI : IC h) : ok (f_X8_store h p1 p2) (fun a => SC h a.2 ∧ (a.1 = 0 ∨ a.1 = 1)) := by
  unfold f_X8_store
  refine ok_if (fun c1 => ?_) (fun c1 => ?_)
  · unfold f_X8_store_21
    exact ok_some ⟨(SC_refl hI), (Or.inl rfl)⟩
  · refine ok_if (fun c2 => ?_) (fun c2 => ?_)
    · unfold f_X8_store_21
      exact ok_some ⟨(SC_refl hI), (Or.inl rfl)⟩
    · refine ok_if (fun c3 => ?_) (fun c3 => ?_)
      · unfold f_X8_store_21
        exact ok_some ⟨(SC_refl hI), (Or.inl rfl)⟩
      · refine ok_if (fun c4 => ?_) (fun c4 => ?_)
        · exact ok_some ⟨(SC_refl hI), (Or.inr rfl)⟩
        · unfold f_X8_store_21
          exact ok_some ⟨(SC_refl hI), (Or.inl rfl)⟩
theorem u_X8_seed (h : HS) (p1 : Int32) (hI : IC h) : ok (f_X8_seed h p1) (fun a => SC h a.2 ∧ (a.1 = 0 ∨ a.1 = 1)) := by
  unfold f_X8_seed
  refine ok_if (fun c1 => ?_) (fun c1 => ?_)
  · unfold f_X8_seed_11
    exact ok_some ⟨(SC_refl hI), (Or.inl rfl)⟩
  · refine ok_if (fun c2 => ?_) (fun c2 => ?_)
    · exact ok_some ⟨(SC_refl hI), (Or.inr rfl)⟩
    · unfold f_X8_seed_11
      exact ok_some ⟨(SC_refl hI), (Or.inl rfl)⟩
theorem u_X8_fill (h : HS) (p1 : Int32) (p2 : Int32) (p3 : Int32) (hI : IC h) : ok (f_X8_fill h p1 p2 p3) (fun a => SC h a.2 ∧ True) := by
  unfold f_X8_fill
  refine ok_ob1 (u_X8_isQuill p2 p3) (fun r1 k1 => ?_)
  refine ok_if (fun c2 => ?_) (fun c2 => ?_)
  · unfold f_X8_fill_32
    exact ok_some ⟨(SC_refl hI), trivial⟩
  · refine ok_ob2 (u_X4_isHome h p1 ((SC_refl hI)).1) (fun r3 h3 k3 => ?_)
    have e3 : h = h3 := k3.1.symm
    subst e3
    refine ok_if (fun c4 => ?_) (fun c4 => ?_)
    · unfold f_X8_fill_32
      exact ok_some ⟨(SC_refl hI), trivial⟩
    · refine ok_ob2 (u_X4_ofGoose h p1 2 ((SC_refl hI)).1) (fun r5 h5 k5 => ?_)
      have e5 : h = h5 := k5.1.symm
      subst e5
      refine ok_if (fun c6 => ?_) (fun c6 => ?_)
      · refine ok_ob2 (u_X1_inkCost h p1 p2 p3 ((SC_refl hI)).1) (fun r7 h7 k7 => ?_)
        have s7 : SC h h7 := SC_trans (b := h) (SC_refl hI) k7.1
        refine ok_if (fun c8 => ?_) (fun c8 => ?_)
        · refine ok_ob1 (u_X4_keepStep h7 (s7).1) (fun h9 k9 => ?_)
          have s9 : SC h h9 := SC_trans (b := h7) s7 k9.1
          refine ok_ob1 (u_X4_setGoose (sI h9 1 5 ((eI h9 1 5) - r7)) p1 2 p2 (s9).1 (fun e => absurd e (by decide))) (fun h10 k10 => ?_)
          have s10 : SC h h10 := SC_trans (b := (sI h9 1 5 ((eI h9 1 5) - r7))) s9 k10.1
          refine ok_ob1 (u_X4_setGoose h10 p1 3 p3 (s10).1 (fun e => absurd e (by decide))) (fun h11 k11 => ?_)
          have s11 : SC h h11 := SC_trans (b := h10) s10 k11.1
          exact ok_some ⟨s11, trivial⟩
        · exact ok_some ⟨s7, trivial⟩
      · unfold f_X8_fill_32
        exact ok_some ⟨(SC_refl hI), trivial⟩
theorem u_X8_send (h : HS) (p1 : Int32) (p2 : Int32) (hI : IC h) : ok (f_X8_send h p1 p2) (fun a => SC h a.2 ∧ True) := by
  unfold f_X8_send
  refine ok_ob2 (u_X4_hasMarket h p2 ((SC_refl hI)).1) (fun r1 h1 k1 => ?_)
  have e1 : h = h1 := k1.1.symm
  subst e1
  refine ok_if (fun c2 => ?_) (fun c2 => ?_)
  · unfold f_X8_send_22
    exact ok_some ⟨(SC_refl hI), trivial⟩
  · refine ok_ob2 (u_X4_isFree h p1 ((SC_refl hI)).1) (fun r3 h3 k3 => ?_)
    have e3 : h = h3 := k3.1.symm
    subst e3
    refine ok_if (fun c4 => ?_) (fun c4 => ?_)
    · unfold f_X8_send_22
      exact ok_some ⟨(SC_refl hI), trivial⟩
    · refine ok_ob1 (u_X4_keepStep h ((SC_refl hI)).1) (fun h5 k5 => ?_)
      have s5 : SC h h5 := SC_trans (b := h) (SC_refl hI) k5.1
      refine ok_ob2 (u_X4_ofMarket h5 p2 0 (s5).1) (fun r6 h6 k6 => ?_)
      have e6 : h5 = h6 := k6.1.symm
      subst e6
      refine ok_ob1 (u_X4_setGoose h5 p1 4 1 (s5).1 (fun e => absurd e (by decide))) (fun h7 k7 => ?_)
      have s7 : SC h h7 := SC_trans (b := h5) s5 k7.1
      refine ok_ob1 (u_X4_setGoose h7 p1 5 p2 (s7).1 (fun e => absurd e (by decide))) (fun h8 k8 => ?_)
      have s8 : SC h h8 := SC_trans (b := h7) s7 k8.1
      refine ok_ob1 (u_X4_setGoose h8 p1 6 ((eI h5 1 7) + r6) (s8).1 (fun e => absurd e (by decide))) (fun h9 k9 => ?_)
      have s9 : SC h h9 := SC_trans (b := h8) s8 k9.1
      exact ok_some ⟨s9, trivial⟩
theorem u_X8_fatten (h : HS) (p1 : Int32) (hI : IC h) : ok (f_X8_fatten h p1) (fun a => SC h a.2 ∧ True) := by
  unfold f_X8_fatten
  refine ok_ob2 (u_X4_isHome h p1 ((SC_refl hI)).1) (fun r1 h1 k1 => ?_)
  have e1 : h = h1 := k1.1.symm
  subst e1
  refine ok_if (fun c2 => ?_) (fun c2 => ?_)
  · unfold f_X8_fatten_36
    exact ok_some ⟨(SC_refl hI), trivial⟩
  · refine ok_ob2 (u_X4_ofGoose h p1 0 ((SC_refl hI)).1) (fun r3 h3 k3 => ?_)
    have e3 : h = h3 := k3.1.symm
    subst e3
    refine ok_if (fun c4 => ?_) (fun c4 => ?_)
    · unfold f_X8_fatten_36
      exact ok_some ⟨(SC_refl hI), trivial⟩
    · refine ok_if (fun c5 => ?_) (fun c5 => ?_)
      · refine ok_ob1 (u_X4_keepStep h ((SC_refl hI)).1) (fun h6 k6 => ?_)
        have s6 : SC h h6 := SC_trans (b := h) (SC_refl hI) k6.1
        refine ok_ob2 (u_X4_ofGoose (sI h6 1 5 ((eI h6 1 5) - 1)) p1 0 (s6).1) (fun r7 h7 k7 => ?_)
        have e7 : (sI h6 1 5 ((eI h6 1 5) - 1)) = h7 := k7.1.symm
        subst e7
        refine ok_ob1 (u_X4_setGoose (sI h6 1 5 ((eI h6 1 5) - 1)) p1 0 (r7 + 1) (s6).1 (fun e => absurd e (by decide))) (fun h8 k8 => ?_)
        have s8 : SC h h8 := SC_trans (b := (sI h6 1 5 ((eI h6 1 5) - 1))) s6 k8.1
        refine ok_ob2 (u_X4_ofGoose h8 p1 0 (s8).1) (fun r9 h9 k9 => ?_)
        have e9 : h8 = h9 := k9.1.symm
        subst e9
        exact ok_some ⟨s8, trivial⟩
      · unfold f_X8_fatten_36
        exact ok_some ⟨(SC_refl hI), trivial⟩
theorem ofGoose_same {h c : HS} (e0 : eA c 1 0 = eA h 1 0) (e3 : eI c 1 3 = eI h 1 3) {p q r : Int32} (k : f_X4_ofGoose h p q = some (r, h)) : f_X4_ofGoose c p q = some (r, c) := by
  unfold f_X4_ofGoose f_X4_ofGoose_28 at *
  rw [e0, e3]
  split at k
  · next c1 => rw [if_pos c1]; cases k; rfl
  · next c1 =>
    rw [if_neg c1]
    split at k
    · next c2 => rw [if_pos c2]; cases k; rfl
    · next c2 =>
      rw [if_neg c2]
      split at k
      · next c3 => rw [if_pos c3]; cases k; rfl
      · next c3 =>
        rw [if_neg c3]
        split at k
        · next c4 => rw [if_pos c4]; cases k; rfl
        · next c4 =>
          rw [if_neg c4]
          split at k
          · next c5 =>
            rw [if_pos c5]
            split at k
            · next c6 => rw [if_pos c6]; cases k; rfl
            · cases k
          · next c5 => rw [if_neg c5]; cases k; rfl
theorem u_X8_pluck (h : HS) (p1 : Int32) (hI : IC h) : ok (f_X8_pluck h p1) (fun a => SC h a.2 ∧ True) := by
  unfold f_X8_pluck f_X8_pluck_24
  refine ok_ob2 (u_X4_isHome h p1 hI) (fun r1 h1 k1 => ?_)
  have e1 : h = h1 := k1.1.symm
  subst e1
  refine ok_if (fun c2 => ok_some ⟨SC_refl hI, trivial⟩) (fun c2 => ?_)
  obtain ⟨⟨r3, h3⟩, e3, k3⟩ := u_X4_ofGoose h p1 1 hI
  have e4 : h = h3 := k3.1.symm
  subst e4
  refine ok_ob2e e3 ?_
  refine ok_if (fun c4 => ?_) (fun c4 => ok_some ⟨SC_refl hI, trivial⟩)
  refine ok_ob1 (u_X4_keepStep h hI) (fun h5 k5 => ?_)
  refine ok_ob2e (ofGoose_same k5.2 k5.1.2.1 e3) ?_
  have z1 : (1 : Int32).toInt = 1 := rfl
  have d4 := gi_of_le c4
  have k99 : r3.toInt ≤ 99 := k3.2 rfl
  have e5 := fb_subI (x := r3) (y := 1) (by omega) (by omega)
  refine ok_ob1 (u_X4_setGoose h5 p1 1 (r3 - 1) k5.1.1 (fun _ => by omega)) (fun h7 k7 => ?_)
  have s7 := SC_trans k5.1 k7.1
  refine ok_ob2 (u_X4_ofGoose h7 p1 1 s7.1) (fun r8 h8 k8 => ?_)
  have e8 : h7 = h8 := k8.1.symm
  subst e8
  exact ok_some ⟨s7, trivial⟩
theorem u_X8_name (h : HS) (p1 : Int32) (hI : IC h) : ok (f_X8_name h p1) (fun a => SC h a.2 ∧ (a.1 = 0 ∨ a.1 = 1)) := by
  unfold f_X8_name
  refine ok_ob2 (u_X4_isFree h p1 ((SC_refl hI)).1) (fun r1 h1 k1 => ?_)
  have e1 : h = h1 := k1.1.symm
  subst e1
  refine ok_if (fun c2 => ?_) (fun c2 => ?_)
  · exact ok_some ⟨(SC_refl hI), (Or.inl rfl)⟩
  · refine ok_ob1 (u_X4_keepStep h ((SC_refl hI)).1) (fun h3 k3 => ?_)
    have s3 : SC h h3 := SC_trans (b := h) (SC_refl hI) k3.1
    refine ok_ob1 (u_X4_setGoose h3 p1 8 1 (s3).1 (fun e => absurd e (by decide))) (fun h4 k4 => ?_)
    have s4 : SC h h4 := SC_trans (b := h3) s3 k4.1
    exact ok_some ⟨s4, (Or.inr rfl)⟩
theorem u_X8_fateAtMarket (h : HS) (p1 : Int32) (hI : IC h) : ok (f_X8_fateAtMarket h p1) (fun a => SC h a.2 ∧ True) := by
  unfold f_X8_fateAtMarket
  refine ok_ob1 (u_X1_lookAtTraveller h p1 ((SC_refl hI)).1) (fun h1 k1 => ?_)
  have s1 : SC h h1 := SC_trans (b := h) (SC_refl hI) k1.1
  refine ok_ob2 (u_X4_draw h1 (s1).1) (fun r2 h2 k2 => ?_)
  have s2 : SC h h2 := SC_trans (b := h1) s1 k2.1
  refine ok_ob2 (u_X1_rule h2 0 (s2).1) (fun r3 h3 k3 => ?_)
  have s3 : SC h h3 := SC_trans (b := h2) s2 k3.1
  refine ok_if (fun c4 => ?_) (fun c4 => ?_)
  · refine ok_ob2 (u_X4_ofGoose h3 p1 2 (s3).1) (fun r5 h5 k5 => ?_)
    have e5 : h3 = h5 := k5.1.symm
    subst e5
    refine ok_if (fun c6 => ?_) (fun c6 => ?_)
    · exact ok_some ⟨s3, trivial⟩
    · refine ok_ob2 (u_X4_draw h3 (s3).1) (fun r7 h7 k7 => ?_)
      have s7 : SC h h7 := SC_trans (b := h3) s3 k7.1
      refine ok_ob2 (u_X1_rule h7 1 (s7).1) (fun r8 h8 k8 => ?_)
      have s8 : SC h h8 := SC_trans (b := h7) s7 k8.1
      refine ok_if (fun c9 => ?_) (fun c9 => ?_)
      · unfold f_X8_fateAtMarket_78
        exact ok_some ⟨s8, trivial⟩
      · unfold f_X8_fateAtMarket_78
        exact ok_some ⟨s8, trivial⟩
  · exact ok_some ⟨s3, trivial⟩
theorem u_X8_passOneDay_15 {h0 : HS} : ∀ (n : Nat) (h : HS) (x1 : Int32), SC h0 h → 0 < n → (10 - (x1).toInt : Int) < (n : Int) → ok (f_X8_passOneDay_15  n h x1) (fun a => SC h0 a ∧ True) := by
  intro n
  induction n with
  | zero =>
    intro h x1 hSC hn hm
    exact absurd hn (by decide)
  | succ n ih_X8_passOneDay_15 =>
    intro h x1 hSC hn hm
    rw [f_X8_passOneDay_15_s]
    refine ok_if (fun c1 => ?_) (fun c1 => ?_)
    · refine ok_ob1 (u_X4_eatDaily h (hSC).1) (fun h2 k2 => ?_)
      have s2 : SC h0 h2 := SC_trans (b := h) hSC k2.1
      exact ok_some ⟨s2, trivial⟩
    · refine ok_ob2 (u_X4_ofGoose h x1 4 (hSC).1) (fun r3 h3 k3 => ?_)
      have e3 : h = h3 := k3.1.symm
      subst e3
      refine ok_if (fun c4 => ?_) (fun c4 => ?_)
      · refine ok_ob2 (u_X4_ofGoose h x1 6 (hSC).1) (fun r5 h5 k5 => ?_)
        have e5 : h = h5 := k5.1.symm
        subst e5
        refine ok_if (fun c6 => ?_) (fun c6 => ?_)
        · refine ok_ob2 (u_X8_fateAtMarket h x1 (hSC).1) (fun r7 h7 k7 => ?_)
          have s7 : SC h0 h7 := SC_trans (b := h) hSC k7.1
          refine ok_ob1 (u_X4_settle h7 x1 r7 (s7).1) (fun h8 k8 => ?_)
          have s8 : SC h0 h8 := SC_trans (b := h7) s7 k8.1
          unfold f_X8_passOneDay_72
          exact ih_X8_passOneDay_15 h8 (x1 + 1) s8 (by have := IC_n hSC.1; have := hm; have := gi_of_nle c1; have : (1 : Int32).toInt = 1 := rfl; have := fb_rng (eI h 1 3); have := fb_rng (x1); (try have := fb_addI (x := x1) (y := 1) (by omega) (by omega)); omega) (by have := IC_n hSC.1; have := hm; have := gi_of_nle c1; have : (1 : Int32).toInt = 1 := rfl; have := fb_rng (eI h 1 3); have := fb_rng (x1); (try have := fb_addI (x := x1) (y := 1) (by omega) (by omega)); omega)
        · unfold f_X8_passOneDay_72
          exact ih_X8_passOneDay_15 h (x1 + 1) hSC (by have := IC_n hSC.1; have := hm; have := gi_of_nle c1; have : (1 : Int32).toInt = 1 := rfl; have := fb_rng (eI h 1 3); have := fb_rng (x1); (try have := fb_addI (x := x1) (y := 1) (by omega) (by omega)); omega) (by have := IC_n hSC.1; have := hm; have := gi_of_nle c1; have : (1 : Int32).toInt = 1 := rfl; have := fb_rng (eI h 1 3); have := fb_rng (x1); (try have := fb_addI (x := x1) (y := 1) (by omega) (by omega)); omega)
      · unfold f_X8_passOneDay_72
        exact ih_X8_passOneDay_15 h (x1 + 1) hSC (by have := IC_n hSC.1; have := hm; have := gi_of_nle c1; have : (1 : Int32).toInt = 1 := rfl; have := fb_rng (eI h 1 3); have := fb_rng (x1); (try have := fb_addI (x := x1) (y := 1) (by omega) (by omega)); omega) (by have := IC_n hSC.1; have := hm; have := gi_of_nle c1; have : (1 : Int32).toInt = 1 := rfl; have := fb_rng (eI h 1 3); have := fb_rng (x1); (try have := fb_addI (x := x1) (y := 1) (by omega) (by omega)); omega)
theorem u_X8_passOneDay (h : HS) (hI : IC h) : ok (f_X8_passOneDay h) (fun a => SC h a ∧ True) := by
  unfold f_X8_passOneDay
  exact u_X8_passOneDay_15 (h0 := h) 8589934592 (sI h 1 7 ((eI h 1 7) + 1)) 0 (SC_refl hI) (by decide) (by have : (0 : Int32).toInt = 0 := rfl; omega)
theorem u_X8_pass_37 {h0 : HS} (x1 : Int32) : ∀ (n : Nat) (h : HS) (x2 : Int32), SC h0 h → 0 < n → (x1.toInt - x2.toInt : Int) < (n : Int) → ok (f_X8_pass_37  n h x1 x2) (fun a => SC h0 a.2 ∧ True) := by
  intro n
  induction n with
  | zero =>
    intro h x2 hSC hn hm
    exact absurd hn (by decide)
  | succ n ih_X8_pass_37 =>
    intro h x2 hSC hn hm
    rw [f_X8_pass_37_s]
    refine ok_if (fun c1 => ?_) (fun c1 => ?_)
    · exact ok_some ⟨hSC, trivial⟩
    · refine ok_ob1 (u_X8_passOneDay h (hSC).1) (fun h2 k2 => ?_)
      have s2 : SC h0 h2 := SC_trans (b := h) hSC k2.1
      exact ih_X8_pass_37 h2 (x2 + 1) s2 (by have := hm; have := gi_of_nle c1; have : (1 : Int32).toInt = 1 := rfl; have := fb_rng (x1); have := fb_rng (x2); (try have := fb_addI (x := x2) (y := 1) (by omega) (by omega)); omega) (by have := hm; have := gi_of_nle c1; have : (1 : Int32).toInt = 1 := rfl; have := fb_rng (x1); have := fb_rng (x2); (try have := fb_addI (x := x2) (y := 1) (by omega) (by omega)); omega)
theorem u_X8_pass (h : HS) (p1 : Int32) (hI : IC h) : ok (f_X8_pass h p1) (fun a => SC h a.2 ∧ True) := by
  unfold f_X8_pass
  refine ok_if (fun c1 => ?_) (fun c1 => ?_)
  · unfold f_X8_pass_26
    exact ok_some ⟨(SC_refl hI), trivial⟩
  · refine ok_if (fun c2 => ?_) (fun c2 => ?_)
    · unfold f_X8_pass_26
      exact ok_some ⟨(SC_refl hI), trivial⟩
    · refine ok_if (fun c3 => ?_) (fun c3 => ?_)
      · refine ok_ob1 (u_X4_keepStep h ((SC_refl hI)).1) (fun h4 k4 => ?_)
        have s4 : SC h h4 := SC_trans (b := h) (SC_refl hI) k4.1
        exact u_X8_pass_37 (h0 := h) p1 8589934592 h4 0 s4 (by decide) (by have := IC_n (SC_refl hI).1; have := gi_of_nlt c1; have := gi_of_nlt c2; have := gi_of_le c3; have : (0 : Int32).toInt = 0 := rfl; have : (1 : Int32).toInt = 1 := rfl; have : (99 : Int32).toInt = 99 := rfl; have : (999 : Int32).toInt = 999 := rfl; have := fb_rng (p1); have := fb_rng (eI h 1 7); (try have := fb_addI (x := (eI h 1 7)) (y := p1) (by omega) (by omega)); omega)
      · unfold f_X8_pass_26
        exact ok_some ⟨(SC_refl hI), trivial⟩
theorem u_X8_feed (h : HS) (p1 : Int32) (p2 : Int32) (p3 : Int32) (p4 : Int32) (p5 : Int32) (hI : IC h) : ok (f_X8_feed h p1 p2 p3 p4 p5) (fun a => SC h a.2 ∧ True) := by
  unfold f_X8_feed
  refine ok_if (fun c1 => ?_) (fun c1 => ?_)
  · refine ok_ob1 (u_X5_addFour h p1 ((SC_refl hI)).1) (fun h2 k2 => ?_)
    have s2 : SC h h2 := SC_trans (b := h) (SC_refl hI) k2.1
    refine ok_ob1 (u_X5_addFour h2 p2 (s2).1) (fun h3 k3 => ?_)
    have s3 : SC h h3 := SC_trans (b := h2) s2 k3.1
    refine ok_ob1 (u_X5_addFour h3 p3 (s3).1) (fun h4 k4 => ?_)
    have s4 : SC h h4 := SC_trans (b := h3) s3 k4.1
    refine ok_ob1 (u_X5_addFour h4 p4 (s4).1) (fun h5 k5 => ?_)
    have s5 : SC h h5 := SC_trans (b := h4) s4 k5.1
    refine ok_ob1 (u_X5_addFour h5 p5 (s5).1) (fun h6 k6 => ?_)
    have s6 : SC h h6 := SC_trans (b := h5) s5 k6.1
    exact ok_some ⟨s6, trivial⟩
  · exact ok_some ⟨(SC_refl hI), trivial⟩
theorem u_X8_end (h : HS) (p1 : Int32) (hI : IC h) : ok (f_X8_end h p1) (fun a => SC h a.2 ∧ True) := by
  unfold f_X8_end
  refine ok_if (fun c1 => ?_) (fun c1 => ?_)
  · unfold f_X8_end_15
    exact ok_some ⟨(SC_refl hI), trivial⟩
  · refine ok_if (fun c2 => ?_) (fun c2 => ?_)
    · exact ok_some ⟨(st_3_1 (c := h) (x := p1) (SC_refl hI) (by have := IC_n (SC_refl hI).1; have := gi_of_nlt c1; have := gi_of_le c2; have : (0 : Int32).toInt = 0 := rfl; have := fb_rng (p1); have := fb_rng (eI h 3 1); omega) (by have := IC_n (SC_refl hI).1; have := gi_of_nlt c1; have := gi_of_le c2; have : (0 : Int32).toInt = 0 := rfl; have := fb_rng (p1); have := fb_rng (eI h 3 1); omega)), trivial⟩
    · unfold f_X8_end_15
      exact ok_some ⟨(SC_refl hI), trivial⟩
