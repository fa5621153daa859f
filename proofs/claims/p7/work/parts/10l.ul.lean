theorem u_X8_text (h : HS) (hI : IC h) : ok (f_X8_text h) (fun a => SC h a.2 ∧ True) := by
  unfold f_X8_text
  refine ok_if (fun c1 => ?_) (fun c1 => ?_)
  · refine ok_ob1 (u_X7_split h ((SC_refl hI)).1) (fun h2 k2 => ?_)
    have s2 : SC h h2 := SC_trans (b := h) (SC_refl hI) k2.1
    refine ok_ob1 (u_X2_parse_0 h2 (s2).1) (fun h3 k3 => ?_)
    have s3 : SC h h3 := SC_trans (b := h2) s2 k3.1
    refine ok_if (fun c4 => ?_) (fun c4 => ?_)
    · exact ok_some ⟨(st_3_1 (c := h3) (x := 0) s3 (by have : (0 : Int32).toInt = 0 := rfl; omega) (by have : (0 : Int32).toInt = 0 := rfl; omega)), trivial⟩
    · exact ok_some ⟨(st_3_1 (c := h3) (x := 0) s3 (by have : (0 : Int32).toInt = 0 := rfl; omega) (by have : (0 : Int32).toInt = 0 := rfl; omega)), trivial⟩
  · refine ok_if (fun c5 => ?_) (fun c5 => ?_)
    · refine ok_ob1 (u_X7_split h ((SC_refl hI)).1) (fun h6 k6 => ?_)
      have s6 : SC h h6 := SC_trans (b := h) (SC_refl hI) k6.1
      refine ok_ob1 (u_X2_parse_1 h6 (s6).1) (fun h7 k7 => ?_)
      have s7 : SC h h7 := SC_trans (b := h6) s6 k7.1
      refine ok_if (fun c8 => ?_) (fun c8 => ?_)
      · exact ok_some ⟨(st_3_1 (c := h7) (x := 0) s7 (by have : (0 : Int32).toInt = 0 := rfl; omega) (by have : (0 : Int32).toInt = 0 := rfl; omega)), trivial⟩
      · exact ok_some ⟨(st_3_1 (c := h7) (x := 0) s7 (by have : (0 : Int32).toInt = 0 := rfl; omega) (by have : (0 : Int32).toInt = 0 := rfl; omega)), trivial⟩
    · refine ok_if (fun c9 => ?_) (fun c9 => ?_)
      · refine ok_ob1 (u_X7_split h ((SC_refl hI)).1) (fun h10 k10 => ?_)
        have s10 : SC h h10 := SC_trans (b := h) (SC_refl hI) k10.1
        refine ok_ob1 (u_X2_parse_2 h10 (s10).1) (fun h11 k11 => ?_)
        have s11 : SC h h11 := SC_trans (b := h10) s10 k11.1
        refine ok_if (fun c12 => ?_) (fun c12 => ?_)
        · exact ok_some ⟨(st_3_1 (c := h11) (x := 0) s11 (by have : (0 : Int32).toInt = 0 := rfl; omega) (by have : (0 : Int32).toInt = 0 := rfl; omega)), trivial⟩
        · exact ok_some ⟨(st_3_1 (c := h11) (x := 0) s11 (by have : (0 : Int32).toInt = 0 := rfl; omega) (by have : (0 : Int32).toInt = 0 := rfl; omega)), trivial⟩
      · refine ok_if (fun c13 => ?_) (fun c13 => ?_)
        · refine ok_ob1 (u_X7_split h ((SC_refl hI)).1) (fun h14 k14 => ?_)
          have s14 : SC h h14 := SC_trans (b := h) (SC_refl hI) k14.1
          refine ok_ob1 (u_X2_parse_3 h14 (s14).1) (fun h15 k15 => ?_)
          have s15 : SC h h15 := SC_trans (b := h14) s14 k15.1
          refine ok_if (fun c16 => ?_) (fun c16 => ?_)
          · exact ok_some ⟨(st_3_1 (c := h15) (x := 0) s15 (by have : (0 : Int32).toInt = 0 := rfl; omega) (by have : (0 : Int32).toInt = 0 := rfl; omega)), trivial⟩
          · exact ok_some ⟨(st_3_1 (c := h15) (x := 0) s15 (by have : (0 : Int32).toInt = 0 := rfl; omega) (by have : (0 : Int32).toInt = 0 := rfl; omega)), trivial⟩
        · exact ok_some ⟨(SC_refl hI), trivial⟩
theorem u_X8_fault (h : HS) (p1 : Int32) (hI : IC h) : ok (f_X8_fault h p1) (fun a => a.2 = h ∧ True) := by
  unfold f_X8_fault
  refine ok_if (fun c1 => ?_) (fun c1 => ?_)
  · exact ok_some ⟨rfl, trivial⟩
  · refine ok_if (fun c2 => ?_) (fun c2 => ?_)
    · unfold f_X8_fault_28
      exact ok_some ⟨rfl, trivial⟩
    · unfold f_X8_fault_28
      exact ok_some ⟨rfl, trivial⟩
theorem u_X8_by (h : HS) (p1 : Int32) (hI : IC h) : ok (f_X8_by h p1) (fun a => SC h a.2 ∧ (a.1 = 0 ∨ a.1 = 1)) := by
  unfold f_X8_by
  refine ok_if (fun c1 => ?_) (fun c1 => ?_)
  · unfold f_X8_by_16
    exact ok_some ⟨(SC_refl hI), (Or.inl rfl)⟩
  · refine ok_if (fun c2 => ?_) (fun c2 => ?_)
    · exact ok_some ⟨(SC_refl hI), (Or.inr rfl)⟩
    · unfold f_X8_by_16
      exact ok_some ⟨(SC_refl hI), (Or.inl rfl)⟩
theorem u_X8_played_29 {h0 : HS} : ∀ (n : Nat) (h : HS) (x3 : Int32), SC h0 h → 0 < n → (2147483647 - (x3).toInt : Int) < (n : Int) → ok (f_X8_played_29  n h x3) (fun a => SC h0 a.2 ∧ True) := by
  intro n
  induction n with
  | zero =>
    intro h x3 hSC hn hm
    exact absurd hn (by decide)
  | succ n ih_X8_played_29 =>
    intro h x3 hSC hn hm
    rw [f_X8_played_29_s]
    refine ok_if (fun c1 => ?_) (fun c1 => ?_)
    · exact ok_some ⟨hSC, trivial⟩
    · refine ok_ob2 (u_X6_clauseField_0 h x3 1 (hSC).1) (fun r2 h2 k2 => ?_)
      have e2 : h = h2 := k2.1.symm
      subst e2
      refine ok_ob2 (u_X6_clauseField_0 h x3 2 (hSC).1) (fun r3 h3 k3 => ?_)
      have e3 : h = h3 := k3.1.symm
      subst e3
      refine ok_ob2 (u_X6_clauseField_0 h x3 0 (hSC).1) (fun r4 h4 k4 => ?_)
      have e4 : h = h4 := k4.1.symm
      subst e4
      refine ok_if (fun c5 => ?_) (fun c5 => ?_)
      · refine ok_ob2 (u_X6_clauseField_0 h x3 3 (hSC).1) (fun r6 h6 k6 => ?_)
        have e6 : h = h6 := k6.1.symm
        subst e6
        refine ok_ob2 (u_X8_fill h r2 r3 r6 (hSC).1) (fun r7 h7 k7 => ?_)
        have s7 : SC h0 h7 := SC_trans (b := h) hSC k7.1
        unfold f_X8_played_146
        refine ok_if (fun c8 => ?_) (fun c8 => ?_)
        · exact ok_some ⟨s7, trivial⟩
        · exact ih_X8_played_29 h7 (x3 + 1) s7 (by have := IC_n hSC.1; have := hm; have := gi_of_nle c1; have : (1 : Int32).toInt = 1 := rfl; have := fb_rng (eI h 9 1); have := fb_rng (x3); (try have := fb_addI (x := x3) (y := 1) (by omega) (by omega)); omega) (by have := IC_n hSC.1; have := hm; have := gi_of_nle c1; have : (1 : Int32).toInt = 1 := rfl; have := fb_rng (eI h 9 1); have := fb_rng (x3); (try have := fb_addI (x := x3) (y := 1) (by omega) (by omega)); omega)
      · refine ok_if (fun c9 => ?_) (fun c9 => ?_)
        · refine ok_ob2 (u_X8_send h r2 r3 (hSC).1) (fun r10 h10 k10 => ?_)
          have s10 : SC h0 h10 := SC_trans (b := h) hSC k10.1
          unfold f_X8_played_146
          refine ok_if (fun c11 => ?_) (fun c11 => ?_)
          · exact ok_some ⟨s10, trivial⟩
          · exact ih_X8_played_29 h10 (x3 + 1) s10 (by have := IC_n hSC.1; have := hm; have := gi_of_nle c1; have : (1 : Int32).toInt = 1 := rfl; have := fb_rng (eI h 9 1); have := fb_rng (x3); (try have := fb_addI (x := x3) (y := 1) (by omega) (by omega)); omega) (by have := IC_n hSC.1; have := hm; have := gi_of_nle c1; have : (1 : Int32).toInt = 1 := rfl; have := fb_rng (eI h 9 1); have := fb_rng (x3); (try have := fb_addI (x := x3) (y := 1) (by omega) (by omega)); omega)
        · refine ok_if (fun c12 => ?_) (fun c12 => ?_)
          · refine ok_ob2 (u_X8_fatten h r2 (hSC).1) (fun r13 h13 k13 => ?_)
            have s13 : SC h0 h13 := SC_trans (b := h) hSC k13.1
            unfold f_X8_played_146
            refine ok_if (fun c14 => ?_) (fun c14 => ?_)
            · exact ok_some ⟨s13, trivial⟩
            · exact ih_X8_played_29 h13 (x3 + 1) s13 (by have := IC_n hSC.1; have := hm; have := gi_of_nle c1; have : (1 : Int32).toInt = 1 := rfl; have := fb_rng (eI h 9 1); have := fb_rng (x3); (try have := fb_addI (x := x3) (y := 1) (by omega) (by omega)); omega) (by have := IC_n hSC.1; have := hm; have := gi_of_nle c1; have : (1 : Int32).toInt = 1 := rfl; have := fb_rng (eI h 9 1); have := fb_rng (x3); (try have := fb_addI (x := x3) (y := 1) (by omega) (by omega)); omega)
          · refine ok_if (fun c15 => ?_) (fun c15 => ?_)
            · refine ok_ob2 (u_X8_pass h r2 (hSC).1) (fun r16 h16 k16 => ?_)
              have s16 : SC h0 h16 := SC_trans (b := h) hSC k16.1
              unfold f_X8_played_146
              refine ok_if (fun c17 => ?_) (fun c17 => ?_)
              · exact ok_some ⟨s16, trivial⟩
              · exact ih_X8_played_29 h16 (x3 + 1) s16 (by have := IC_n hSC.1; have := hm; have := gi_of_nle c1; have : (1 : Int32).toInt = 1 := rfl; have := fb_rng (eI h 9 1); have := fb_rng (x3); (try have := fb_addI (x := x3) (y := 1) (by omega) (by omega)); omega) (by have := IC_n hSC.1; have := hm; have := gi_of_nle c1; have : (1 : Int32).toInt = 1 := rfl; have := fb_rng (eI h 9 1); have := fb_rng (x3); (try have := fb_addI (x := x3) (y := 1) (by omega) (by omega)); omega)
            · unfold f_X8_played_146
              refine ok_if (fun c18 => ?_) (fun c18 => ?_)
              · exact ok_some ⟨hSC, trivial⟩
              · exact ih_X8_played_29 h (x3 + 1) hSC (by have := IC_n hSC.1; have := hm; have := gi_of_nle c1; have := gi_of_ne c18; have : ((-1) : Int32).toInt = -1 := rfl; have : (0 : Int32).toInt = 0 := rfl; have : (1 : Int32).toInt = 1 := rfl; have := fb_rng (eI h 9 1); have := fb_rng (x3); (try have := fb_addI (x := x3) (y := 1) (by omega) (by omega)); omega) (by have := IC_n hSC.1; have := hm; have := gi_of_nle c1; have := gi_of_ne c18; have : ((-1) : Int32).toInt = -1 := rfl; have : (0 : Int32).toInt = 0 := rfl; have : (1 : Int32).toInt = 1 := rfl; have := fb_rng (eI h 9 1); have := fb_rng (x3); (try have := fb_addI (x := x3) (y := 1) (by omega) (by omega)); omega)
theorem u_X8_played_29b {h0 : HS} : ∀ (n : Nat) (h : HS) (x3 : Int32), SC h0 h → 0 < n → (2147483647 - (x3).toInt : Int) < (n : Int) → ok (f_X8_played_29b  n h x3) (fun a => SC h0 a.2 ∧ True) := by
  intro n
  induction n with
  | zero =>
    intro h x3 hSC hn hm
    exact absurd hn (by decide)
  | succ n ih_X8_played_29b =>
    intro h x3 hSC hn hm
    rw [f_X8_played_29b_s]
    refine ok_if (fun c1 => ?_) (fun c1 => ?_)
    · exact ok_some ⟨hSC, trivial⟩
    · refine ok_ob2 (u_X6_clauseField_1 h x3 1 (hSC).1) (fun r2 h2 k2 => ?_)
      have e2 : h = h2 := k2.1.symm
      subst e2
      refine ok_ob2 (u_X6_clauseField_1 h x3 2 (hSC).1) (fun r3 h3 k3 => ?_)
      have e3 : h = h3 := k3.1.symm
      subst e3
      refine ok_ob2 (u_X6_clauseField_1 h x3 0 (hSC).1) (fun r4 h4 k4 => ?_)
      have e4 : h = h4 := k4.1.symm
      subst e4
      refine ok_if (fun c5 => ?_) (fun c5 => ?_)
      · refine ok_ob2 (u_X6_clauseField_1 h x3 3 (hSC).1) (fun r6 h6 k6 => ?_)
        have e6 : h = h6 := k6.1.symm
        subst e6
        refine ok_ob2 (u_X8_fill h r2 r3 r6 (hSC).1) (fun r7 h7 k7 => ?_)
        have s7 : SC h0 h7 := SC_trans (b := h) hSC k7.1
        unfold f_X8_played_146b
        refine ok_if (fun c8 => ?_) (fun c8 => ?_)
        · exact ok_some ⟨s7, trivial⟩
        · exact ih_X8_played_29b h7 (x3 + 1) s7 (by have := IC_n hSC.1; have := hm; have := gi_of_nle c1; have : (1 : Int32).toInt = 1 := rfl; have := fb_rng (eI h 10 1); have := fb_rng (x3); (try have := fb_addI (x := x3) (y := 1) (by omega) (by omega)); omega) (by have := IC_n hSC.1; have := hm; have := gi_of_nle c1; have : (1 : Int32).toInt = 1 := rfl; have := fb_rng (eI h 10 1); have := fb_rng (x3); (try have := fb_addI (x := x3) (y := 1) (by omega) (by omega)); omega)
      · refine ok_if (fun c9 => ?_) (fun c9 => ?_)
        · refine ok_ob2 (u_X8_send h r2 r3 (hSC).1) (fun r10 h10 k10 => ?_)
          have s10 : SC h0 h10 := SC_trans (b := h) hSC k10.1
          unfold f_X8_played_146b
          refine ok_if (fun c11 => ?_) (fun c11 => ?_)
          · exact ok_some ⟨s10, trivial⟩
          · exact ih_X8_played_29b h10 (x3 + 1) s10 (by have := IC_n hSC.1; have := hm; have := gi_of_nle c1; have : (1 : Int32).toInt = 1 := rfl; have := fb_rng (eI h 10 1); have := fb_rng (x3); (try have := fb_addI (x := x3) (y := 1) (by omega) (by omega)); omega) (by have := IC_n hSC.1; have := hm; have := gi_of_nle c1; have : (1 : Int32).toInt = 1 := rfl; have := fb_rng (eI h 10 1); have := fb_rng (x3); (try have := fb_addI (x := x3) (y := 1) (by omega) (by omega)); omega)
        · refine ok_if (fun c12 => ?_) (fun c12 => ?_)
          · refine ok_ob2 (u_X8_fatten h r2 (hSC).1) (fun r13 h13 k13 => ?_)
            have s13 : SC h0 h13 := SC_trans (b := h) hSC k13.1
            unfold f_X8_played_146b
            refine ok_if (fun c14 => ?_) (fun c14 => ?_)
            · exact ok_some ⟨s13, trivial⟩
            · exact ih_X8_played_29b h13 (x3 + 1) s13 (by have := IC_n hSC.1; have := hm; have := gi_of_nle c1; have : (1 : Int32).toInt = 1 := rfl; have := fb_rng (eI h 10 1); have := fb_rng (x3); (try have := fb_addI (x := x3) (y := 1) (by omega) (by omega)); omega) (by have := IC_n hSC.1; have := hm; have := gi_of_nle c1; have : (1 : Int32).toInt = 1 := rfl; have := fb_rng (eI h 10 1); have := fb_rng (x3); (try have := fb_addI (x := x3) (y := 1) (by omega) (by omega)); omega)
          · refine ok_if (fun c15 => ?_) (fun c15 => ?_)
            · refine ok_ob2 (u_X8_pass h r2 (hSC).1) (fun r16 h16 k16 => ?_)
              have s16 : SC h0 h16 := SC_trans (b := h) hSC k16.1
              unfold f_X8_played_146b
              refine ok_if (fun c17 => ?_) (fun c17 => ?_)
              · exact ok_some ⟨s16, trivial⟩
              · exact ih_X8_played_29b h16 (x3 + 1) s16 (by have := IC_n hSC.1; have := hm; have := gi_of_nle c1; have : (1 : Int32).toInt = 1 := rfl; have := fb_rng (eI h 10 1); have := fb_rng (x3); (try have := fb_addI (x := x3) (y := 1) (by omega) (by omega)); omega) (by have := IC_n hSC.1; have := hm; have := gi_of_nle c1; have : (1 : Int32).toInt = 1 := rfl; have := fb_rng (eI h 10 1); have := fb_rng (x3); (try have := fb_addI (x := x3) (y := 1) (by omega) (by omega)); omega)
            · unfold f_X8_played_146b
              refine ok_if (fun c18 => ?_) (fun c18 => ?_)
              · exact ok_some ⟨hSC, trivial⟩
              · exact ih_X8_played_29b h (x3 + 1) hSC (by have := IC_n hSC.1; have := hm; have := gi_of_nle c1; have := gi_of_ne c18; have : ((-1) : Int32).toInt = -1 := rfl; have : (0 : Int32).toInt = 0 := rfl; have : (1 : Int32).toInt = 1 := rfl; have := fb_rng (eI h 10 1); have := fb_rng (x3); (try have := fb_addI (x := x3) (y := 1) (by omega) (by omega)); omega) (by have := IC_n hSC.1; have := hm; have := gi_of_nle c1; have := gi_of_ne c18; have : ((-1) : Int32).toInt = -1 := rfl; have : (0 : Int32).toInt = 0 := rfl; have : (1 : Int32).toInt = 1 := rfl; have := fb_rng (eI h 10 1); have := fb_rng (x3); (try have := fb_addI (x := x3) (y := 1) (by omega) (by omega)); omega)
theorem u_X8_played_29c {h0 : HS} : ∀ (n : Nat) (h : HS) (x3 : Int32), SC h0 h → 0 < n → (2147483647 - (x3).toInt : Int) < (n : Int) → ok (f_X8_played_29c  n h x3) (fun a => SC h0 a.2 ∧ True) := by
  intro n
  induction n with
  | zero =>
    intro h x3 hSC hn hm
    exact absurd hn (by decide)
  | succ n ih_X8_played_29c =>
    intro h x3 hSC hn hm
    rw [f_X8_played_29c_s]
    refine ok_if (fun c1 => ?_) (fun c1 => ?_)
    · exact ok_some ⟨hSC, trivial⟩
    · refine ok_ob2 (u_X6_clauseField_2 h x3 1 (hSC).1) (fun r2 h2 k2 => ?_)
      have e2 : h = h2 := k2.1.symm
      subst e2
      refine ok_ob2 (u_X6_clauseField_2 h x3 2 (hSC).1) (fun r3 h3 k3 => ?_)
      have e3 : h = h3 := k3.1.symm
      subst e3
      refine ok_ob2 (u_X6_clauseField_2 h x3 0 (hSC).1) (fun r4 h4 k4 => ?_)
      have e4 : h = h4 := k4.1.symm
      subst e4
      refine ok_if (fun c5 => ?_) (fun c5 => ?_)
      · refine ok_ob2 (u_X6_clauseField_2 h x3 3 (hSC).1) (fun r6 h6 k6 => ?_)
        have e6 : h = h6 := k6.1.symm
        subst e6
        refine ok_ob2 (u_X8_fill h r2 r3 r6 (hSC).1) (fun r7 h7 k7 => ?_)
        have s7 : SC h0 h7 := SC_trans (b := h) hSC k7.1
        unfold f_X8_played_146c
        refine ok_if (fun c8 => ?_) (fun c8 => ?_)
        · exact ok_some ⟨s7, trivial⟩
        · exact ih_X8_played_29c h7 (x3 + 1) s7 (by have := IC_n hSC.1; have := hm; have := gi_of_nle c1; have : (1 : Int32).toInt = 1 := rfl; have := fb_rng (eI h 11 1); have := fb_rng (x3); (try have := fb_addI (x := x3) (y := 1) (by omega) (by omega)); omega) (by have := IC_n hSC.1; have := hm; have := gi_of_nle c1; have : (1 : Int32).toInt = 1 := rfl; have := fb_rng (eI h 11 1); have := fb_rng (x3); (try have := fb_addI (x := x3) (y := 1) (by omega) (by omega)); omega)
      · refine ok_if (fun c9 => ?_) (fun c9 => ?_)
        · refine ok_ob2 (u_X8_send h r2 r3 (hSC).1) (fun r10 h10 k10 => ?_)
          have s10 : SC h0 h10 := SC_trans (b := h) hSC k10.1
          unfold f_X8_played_146c
          refine ok_if (fun c11 => ?_) (fun c11 => ?_)
          · exact ok_some ⟨s10, trivial⟩
          · exact ih_X8_played_29c h10 (x3 + 1) s10 (by have := IC_n hSC.1; have := hm; have := gi_of_nle c1; have : (1 : Int32).toInt = 1 := rfl; have := fb_rng (eI h 11 1); have := fb_rng (x3); (try have := fb_addI (x := x3) (y := 1) (by omega) (by omega)); omega) (by have := IC_n hSC.1; have := hm; have := gi_of_nle c1; have : (1 : Int32).toInt = 1 := rfl; have := fb_rng (eI h 11 1); have := fb_rng (x3); (try have := fb_addI (x := x3) (y := 1) (by omega) (by omega)); omega)
        · refine ok_if (fun c12 => ?_) (fun c12 => ?_)
          · refine ok_ob2 (u_X8_fatten h r2 (hSC).1) (fun r13 h13 k13 => ?_)
            have s13 : SC h0 h13 := SC_trans (b := h) hSC k13.1
            unfold f_X8_played_146c
            refine ok_if (fun c14 => ?_) (fun c14 => ?_)
            · exact ok_some ⟨s13, trivial⟩
            · exact ih_X8_played_29c h13 (x3 + 1) s13 (by have := IC_n hSC.1; have := hm; have := gi_of_nle c1; have : (1 : Int32).toInt = 1 := rfl; have := fb_rng (eI h 11 1); have := fb_rng (x3); (try have := fb_addI (x := x3) (y := 1) (by omega) (by omega)); omega) (by have := IC_n hSC.1; have := hm; have := gi_of_nle c1; have : (1 : Int32).toInt = 1 := rfl; have := fb_rng (eI h 11 1); have := fb_rng (x3); (try have := fb_addI (x := x3) (y := 1) (by omega) (by omega)); omega)
          · refine ok_if (fun c15 => ?_) (fun c15 => ?_)
            · refine ok_ob2 (u_X8_pass h r2 (hSC).1) (fun r16 h16 k16 => ?_)
              have s16 : SC h0 h16 := SC_trans (b := h) hSC k16.1
              unfold f_X8_played_146c
              refine ok_if (fun c17 => ?_) (fun c17 => ?_)
              · exact ok_some ⟨s16, trivial⟩
              · exact ih_X8_played_29c h16 (x3 + 1) s16 (by have := IC_n hSC.1; have := hm; have := gi_of_nle c1; have : (1 : Int32).toInt = 1 := rfl; have := fb_rng (eI h 11 1); have := fb_rng (x3); (try have := fb_addI (x := x3) (y := 1) (by omega) (by omega)); omega) (by have := IC_n hSC.1; have := hm; have := gi_of_nle c1; have : (1 : Int32).toInt = 1 := rfl; have := fb_rng (eI h 11 1); have := fb_rng (x3); (try have := fb_addI (x := x3) (y := 1) (by omega) (by omega)); omega)
            · unfold f_X8_played_146c
              refine ok_if (fun c18 => ?_) (fun c18 => ?_)
              · exact ok_some ⟨hSC, trivial⟩
              · exact ih_X8_played_29c h (x3 + 1) hSC (by have := IC_n hSC.1; have := hm; have := gi_of_nle c1; have := gi_of_ne c18; have : ((-1) : Int32).toInt = -1 := rfl; have : (0 : Int32).toInt = 0 := rfl; have : (1 : Int32).toInt = 1 := rfl; have := fb_rng (eI h 11 1); have := fb_rng (x3); (try have := fb_addI (x := x3) (y := 1) (by omega) (by omega)); omega) (by have := IC_n hSC.1; have := hm; have := gi_of_nle c1; have := gi_of_ne c18; have : ((-1) : Int32).toInt = -1 := rfl; have : (0 : Int32).toInt = 0 := rfl; have : (1 : Int32).toInt = 1 := rfl; have := fb_rng (eI h 11 1); have := fb_rng (x3); (try have := fb_addI (x := x3) (y := 1) (by omega) (by omega)); omega)
theorem u_X8_played_29d {h0 : HS} : ∀ (n : Nat) (h : HS) (x3 : Int32), SC h0 h → 0 < n → (2147483647 - (x3).toInt : Int) < (n : Int) → ok (f_X8_played_29d  n h x3) (fun a => SC h0 a.2 ∧ True) := by
  intro n
  induction n with
  | zero =>
    intro h x3 hSC hn hm
    exact absurd hn (by decide)
  | succ n ih_X8_played_29d =>
    intro h x3 hSC hn hm
    rw [f_X8_played_29d_s]
    refine ok_if (fun c1 => ?_) (fun c1 => ?_)
    · exact ok_some ⟨hSC, trivial⟩
    · refine ok_ob2 (u_X6_clauseField_3 h x3 1 (hSC).1) (fun r2 h2 k2 => ?_)
      have e2 : h = h2 := k2.1.symm
      subst e2
      refine ok_ob2 (u_X6_clauseField_3 h x3 2 (hSC).1) (fun r3 h3 k3 => ?_)
      have e3 : h = h3 := k3.1.symm
      subst e3
      refine ok_ob2 (u_X6_clauseField_3 h x3 0 (hSC).1) (fun r4 h4 k4 => ?_)
      have e4 : h = h4 := k4.1.symm
      subst e4
      refine ok_if (fun c5 => ?_) (fun c5 => ?_)
      · refine ok_ob2 (u_X6_clauseField_3 h x3 3 (hSC).1) (fun r6 h6 k6 => ?_)
        have e6 : h = h6 := k6.1.symm
        subst e6
        refine ok_ob2 (u_X8_fill h r2 r3 r6 (hSC).1) (fun r7 h7 k7 => ?_)
        have s7 : SC h0 h7 := SC_trans (b := h) hSC k7.1
        unfold f_X8_played_146d
        refine ok_if (fun c8 => ?_) (fun c8 => ?_)
        · exact ok_some ⟨s7, trivial⟩
        · exact ih_X8_played_29d h7 (x3 + 1) s7 (by have := IC_n hSC.1; have := hm; have := gi_of_nle c1; have : (1 : Int32).toInt = 1 := rfl; have := fb_rng (eI h 12 1); have := fb_rng (x3); (try have := fb_addI (x := x3) (y := 1) (by omega) (by omega)); omega) (by have := IC_n hSC.1; have := hm; have := gi_of_nle c1; have : (1 : Int32).toInt = 1 := rfl; have := fb_rng (eI h 12 1); have := fb_rng (x3); (try have := fb_addI (x := x3) (y := 1) (by omega) (by omega)); omega)
      · refine ok_if (fun c9 => ?_) (fun c9 => ?_)
        · refine ok_ob2 (u_X8_send h r2 r3 (hSC).1) (fun r10 h10 k10 => ?_)
          have s10 : SC h0 h10 := SC_trans (b := h) hSC k10.1
          unfold f_X8_played_146d
          refine ok_if (fun c11 => ?_) (fun c11 => ?_)
          · exact ok_some ⟨s10, trivial⟩
          · exact ih_X8_played_29d h10 (x3 + 1) s10 (by have := IC_n hSC.1; have := hm; have := gi_of_nle c1; have : (1 : Int32).toInt = 1 := rfl; have := fb_rng (eI h 12 1); have := fb_rng (x3); (try have := fb_addI (x := x3) (y := 1) (by omega) (by omega)); omega) (by have := IC_n hSC.1; have := hm; have := gi_of_nle c1; have : (1 : Int32).toInt = 1 := rfl; have := fb_rng (eI h 12 1); have := fb_rng (x3); (try have := fb_addI (x := x3) (y := 1) (by omega) (by omega)); omega)
        · refine ok_if (fun c12 => ?_) (fun c12 => ?_)
          · refine ok_ob2 (u_X8_fatten h r2 (hSC).1) (fun r13 h13 k13 => ?_)
            have s13 : SC h0 h13 := SC_trans (b := h) hSC k13.1
            unfold f_X8_played_146d
            refine ok_if (fun c14 => ?_) (fun c14 => ?_)
            · exact ok_some ⟨s13, trivial⟩
            · exact ih_X8_played_29d h13 (x3 + 1) s13 (by have := IC_n hSC.1; have := hm; have := gi_of_nle c1; have : (1 : Int32).toInt = 1 := rfl; have := fb_rng (eI h 12 1); have := fb_rng (x3); (try have := fb_addI (x := x3) (y := 1) (by omega) (by omega)); omega) (by have := IC_n hSC.1; have := hm; have := gi_of_nle c1; have : (1 : Int32).toInt = 1 := rfl; have := fb_rng (eI h 12 1); have := fb_rng (x3); (try have := fb_addI (x := x3) (y := 1) (by omega) (by omega)); omega)
          · refine ok_if (fun c15 => ?_) (fun c15 => ?_)
            · refine ok_ob2 (u_X8_pass h r2 (hSC).1) (fun r16 h16 k16 => ?_)
              have s16 : SC h0 h16 := SC_trans (b := h) hSC k16.1
              unfold f_X8_played_146d
              refine ok_if (fun c17 => ?_) (fun c17 => ?_)
              · exact ok_some ⟨s16, trivial⟩
              · exact ih_X8_played_29d h16 (x3 + 1) s16 (by have := IC_n hSC.1; have := hm; have := gi_of_nle c1; have : (1 : Int32).toInt = 1 := rfl; have := fb_rng (eI h 12 1); have := fb_rng (x3); (try have := fb_addI (x := x3) (y := 1) (by omega) (by omega)); omega) (by have := IC_n hSC.1; have := hm; have := gi_of_nle c1; have : (1 : Int32).toInt = 1 := rfl; have := fb_rng (eI h 12 1); have := fb_rng (x3); (try have := fb_addI (x := x3) (y := 1) (by omega) (by omega)); omega)
            · unfold f_X8_played_146d
              refine ok_if (fun c18 => ?_) (fun c18 => ?_)
              · exact ok_some ⟨hSC, trivial⟩
              · exact ih_X8_played_29d h (x3 + 1) hSC (by have := IC_n hSC.1; have := hm; have := gi_of_nle c1; have := gi_of_ne c18; have : ((-1) : Int32).toInt = -1 := rfl; have : (0 : Int32).toInt = 0 := rfl; have : (1 : Int32).toInt = 1 := rfl; have := fb_rng (eI h 12 1); have := fb_rng (x3); (try have := fb_addI (x := x3) (y := 1) (by omega) (by omega)); omega) (by have := IC_n hSC.1; have := hm; have := gi_of_nle c1; have := gi_of_ne c18; have : ((-1) : Int32).toInt = -1 := rfl; have : (0 : Int32).toInt = 0 := rfl; have : (1 : Int32).toInt = 1 := rfl; have := fb_rng (eI h 12 1); have := fb_rng (x3); (try have := fb_addI (x := x3) (y := 1) (by omega) (by omega)); omega)
theorem u_X8_played (h : HS) (p1 : Int32) (hI : IC h) : ok (f_X8_played h p1) (fun a => SC h a.2 ∧ True) := by
  unfold f_X8_played
  refine ok_if (fun c1 => ?_) (fun c1 => ?_)
  · refine ok_if (fun c2 => ?_) (fun c2 => ?_)
    · unfold f_X8_played_24
      exact ok_some ⟨(SC_refl hI), trivial⟩
    · exact u_X8_played_29 (h0 := h) 8589934592 h 0 (SC_refl hI) (by decide) (by have : (0 : Int32).toInt = 0 := rfl; omega)
  · refine ok_if (fun c3 => ?_) (fun c3 => ?_)
    · refine ok_if (fun c4 => ?_) (fun c4 => ?_)
      · unfold f_X8_played_24
        exact ok_some ⟨(SC_refl hI), trivial⟩
      · exact u_X8_played_29b (h0 := h) 8589934592 h 0 (SC_refl hI) (by decide) (by have : (0 : Int32).toInt = 0 := rfl; omega)
    · refine ok_if (fun c5 => ?_) (fun c5 => ?_)
      · refine ok_if (fun c6 => ?_) (fun c6 => ?_)
        · unfold f_X8_played_24
          exact ok_some ⟨(SC_refl hI), trivial⟩
        · exact u_X8_played_29c (h0 := h) 8589934592 h 0 (SC_refl hI) (by decide) (by have : (0 : Int32).toInt = 0 := rfl; omega)
      · refine ok_if (fun c7 => ?_) (fun c7 => ?_)
        · refine ok_if (fun c8 => ?_) (fun c8 => ?_)
          · unfold f_X8_played_24
            exact ok_some ⟨(SC_refl hI), trivial⟩
          · exact u_X8_played_29d (h0 := h) 8589934592 h 0 (SC_refl hI) (by decide) (by have : (0 : Int32).toInt = 0 := rfl; omega)
        · refine ok_if (fun c9 => ?_) (fun c9 => ?_)
          · unfold f_X8_played_24
            exact ok_some ⟨(SC_refl hI), trivial⟩
          · unfold f_X8_played_24
            exact ok_some ⟨(SC_refl hI), trivial⟩
theorem u_X8_undo (h : HS) (hI : IC h) : ok (f_X8_undo h) (fun a => SC h a.2 ∧ True) := by
  unfold f_X8_undo
  refine ok_ob2 (u_X4_takeStepBack h ((SC_refl hI)).1) (fun r1 h1 k1 => ?_)
  have s1 : SC h h1 := SC_trans (b := h) (SC_refl hI) k1.1
  refine ok_if (fun c2 => ?_) (fun c2 => ?_)
  · unfold f_X8_undo_21
    exact ok_some ⟨s1, trivial⟩
  · unfold f_X8_undo_21
    exact ok_some ⟨s1, trivial⟩
theorem u_X8_of (h : HS) (p1 : Int32) (p2 : Int32) (hI : IC h) : ok (f_X8_of h p1 p2) (fun a => SC h a.2 ∧ True) := by
  unfold f_X8_of
  refine ok_ob2 (u_X4_hasGoose h p1 ((SC_refl hI)).1) (fun r1 h1 k1 => ?_)
  have e1 : h = h1 := k1.1.symm
  subst e1
  refine ok_if (fun c2 => ?_) (fun c2 => ?_)
  · unfold f_X8_of_21
    exact ok_some ⟨(SC_refl hI), trivial⟩
  · refine ok_if (fun c3 => ?_) (fun c3 => ?_)
    · unfold f_X8_of_21
      exact ok_some ⟨(SC_refl hI), trivial⟩
    · refine ok_if (fun c4 => ?_) (fun c4 => ?_)
      · refine ok_if (fun c5 => ?_) (fun c5 => ?_)
        · refine ok_ob2 (u_X1_isTrue h p1 ((SC_refl hI)).1) (fun r6 h6 k6 => ?_)
          have s6 : SC h h6 := SC_trans (b := h) (SC_refl hI) k6.1
          refine ok_if (fun c7 => ?_) (fun c7 => ?_)
          · unfold f_X8_of_50
            exact ok_some ⟨s6, trivial⟩
          · unfold f_X8_of_50
            exact ok_some ⟨s6, trivial⟩
        · refine ok_ob2 (u_X4_ofGoose h p1 p2 ((SC_refl hI)).1) (fun r8 h8 k8 => ?_)
          have e8 : h = h8 := k8.1.symm
          subst e8
          exact ok_some ⟨(SC_refl hI), trivial⟩
      · unfold f_X8_of_21
        exact ok_some ⟨(SC_refl hI), trivial⟩
theorem u_X8_ink (h : HS) (p1 : Int32) (p2 : Int32) (p3 : Int32) (hI : IC h) : ok (f_X8_ink h p1 p2 p3) (fun a => SC h a.2 ∧ True) := by
  unfold f_X8_ink
  refine ok_ob2 (u_X4_hasGoose h p1 ((SC_refl hI)).1) (fun r1 h1 k1 => ?_)
  have e1 : h = h1 := k1.1.symm
  subst e1
  refine ok_if (fun c2 => ?_) (fun c2 => ?_)
  · unfold f_X8_ink_19
    exact ok_some ⟨(SC_refl hI), trivial⟩
  · refine ok_ob1 (u_X8_isQuill p2 p3) (fun r3 k3 => ?_)
    refine ok_if (fun c4 => ?_) (fun c4 => ?_)
    · unfold f_X8_ink_19
      exact ok_some ⟨(SC_refl hI), trivial⟩
    · refine ok_ob2 (u_X1_inkCost h p1 p2 p3 ((SC_refl hI)).1) (fun r5 h5 k5 => ?_)
      have s5 : SC h h5 := SC_trans (b := h) (SC_refl hI) k5.1
      exact ok_some ⟨s5, trivial⟩
theorem u_X8_tells (h : HS) (p1 : Int32) (p2 : Int32) (p3 : Int32) (hI : IC h) : ok (f_X8_tells h p1 p2 p3) (fun a => SC h a.2 ∧ (a.1 = 0 ∨ a.1 = 1)) := by
  unfold f_X8_tells
  refine ok_ob2 (u_X4_ofGoose h p1 2 ((SC_refl hI)).1) (fun r1 h1 k1 => ?_)
  have e1 : h = h1 := k1.1.symm
  subst e1
  refine ok_if (fun c2 => ?_) (fun c2 => ?_)
  · refine ok_if (fun c3 => ?_) (fun c3 => ?_)
    · refine ok_ob2 (u_X4_ofGoose h p1 4 ((SC_refl hI)).1) (fun r4 h4 k4 => ?_)
      have e4 : h = h4 := k4.1.symm
      subst e4
      refine ok_if (fun c5 => ?_) (fun c5 => ?_)
      · refine ok_ob2 (u_X1_isTrue h p1 ((SC_refl hI)).1) (fun r6 h6 k6 => ?_)
        have s6 : SC h h6 := SC_trans (b := h) (SC_refl hI) k6.1
        refine ok_if (fun c7 => ?_) (fun c7 => ?_)
        · unfold f_X8_tells_70
          unfold f_X8_tells_71
          refine ok_chk (Or.inl rfl) ?_
          exact ok_some ⟨s6, (Or.inl rfl)⟩
        · unfold f_X8_tells_71
          refine ok_chk (Or.inr rfl) ?_
          exact ok_some ⟨s6, (Or.inr rfl)⟩
      · unfold f_X8_tells_70
        unfold f_X8_tells_71
        refine ok_chk (Or.inl rfl) ?_
        exact ok_some ⟨(SC_refl hI), (Or.inl rfl)⟩
    · refine ok_ob2 (u_X4_ofGoose h p1 4 ((SC_refl hI)).1) (fun r11 h11 k11 => ?_)
      have e11 : h = h11 := k11.1.symm
      subst e11
      refine ok_if (fun c12 => ?_) (fun c12 => ?_)
      · unfold f_X8_tells_37
        refine ok_chk (Or.inr rfl) ?_
        exact ok_some ⟨(SC_refl hI), (Or.inr rfl)⟩
      · unfold f_X8_tells_37
        refine ok_chk (Or.inl rfl) ?_
        exact ok_some ⟨(SC_refl hI), (Or.inl rfl)⟩
  · exact ok_some ⟨(SC_refl hI), (Or.inl rfl)⟩
theorem u_X8_halvesHad_6 {h0 : HS} (x1 : Int32) (x2 : Int32) (x3 : Int32) (x4 : Int32) : ∀ (n : Nat) (h : HS) (x5 : Int32) (x6 : Int32), SC h0 h → 0 < n → (10 - (x6).toInt : Int) < (n : Int) → ok (f_X8_halvesHad_6  n h x1 x2 x3 x4 x5 x6) (fun a => SC h0 a.2 ∧ True) := by
  intro n
  induction n with
  | zero =>
    intro h x5 x6 hSC hn hm
    exact absurd hn (by decide)
  | succ n ih_X8_halvesHad_6 =>
    intro h x5 x6 hSC hn hm
    rw [f_X8_halvesHad_6_s]
    refine ok_if (fun c1 => ?_) (fun c1 => ?_)
    · exact ok_some ⟨hSC, trivial⟩
    · refine ok_ob2 (u_X4_ofGoose h x6 7 (hSC).1) (fun r2 h2 k2 => ?_)
      have e2 : h = h2 := k2.1.symm
      subst e2
      refine ok_if (fun c3 => ?_) (fun c3 => ?_)
      · unfold f_X8_halvesHad_50
        refine ok_ob2 (u_X8_tells h x6 x1 x2 (hSC).1) (fun r4 h4 k4 => ?_)
        have s4 : SC h0 h4 := SC_trans (b := h) hSC k4.1
        refine ok_if (fun c5 => ?_) (fun c5 => ?_)
        · unfold f_X8_halvesHad_79
          exact ih_X8_halvesHad_6 h4 x5 (x6 + 1) s4 (by have := IC_n hSC.1; have := hm; have := gi_of_nle c1; have : (1 : Int32).toInt = 1 := rfl; have := fb_rng (eI h 1 3); have := fb_rng (x6); (try have := fb_addI (x := x6) (y := 1) (by omega) (by omega)); omega) (by have := IC_n hSC.1; have := hm; have := gi_of_nle c1; have : (1 : Int32).toInt = 1 := rfl; have := fb_rng (eI h 1 3); have := fb_rng (x6); (try have := fb_addI (x := x6) (y := 1) (by omega) (by omega)); omega)
        · refine ok_ob2 (u_X4_ofGoose h4 x6 3 (s4).1) (fun r6 h6 k6 => ?_)
          have e6 : h4 = h6 := k6.1.symm
          subst e6
          refine ok_ob1 (u_X8_halvesOf r6) (fun r7 k7 => ?_)
          unfold f_X8_halvesHad_79
          exact ih_X8_halvesHad_6 h4 (x5 ||| r7) (x6 + 1) s4 (by have := IC_n hSC.1; have := hm; have : (0 ≤ (r7).toInt ∧ (r7).toInt ≤ 3) := k7; have := gi_of_nle c1; have : (1 : Int32).toInt = 1 := rfl; have := fb_rng (eI h 1 3); have := fb_rng (x6); (try have := fb_addI (x := x6) (y := 1) (by omega) (by omega)); omega) (by have := IC_n hSC.1; have := hm; have : (0 ≤ (r7).toInt ∧ (r7).toInt ≤ 3) := k7; have := gi_of_nle c1; have : (1 : Int32).toInt = 1 := rfl; have := fb_rng (eI h 1 3); have := fb_rng (x6); (try have := fb_addI (x := x6) (y := 1) (by omega) (by omega)); omega)
      · refine ok_if (fun c8 => ?_) (fun c8 => ?_)
        · refine ok_if (fun c9 => ?_) (fun c9 => ?_)
          · unfold f_X8_halvesHad_79
            exact ih_X8_halvesHad_6 h x5 (x6 + 1) hSC (by have := IC_n hSC.1; have := hm; have := gi_of_nle c1; have := gi_of_le c9; have : (1 : Int32).toInt = 1 := rfl; have := fb_rng (eI h 1 3); have := fb_rng (x6); have := fb_rng (x4); (try have := fb_addI (x := x6) (y := 1) (by omega) (by omega)); omega) (by have := IC_n hSC.1; have := hm; have := gi_of_nle c1; have := gi_of_le c9; have : (1 : Int32).toInt = 1 := rfl; have := fb_rng (eI h 1 3); have := fb_rng (x6); have := fb_rng (x4); (try have := fb_addI (x := x6) (y := 1) (by omega) (by omega)); omega)
          · unfold f_X8_halvesHad_50
            refine ok_ob2 (u_X8_tells h x6 x1 x2 (hSC).1) (fun r10 h10 k10 => ?_)
            have s10 : SC h0 h10 := SC_trans (b := h) hSC k10.1
            refine ok_if (fun c11 => ?_) (fun c11 => ?_)
            · unfold f_X8_halvesHad_79
              exact ih_X8_halvesHad_6 h10 x5 (x6 + 1) s10 (by have := IC_n hSC.1; have := hm; have := gi_of_nle c1; have := gi_of_nle c9; have : (1 : Int32).toInt = 1 := rfl; have := fb_rng (eI h 1 3); have := fb_rng (x6); have := fb_rng (x4); (try have := fb_addI (x := x6) (y := 1) (by omega) (by omega)); omega) (by have := IC_n hSC.1; have := hm; have := gi_of_nle c1; have := gi_of_nle c9; have : (1 : Int32).toInt = 1 := rfl; have := fb_rng (eI h 1 3); have := fb_rng (x6); have := fb_rng (x4); (try have := fb_addI (x := x6) (y := 1) (by omega) (by omega)); omega)
            · refine ok_ob2 (u_X4_ofGoose h10 x6 3 (s10).1) (fun r12 h12 k12 => ?_)
              have e12 : h10 = h12 := k12.1.symm
              subst e12
              refine ok_ob1 (u_X8_halvesOf r12) (fun r13 k13 => ?_)
              unfold f_X8_halvesHad_79
              exact ih_X8_halvesHad_6 h10 (x5 ||| r13) (x6 + 1) s10 (by have := IC_n hSC.1; have := hm; have : (0 ≤ (r13).toInt ∧ (r13).toInt ≤ 3) := k13; have := gi_of_nle c1; have := gi_of_nle c9; have : (1 : Int32).toInt = 1 := rfl; have := fb_rng (eI h 1 3); have := fb_rng (x6); have := fb_rng (x4); (try have := fb_addI (x := x6) (y := 1) (by omega) (by omega)); omega) (by have := IC_n hSC.1; have := hm; have : (0 ≤ (r13).toInt ∧ (r13).toInt ≤ 3) := k13; have := gi_of_nle c1; have := gi_of_nle c9; have : (1 : Int32).toInt = 1 := rfl; have := fb_rng (eI h 1 3); have := fb_rng (x6); have := fb_rng (x4); (try have := fb_addI (x := x6) (y := 1) (by omega) (by omega)); omega)
        · unfold f_X8_halvesHad_79
          exact ih_X8_halvesHad_6 h x5 (x6 + 1) hSC (by have := IC_n hSC.1; have := hm; have := gi_of_nle c1; have : (1 : Int32).toInt = 1 := rfl; have := fb_rng (eI h 1 3); have := fb_rng (x6); (try have := fb_addI (x := x6) (y := 1) (by omega) (by omega)); omega) (by have := IC_n hSC.1; have := hm; have := gi_of_nle c1; have : (1 : Int32).toInt = 1 := rfl; have := fb_rng (eI h 1 3); have := fb_rng (x6); (try have := fb_addI (x := x6) (y := 1) (by omega) (by omega)); omega)
theorem u_X8_halvesHad (h : HS) (p1 : Int32) (p2 : Int32) (p3 : Int32) (p4 : Int32) (hI : IC h) : ok (f_X8_halvesHad h p1 p2 p3 p4) (fun a => SC h a.2 ∧ True) := by
  unfold f_X8_halvesHad
  exact u_X8_halvesHad_6 (h0 := h) p1 p2 p3 p4 8589934592 h 0 0 (SC_refl hI) (by decide) (by have : (0 : Int32).toInt = 0 := rfl; omega)
theorem u_X8_known (h : HS) (p1 : Int32) (p2 : Int32) (hI : IC h) : ok (f_X8_known h p1 p2) (fun a => SC h a.2 ∧ True) := by
  unfold f_X8_known
  refine ok_ob1 (u_X8_isLetter p1) (fun r1 k1 => ?_)
  refine ok_if (fun c2 => ?_) (fun c2 => ?_)
  · unfold f_X8_known_18
    exact ok_some ⟨(SC_refl hI), trivial⟩
  · refine ok_if (fun c3 => ?_) (fun c3 => ?_)
    · unfold f_X8_known_18
      exact ok_some ⟨(SC_refl hI), trivial⟩
    · refine ok_if (fun c4 => ?_) (fun c4 => ?_)
      · refine ok_ob2 (u_X8_halvesHad h p1 0 p2 10 ((SC_refl hI)).1) (fun r5 h5 k5 => ?_)
        have s5 : SC h h5 := SC_trans (b := h) (SC_refl hI) k5.1
        refine ok_if (fun c6 => ?_) (fun c6 => ?_)
        · unfold f_X8_known_38
          refine ok_ob2 (u_X8_halvesHad h5 p1 1 p2 10 (s5).1) (fun r7 h7 k7 => ?_)
          have s7 : SC h h7 := SC_trans (b := h5) s5 k7.1
          refine ok_if (fun c8 => ?_) (fun c8 => ?_)
          · unfold f_X8_known_57
            exact ok_some ⟨s7, trivial⟩
          · unfold f_X8_known_57
            exact ok_some ⟨s7, trivial⟩
        · unfold f_X8_known_38
          refine ok_ob2 (u_X8_halvesHad h5 p1 1 p2 10 (s5).1) (fun r9 h9 k9 => ?_)
          have s9 : SC h h9 := SC_trans (b := h5) s5 k9.1
          refine ok_if (fun c10 => ?_) (fun c10 => ?_)
          · unfold f_X8_known_57
            exact ok_some ⟨s9, trivial⟩
          · unfold f_X8_known_57
            exact ok_some ⟨s9, trivial⟩
      · unfold f_X8_known_18
        exact ok_some ⟨(SC_refl hI), trivial⟩
theorem u_X8_led_14 {h0 : HS} (x1 : Int32) (x2 : Int32) : ∀ (n : Nat) (h : HS) (x3 : Int32) (x4 : Int32), SC h0 h → 0 < n → (10 - (x4).toInt : Int) < (n : Int) → ok (f_X8_led_14  n h x1 x2 x3 x4) (fun a => SC h0 a.2 ∧ True) := by
  intro n
  induction n with
  | zero =>
    intro h x3 x4 hSC hn hm
    exact absurd hn (by decide)
  | succ n ih_X8_led_14 =>
    intro h x3 x4 hSC hn hm
    rw [f_X8_led_14_s]
    refine ok_if (fun c1 => ?_) (fun c1 => ?_)
    · exact ok_some ⟨hSC, trivial⟩
    · refine ok_ob2 (u_X4_ofGoose h x4 7 (hSC).1) (fun r2 h2 k2 => ?_)
      have e2 : h = h2 := k2.1.symm
      subst e2
      refine ok_if (fun c3 => ?_) (fun c3 => ?_)
      · unfold f_X8_led_59
        unfold f_X8_led_64
        refine ok_if (fun c4 => ?_) (fun c4 => ?_)
        · unfold f_X8_led_101
          exact ih_X8_led_14 h x3 (x4 + 1) hSC (by have := IC_n hSC.1; have := hm; have := gi_of_nle c1; have := gi_of_eq c4; have : (0 : Int32).toInt = 0 := rfl; have : (1 : Int32).toInt = 1 := rfl; have := fb_rng (eI h 1 3); have := fb_rng (x4); (try have := fb_addI (x := x4) (y := 1) (by omega) (by omega)); omega) (by have := IC_n hSC.1; have := hm; have := gi_of_nle c1; have := gi_of_eq c4; have : (0 : Int32).toInt = 0 := rfl; have : (1 : Int32).toInt = 1 := rfl; have := fb_rng (eI h 1 3); have := fb_rng (x4); (try have := fb_addI (x := x4) (y := 1) (by omega) (by omega)); omega)
        · refine ok_ob2 (u_X8_tells h x4 x1 x2 (hSC).1) (fun r5 h5 k5 => ?_)
          have s5 : SC h0 h5 := SC_trans (b := h) hSC k5.1
          refine ok_if (fun c6 => ?_) (fun c6 => ?_)
          · unfold f_X8_led_101
            exact ih_X8_led_14 h5 x3 (x4 + 1) s5 (by have := IC_n hSC.1; have := hm; have := gi_of_nle c1; have := gi_of_ne c4; have : (0 : Int32).toInt = 0 := rfl; have : (1 : Int32).toInt = 1 := rfl; have := fb_rng (eI h 1 3); have := fb_rng (x4); (try have := fb_addI (x := x4) (y := 1) (by omega) (by omega)); omega) (by have := IC_n hSC.1; have := hm; have := gi_of_nle c1; have := gi_of_ne c4; have : (0 : Int32).toInt = 0 := rfl; have : (1 : Int32).toInt = 1 := rfl; have := fb_rng (eI h 1 3); have := fb_rng (x4); (try have := fb_addI (x := x4) (y := 1) (by omega) (by omega)); omega)
          · refine ok_ob2 (u_X8_halvesHad h5 x1 x2 r2 (x4 + 1) (s5).1) (fun r7 h7 k7 => ?_)
            have s7 : SC h0 h7 := SC_trans (b := h5) s5 k7.1
            refine ok_if (fun c8 => ?_) (fun c8 => ?_)
            · unfold f_X8_led_101
              exact ih_X8_led_14 h7 x4 (x4 + 1) s7 (by have := IC_n hSC.1; have := hm; have := gi_of_nle c1; have := gi_of_ne c4; have : (0 : Int32).toInt = 0 := rfl; have : (1 : Int32).toInt = 1 := rfl; have := fb_rng (eI h 1 3); have := fb_rng (x4); (try have := fb_addI (x := x4) (y := 1) (by omega) (by omega)); omega) (by have := IC_n hSC.1; have := hm; have := gi_of_nle c1; have := gi_of_ne c4; have : (0 : Int32).toInt = 0 := rfl; have : (1 : Int32).toInt = 1 := rfl; have := fb_rng (eI h 1 3); have := fb_rng (x4); (try have := fb_addI (x := x4) (y := 1) (by omega) (by omega)); omega)
            · unfold f_X8_led_101
              exact ih_X8_led_14 h7 x3 (x4 + 1) s7 (by have := IC_n hSC.1; have := hm; have := gi_of_nle c1; have := gi_of_ne c4; have : (0 : Int32).toInt = 0 := rfl; have : (1 : Int32).toInt = 1 := rfl; have := fb_rng (eI h 1 3); have := fb_rng (x4); (try have := fb_addI (x := x4) (y := 1) (by omega) (by omega)); omega) (by have := IC_n hSC.1; have := hm; have := gi_of_nle c1; have := gi_of_ne c4; have : (0 : Int32).toInt = 0 := rfl; have : (1 : Int32).toInt = 1 := rfl; have := fb_rng (eI h 1 3); have := fb_rng (x4); (try have := fb_addI (x := x4) (y := 1) (by omega) (by omega)); omega)
      · refine ok_ob2 (u_X4_ofGoose h x3 7 (hSC).1) (fun r9 h9 k9 => ?_)
        have e9 : h = h9 := k9.1.symm
        subst e9
        refine ok_if (fun c10 => ?_) (fun c10 => ?_)
        · unfold f_X8_led_64
          refine ok_if (fun c11 => ?_) (fun c11 => ?_)
          · unfold f_X8_led_101
            exact ih_X8_led_14 h x3 (x4 + 1) hSC (by have := IC_n hSC.1; have := hm; have := gi_of_nle c1; have := gi_of_eq c11; have : (0 : Int32).toInt = 0 := rfl; have : (1 : Int32).toInt = 1 := rfl; have := fb_rng (eI h 1 3); have := fb_rng (x4); (try have := fb_addI (x := x4) (y := 1) (by omega) (by omega)); omega) (by have := IC_n hSC.1; have := hm; have := gi_of_nle c1; have := gi_of_eq c11; have : (0 : Int32).toInt = 0 := rfl; have : (1 : Int32).toInt = 1 := rfl; have := fb_rng (eI h 1 3); have := fb_rng (x4); (try have := fb_addI (x := x4) (y := 1) (by omega) (by omega)); omega)
          · refine ok_ob2 (u_X8_tells h x4 x1 x2 (hSC).1) (fun r12 h12 k12 => ?_)
            have s12 : SC h0 h12 := SC_trans (b := h) hSC k12.1
            refine ok_if (fun c13 => ?_) (fun c13 => ?_)
            · unfold f_X8_led_101
              exact ih_X8_led_14 h12 x3 (x4 + 1) s12 (by have := IC_n hSC.1; have := hm; have := gi_of_nle c1; have := gi_of_ne c11; have : (0 : Int32).toInt = 0 := rfl; have : (1 : Int32).toInt = 1 := rfl; have := fb_rng (eI h 1 3); have := fb_rng (x4); (try have := fb_addI (x := x4) (y := 1) (by omega) (by omega)); omega) (by have := IC_n hSC.1; have := hm; have := gi_of_nle c1; have := gi_of_ne c11; have : (0 : Int32).toInt = 0 := rfl; have : (1 : Int32).toInt = 1 := rfl; have := fb_rng (eI h 1 3); have := fb_rng (x4); (try have := fb_addI (x := x4) (y := 1) (by omega) (by omega)); omega)
            · refine ok_ob2 (u_X8_halvesHad h12 x1 x2 r2 (x4 + 1) (s12).1) (fun r14 h14 k14 => ?_)
              have s14 : SC h0 h14 := SC_trans (b := h12) s12 k14.1
              refine ok_if (fun c15 => ?_) (fun c15 => ?_)
              · unfold f_X8_led_101
                exact ih_X8_led_14 h14 x4 (x4 + 1) s14 (by have := IC_n hSC.1; have := hm; have := gi_of_nle c1; have := gi_of_ne c11; have : (0 : Int32).toInt = 0 := rfl; have : (1 : Int32).toInt = 1 := rfl; have := fb_rng (eI h 1 3); have := fb_rng (x4); (try have := fb_addI (x := x4) (y := 1) (by omega) (by omega)); omega) (by have := IC_n hSC.1; have := hm; have := gi_of_nle c1; have := gi_of_ne c11; have : (0 : Int32).toInt = 0 := rfl; have : (1 : Int32).toInt = 1 := rfl; have := fb_rng (eI h 1 3); have := fb_rng (x4); (try have := fb_addI (x := x4) (y := 1) (by omega) (by omega)); omega)
              · unfold f_X8_led_101
                exact ih_X8_led_14 h14 x3 (x4 + 1) s14 (by have := IC_n hSC.1; have := hm; have := gi_of_nle c1; have := gi_of_ne c11; have : (0 : Int32).toInt = 0 := rfl; have : (1 : Int32).toInt = 1 := rfl; have := fb_rng (eI h 1 3); have := fb_rng (x4); (try have := fb_addI (x := x4) (y := 1) (by omega) (by omega)); omega) (by have := IC_n hSC.1; have := hm; have := gi_of_nle c1; have := gi_of_ne c11; have : (0 : Int32).toInt = 0 := rfl; have : (1 : Int32).toInt = 1 := rfl; have := fb_rng (eI h 1 3); have := fb_rng (x4); (try have := fb_addI (x := x4) (y := 1) (by omega) (by omega)); omega)
        · unfold f_X8_led_59
          unfold f_X8_led_64
          refine ok_if (fun c16 => ?_) (fun c16 => ?_)
          · unfold f_X8_led_101
            exact ih_X8_led_14 h x3 (x4 + 1) hSC (by have := IC_n hSC.1; have := hm; have := gi_of_nle c1; have := gi_of_eq c16; have : (0 : Int32).toInt = 0 := rfl; have : (1 : Int32).toInt = 1 := rfl; have := fb_rng (eI h 1 3); have := fb_rng (x4); (try have := fb_addI (x := x4) (y := 1) (by omega) (by omega)); omega) (by have := IC_n hSC.1; have := hm; have := gi_of_nle c1; have := gi_of_eq c16; have : (0 : Int32).toInt = 0 := rfl; have : (1 : Int32).toInt = 1 := rfl; have := fb_rng (eI h 1 3); have := fb_rng (x4); (try have := fb_addI (x := x4) (y := 1) (by omega) (by omega)); omega)
          · refine ok_ob2 (u_X8_tells h x4 x1 x2 (hSC).1) (fun r17 h17 k17 => ?_)
            have s17 : SC h0 h17 := SC_trans (b := h) hSC k17.1
            refine ok_if (fun c18 => ?_) (fun c18 => ?_)
            · unfold f_X8_led_101
              exact ih_X8_led_14 h17 x3 (x4 + 1) s17 (by have := IC_n hSC.1; have := hm; have := gi_of_nle c1; have := gi_of_ne c16; have : (0 : Int32).toInt = 0 := rfl; have : (1 : Int32).toInt = 1 := rfl; have := fb_rng (eI h 1 3); have := fb_rng (x4); (try have := fb_addI (x := x4) (y := 1) (by omega) (by omega)); omega) (by have := IC_n hSC.1; have := hm; have := gi_of_nle c1; have := gi_of_ne c16; have : (0 : Int32).toInt = 0 := rfl; have : (1 : Int32).toInt = 1 := rfl; have := fb_rng (eI h 1 3); have := fb_rng (x4); (try have := fb_addI (x := x4) (y := 1) (by omega) (by omega)); omega)
            · refine ok_ob2 (u_X8_halvesHad h17 x1 x2 r2 (x4 + 1) (s17).1) (fun r19 h19 k19 => ?_)
              have s19 : SC h0 h19 := SC_trans (b := h17) s17 k19.1
              refine ok_if (fun c20 => ?_) (fun c20 => ?_)
              · unfold f_X8_led_101
                exact ih_X8_led_14 h19 x4 (x4 + 1) s19 (by have := IC_n hSC.1; have := hm; have := gi_of_nle c1; have := gi_of_ne c16; have : (0 : Int32).toInt = 0 := rfl; have : (1 : Int32).toInt = 1 := rfl; have := fb_rng (eI h 1 3); have := fb_rng (x4); (try have := fb_addI (x := x4) (y := 1) (by omega) (by omega)); omega) (by have := IC_n hSC.1; have := hm; have := gi_of_nle c1; have := gi_of_ne c16; have : (0 : Int32).toInt = 0 := rfl; have : (1 : Int32).toInt = 1 := rfl; have := fb_rng (eI h 1 3); have := fb_rng (x4); (try have := fb_addI (x := x4) (y := 1) (by omega) (by omega)); omega)
              · unfold f_X8_led_101
                exact ih_X8_led_14 h19 x3 (x4 + 1) s19 (by have := IC_n hSC.1; have := hm; have := gi_of_nle c1; have := gi_of_ne c16; have : (0 : Int32).toInt = 0 := rfl; have : (1 : Int32).toInt = 1 := rfl; have := fb_rng (eI h 1 3); have := fb_rng (x4); (try have := fb_addI (x := x4) (y := 1) (by omega) (by omega)); omega) (by have := IC_n hSC.1; have := hm; have := gi_of_nle c1; have := gi_of_ne c16; have : (0 : Int32).toInt = 0 := rfl; have : (1 : Int32).toInt = 1 := rfl; have := fb_rng (eI h 1 3); have := fb_rng (x4); (try have := fb_addI (x := x4) (y := 1) (by omega) (by omega)); omega)
theorem u_X8_led (h : HS) (p1 : Int32) (p2 : Int32) (hI : IC h) : ok (f_X8_led h p1 p2) (fun a => SC h a.2 ∧ True) := by
  unfold f_X8_led
  refine ok_ob1 (u_X8_isLetter p1) (fun r1 k1 => ?_)
  refine ok_if (fun c2 => ?_) (fun c2 => ?_)
  · exact ok_some ⟨(SC_refl hI), trivial⟩
  · exact u_X8_led_14 (h0 := h) p1 p2 8589934592 h (-1) 0 (SC_refl hI) (by decide) (by have : (0 : Int32).toInt = 0 := rfl; omega)
theorem u_X8_answer (h : HS) (p1 : Int32) (hI : IC h) : ok (f_X8_answer h p1) (fun a => SC h a.2 ∧ True) := by
  unfold f_X8_answer
  refine ok_ob2 (u_X8_led h p1 0 ((SC_refl hI)).1) (fun r1 h1 k1 => ?_)
  have s1 : SC h h1 := SC_trans (b := h) (SC_refl hI) k1.1
  refine ok_if (fun c2 => ?_) (fun c2 => ?_)
  · exact ok_some ⟨s1, trivial⟩
  · refine ok_ob2 (u_X4_ofGoose h1 r1 7 (s1).1) (fun r3 h3 k3 => ?_)
    have e3 : h1 = h3 := k3.1.symm
    subst e3
    refine ok_ob2 (u_X4_ofGoose h1 r1 5 (s1).1) (fun r4 h4 k4 => ?_)
    have e4 : h1 = h4 := k4.1.symm
    subst e4
    refine ok_ob2 (u_X4_ofMarket h1 r4 0 (s1).1) (fun r5 h5 k5 => ?_)
    have e5 : h1 = h5 := k5.1.symm
    subst e5
    exact ok_some ⟨s1, trivial⟩
theorem u_X8_plucks_12 {h0 : HS} (x1 : Int32) (x2 : Int32) : ∀ (n : Nat) (h : HS) (x3 : Int32), SC h0 h → x2.toInt ≤ 99 → 0 < n → (x2.toInt + 1 - x3.toInt : Int) < (n : Int) → ok (f_X8_plucks_12  n h x1 x2 x3) (fun a => SC h0 a.2 ∧ True) := by
  intro n
  induction n with
  | zero =>
    intro h x3 hSC i0 hn hm
    exact absurd hn (by decide)
  | succ n ih_X8_plucks_12 =>
    intro h x3 hSC i0 hn hm
    rw [f_X8_plucks_12_s]
    refine ok_if (fun c1 => ?_) (fun c1 => ?_)
    · exact ok_some ⟨hSC, trivial⟩
    · refine ok_ob2 (u_X1_isTrueWith h x1 (x2 - x3) (hSC).1) (fun r2 h2 k2 => ?_)
      have s2 : SC h0 h2 := SC_trans (b := h) hSC k2.1
      refine ok_if (fun c3 => ?_) (fun c3 => ?_)
      · exact ih_X8_plucks_12 h2 (x3 + 1) s2 (by have := i0; have := hm; have := gi_of_nlt c1; have := fb_rng (x2); have := fb_rng (x3); omega) (by have := i0; have := hm; have := gi_of_nlt c1; have : (1 : Int32).toInt = 1 := rfl; have := fb_rng (x2); have := fb_rng (x3); (try have := fb_addI (x := x3) (y := 1) (by omega) (by omega)); omega) (by have := i0; have := hm; have := gi_of_nlt c1; have : (1 : Int32).toInt = 1 := rfl; have := fb_rng (x2); have := fb_rng (x3); (try have := fb_addI (x := x3) (y := 1) (by omega) (by omega)); omega)
      · exact ok_some ⟨s2, trivial⟩
theorem u_X8_plucks (h : HS) (p1 : Int32) (hI : IC h) : ok (f_X8_plucks h p1) (fun a => SC h a.2 ∧ True) := by
  unfold f_X8_plucks
  refine ok_ob2 (u_X4_ofGoose h p1 1 ((SC_refl hI)).1) (fun r1 h1 k1 => ?_)
  have e1 : h = h1 := k1.1.symm
  subst e1
  exact u_X8_plucks_12 (h0 := h) p1 r1 8589934592 h 0 (SC_refl hI) (by have : r1.toInt ≤ 99 := k1.2 rfl; have := fb_rng (r1); omega) (by decide) (by have : r1.toInt ≤ 99 := k1.2 rfl; have : (0 : Int32).toInt = 0 := rfl; have := fb_rng (r1); omega)
theorem u_X8_odds_52 {h0 : HS} (x1 : Int32) (x2 : Int32) (x3 : Int32) : ∀ (n : Nat) (h : HS) (x4 : Int32), SC h0 h → 0 < n → (10 - (x4).toInt : Int) < (n : Int) → ok (f_X8_odds_52  n h x1 x2 x3 x4) (fun a => SC h0 a.2 ∧ True) := by
  intro n
  induction n with
  | zero =>
    intro h x4 hSC hn hm
    exact absurd hn (by decide)
  | succ n ih_X8_odds_52 =>
    intro h x4 hSC hn hm
    rw [f_X8_odds_52_s]
    refine ok_if (fun c1 => ?_) (fun c1 => ?_)
    · refine ok_if (fun c2 => ?_) (fun c2 => ?_)
      · refine ok_ob2 (u_X0_upper h x2 (hSC).1) (fun r3 h3 k3 => ?_)
        have e3 : h = h3 := k3.1.symm
        subst e3
        refine ok_ob1 (u_X8_commonDivisor (eL h 7 1) r3) (fun r4 k4 => ?_)
        refine ok_if (fun c5 => ?_) (fun c5 => ?_)
        · unfold f_X8_odds_171
          refine ok_chk (k4) ?_
          exact ok_some ⟨hSC, trivial⟩
        · unfold f_X8_odds_171
          refine ok_chk (k4) ?_
          exact ok_some ⟨hSC, trivial⟩
      · exact ok_some ⟨hSC, trivial⟩
    · refine ok_ob2 (u_X4_ofGoose h x4 4 (hSC).1) (fun r8 h8 k8 => ?_)
      have e8 : h = h8 := k8.1.symm
      subst e8
      refine ok_if (fun c9 => ?_) (fun c9 => ?_)
      · refine ok_ob2 (u_X4_ofGoose h x4 2 (hSC).1) (fun r10 h10 k10 => ?_)
        have e10 : h = h10 := k10.1.symm
        subst e10
        refine ok_if (fun c11 => ?_) (fun c11 => ?_)
        · refine ok_ob1 (u_X0_add h x4 (hSC).1) (fun h12 k12 => ?_)
          have s12 : SC h0 h12 := SC_trans (b := h) hSC k12.1
          unfold f_X8_odds_109
          exact ih_X8_odds_52 h12 (x4 + 1) s12 (by have := IC_n hSC.1; have := hm; have := gi_of_nle c1; have : (1 : Int32).toInt = 1 := rfl; have := fb_rng (eI h 1 3); have := fb_rng (x4); (try have := fb_addI (x := x4) (y := 1) (by omega) (by omega)); omega) (by have := IC_n hSC.1; have := hm; have := gi_of_nle c1; have : (1 : Int32).toInt = 1 := rfl; have := fb_rng (eI h 1 3); have := fb_rng (x4); (try have := fb_addI (x := x4) (y := 1) (by omega) (by omega)); omega)
        · unfold f_X8_odds_109
          exact ih_X8_odds_52 h (x4 + 1) hSC (by have := IC_n hSC.1; have := hm; have := gi_of_nle c1; have : (1 : Int32).toInt = 1 := rfl; have := fb_rng (eI h 1 3); have := fb_rng (x4); (try have := fb_addI (x := x4) (y := 1) (by omega) (by omega)); omega) (by have := IC_n hSC.1; have := hm; have := gi_of_nle c1; have : (1 : Int32).toInt = 1 := rfl; have := fb_rng (eI h 1 3); have := fb_rng (x4); (try have := fb_addI (x := x4) (y := 1) (by omega) (by omega)); omega)
      · unfold f_X8_odds_109
        exact ih_X8_odds_52 h (x4 + 1) hSC (by have := IC_n hSC.1; have := hm; have := gi_of_nle c1; have : (1 : Int32).toInt = 1 := rfl; have := fb_rng (eI h 1 3); have := fb_rng (x4); (try have := fb_addI (x := x4) (y := 1) (by omega) (by omega)); omega) (by have := IC_n hSC.1; have := hm; have := gi_of_nle c1; have : (1 : Int32).toInt = 1 := rfl; have := fb_rng (eI h 1 3); have := fb_rng (x4); (try have := fb_addI (x := x4) (y := 1) (by omega) (by omega)); omega)
theorem u_X8_odds (h : HS) (p1 : Int32) (p2 : Int32) (p3 : Int32) (hI : IC h) : ok (f_X8_odds h p1 p2 p3) (fun a => SC h a.2 ∧ True) := by
  unfold f_X8_odds
  refine ok_ob1 (u_X8_isLetter p1) (fun r1 k1 => ?_)
  refine ok_if (fun c2 => ?_) (fun c2 => ?_)
  · unfold f_X8_odds_16
    exact ok_some ⟨(SC_refl hI), trivial⟩
  · refine ok_if (fun c3 => ?_) (fun c3 => ?_)
    · unfold f_X8_odds_16
      exact ok_some ⟨(SC_refl hI), trivial⟩
    · refine ok_if (fun c4 => ?_) (fun c4 => ?_)
      · refine ok_ob2 (u_X8_halvesHad h p1 0 999 10 ((SC_refl hI)).1) (fun r5 h5 k5 => ?_)
        have s5 : SC h h5 := SC_trans (b := h) (SC_refl hI) k5.1
        refine ok_ob2 (u_X8_halvesHad h5 p1 1 999 10 (s5).1) (fun r6 h6 k6 => ?_)
        have s6 : SC h h6 := SC_trans (b := h5) s5 k6.1
        refine ok_ob1 (u_X0_begin h6 r5 r6 (s6).1) (fun h7 k7 => ?_)
        have s7 : SC h h7 := SC_trans (b := h6) s6 k7.1
        exact u_X8_odds_52 (h0 := h) p1 p2 p3 8589934592 h7 0 s7 (by decide) (by have : (0 : Int32).toInt = 0 := rfl; omega)
      · unfold f_X8_odds_16
        exact ok_some ⟨(SC_refl hI), trivial⟩
theorem u_X8_plan (h : HS) (p1 : Int32) (p2 : Int32) (p3 : Int32) (hI : IC h) : ok (f_X8_plan h p1 p2 p3) (fun a => SC h a.2 ∧ True) := by
  unfold f_X8_plan
  refine ok_ob1 (u_X8_isLetter p1) (fun r1 k1 => ?_)
  refine ok_if (fun c2 => ?_) (fun c2 => ?_)
  · unfold f_X8_plan_34
    exact ok_some ⟨(SC_refl hI), trivial⟩
  · refine ok_if (fun c3 => ?_) (fun c3 => ?_)
    · unfold f_X8_plan_34
      exact ok_some ⟨(SC_refl hI), trivial⟩
    · refine ok_if (fun c4 => ?_) (fun c4 => ?_)
      · unfold f_X8_plan_34
        exact ok_some ⟨(SC_refl hI), trivial⟩
      · refine ok_if (fun c5 => ?_) (fun c5 => ?_)
        · unfold f_X8_plan_37
          refine ok_ob2 (u_X3_fewest h p1 p2 ((SC_refl hI)).1) (fun r6 h6 k6 => ?_)
          have s6 : SC h h6 := SC_trans (b := h) (SC_refl hI) k6.1
          refine ok_if (fun c7 => ?_) (fun c7 => ?_)
          · exact ok_some ⟨s6, trivial⟩
          · refine ok_if (fun c8 => ?_) (fun c8 => ?_)
            · unfold f_X8_plan_82
              exact ok_some ⟨s6, trivial⟩
            · refine ok_ob2 (u_X3_choiceOf h6 p3 (s6).1) (fun r9 h9 k9 => ?_)
              have e9 : h6 = h9 := k9.1.symm
              subst e9
              unfold f_X8_plan_82
              exact ok_some ⟨s6, trivial⟩
        · refine ok_ob2 (u_X4_hasGoose h p3 ((SC_refl hI)).1) (fun r10 h10 k10 => ?_)
          have e10 : h = h10 := k10.1.symm
          subst e10
          refine ok_if (fun c11 => ?_) (fun c11 => ?_)
          · unfold f_X8_plan_34
            exact ok_some ⟨(SC_refl hI), trivial⟩
          · unfold f_X8_plan_37
            refine ok_ob2 (u_X3_fewest h p1 p2 ((SC_refl hI)).1) (fun r12 h12 k12 => ?_)
            have s12 : SC h h12 := SC_trans (b := h) (SC_refl hI) k12.1
            refine ok_if (fun c13 => ?_) (fun c13 => ?_)
            · exact ok_some ⟨s12, trivial⟩
            · refine ok_if (fun c14 => ?_) (fun c14 => ?_)
              · unfold f_X8_plan_82
                exact ok_some ⟨s12, trivial⟩
              · refine ok_ob2 (u_X3_choiceOf h12 p3 (s12).1) (fun r15 h15 k15 => ?_)
                have e15 : h12 = h15 := k15.1.symm
                subst e15
                unfold f_X8_plan_82
                exact ok_some ⟨s12, trivial⟩
theorem u_X8_holds (h : HS) (hI : IC h) : ok (f_X8_holds h) (fun a => a.2 = h ∧ True) := by
  unfold f_X8_holds
  refine ok_ob2 (u_X4_dailyNeed h hI) (fun r1 h1 k1 => ?_)
  have e1 : h = h1 := k1.1.symm
  subst e1
  refine ok_if (fun c => ?_) (fun c => ok_some ⟨rfl, trivial⟩)
  refine ok_chk ?_ (ok_some ⟨rfl, trivial⟩)
  intro e
  subst e
  exact absurd c (by decide)
theorem u_X8_image (h : HS) (hI : IC h) : ok (f_X8_image h) (fun a => IC a.2) := by
  unfold f_X8_image
  exact ok_ob1 (u_X4_copyFrom_i h hI) (fun h1 k1 => ok_some k1.1)
theorem u_X8_back (h : HS) (hI : IC h) : ok (f_X8_back h) (fun a => IC a.2) := by
  unfold f_X8_back
  exact ok_ob1 (u_X4_copyFrom_b h hI) (fun h1 k1 => ok_some k1.1)
theorem u_X8_aboutMany (h : HS) (p1 : Int32) (hI : IC h) : ok (f_X8_aboutMany h p1) (fun a => a.2 = h ∧ True) := by
  unfold f_X8_aboutMany
  refine ok_if (fun c1 => ?_) (fun c1 => ?_)
  · unfold f_X8_aboutMany_24
    refine ok_if (fun c2 => ?_) (fun c2 => ?_)
    · unfold f_X8_aboutMany_44
      exact ok_some ⟨rfl, trivial⟩
    · refine ok_if (fun c3 => ?_) (fun c3 => ?_)
      · refine ok_ob2 (u_X4_ofMarket h (p1 - 10) 0 ((SC_refl hI)).1) (fun r4 h4 k4 => ?_)
        have e4 : h = h4 := k4.1.symm
        subst e4
        refine ok_ob2 (u_X4_ofMarket h (p1 - 10) 1 ((SC_refl hI)).1) (fun r5 h5 k5 => ?_)
        have e5 : h = h5 := k5.1.symm
        subst e5
        refine ok_ob2 (u_X4_ofMarket h (p1 - 10) 2 ((SC_refl hI)).1) (fun r6 h6 k6 => ?_)
        have e6 : h = h6 := k6.1.symm
        subst e6
        exact ok_some ⟨rfl, trivial⟩
      · unfold f_X8_aboutMany_44
        exact ok_some ⟨rfl, trivial⟩
  · refine ok_if (fun c7 => ?_) (fun c7 => ?_)
    · unfold f_X8_aboutMany_24
      refine ok_if (fun c8 => ?_) (fun c8 => ?_)
      · unfold f_X8_aboutMany_44
        exact ok_some ⟨rfl, trivial⟩
      · refine ok_if (fun c9 => ?_) (fun c9 => ?_)
        · refine ok_ob2 (u_X4_ofMarket h (p1 - 10) 0 ((SC_refl hI)).1) (fun r10 h10 k10 => ?_)
          have e10 : h = h10 := k10.1.symm
          subst e10
          refine ok_ob2 (u_X4_ofMarket h (p1 - 10) 1 ((SC_refl hI)).1) (fun r11 h11 k11 => ?_)
          have e11 : h = h11 := k11.1.symm
          subst e11
          refine ok_ob2 (u_X4_ofMarket h (p1 - 10) 2 ((SC_refl hI)).1) (fun r12 h12 k12 => ?_)
          have e12 : h = h12 := k12.1.symm
          subst e12
          exact ok_some ⟨rfl, trivial⟩
        · unfold f_X8_aboutMany_44
          exact ok_some ⟨rfl, trivial⟩
    · refine ok_ob2 (u_X4_countFate h (p1 - 20) ((SC_refl hI)).1) (fun r13 h13 k13 => ?_)
      have e13 : h = h13 := k13.1.symm
      subst e13
      exact ok_some ⟨rfl, trivial⟩
theorem u_X8_about (h : HS) (p1 : Int32) (hI : IC h) : ok (f_X8_about h p1) (fun a => a.2 = h ∧ True) := by
  unfold f_X8_about
  refine ok_if (fun c1 => ?_) (fun c1 => ?_)
  · exact ok_some ⟨rfl, trivial⟩
  · refine ok_if (fun c2 => ?_) (fun c2 => ?_)
    · exact ok_some ⟨rfl, trivial⟩
    · refine ok_if (fun c3 => ?_) (fun c3 => ?_)
      · exact ok_some ⟨rfl, trivial⟩
      · refine ok_if (fun c4 => ?_) (fun c4 => ?_)
        · exact ok_some ⟨rfl, trivial⟩
        · refine ok_if (fun c5 => ?_) (fun c5 => ?_)
          · exact ok_some ⟨rfl, trivial⟩
          · refine ok_if (fun c6 => ?_) (fun c6 => ?_)
            · exact ok_some ⟨rfl, trivial⟩
            · refine ok_if (fun c7 => ?_) (fun c7 => ?_)
              · exact ok_some ⟨rfl, trivial⟩
              · refine ok_if (fun c8 => ?_) (fun c8 => ?_)
                · exact ok_some ⟨rfl, trivial⟩
                · refine ok_if (fun c9 => ?_) (fun c9 => ?_)
                  · exact ok_some ⟨rfl, trivial⟩
                  · refine ok_if (fun c10 => ?_) (fun c10 => ?_)
                    · exact ok_some ⟨rfl, trivial⟩
                    · refine ok_ob2 (u_X8_aboutMany h p1 ((SC_refl hI)).1) (fun r11 h11 k11 => ?_)
                      have e11 : h = h11 := k11.1.symm
                      subst e11
                      exact ok_some ⟨rfl, trivial⟩
