theorem PR_sm {h c : HS} (s : SM h c) {x : Int32} (p : PR h x) : PR c x := by
  unfold PR at *
  rw [s.2.2.1, s.2.2.2.1]; exact p
theorem u_X9_inkOf (h : HS) (p1 p2 p3 : Int32) (hI : IM h) (w0 : 0 ≤ p1.toInt ∧ p1.toInt ≤ 9) : ok (f_X9_inkOf h p1 p2 p3) (fun a => SM h a.2 ∧ True) := by
  unfold f_X9_inkOf
  refine ok_ob2 (u_X9_ordersOf h 2 hI (by decide)) (fun r1 h1 k1 => ?_)
  have e1 : h = h1 := k1.1.symm
  subst e1
  refine ok_if (fun c => ok_some ⟨SM_refl hI, trivial⟩) (fun c => ?_)
  have pr : PR h r1 := k1.2.resolve_left c
  refine ok_ob1 (u_X9_names h p1 p2 p3 _ hI w0) (fun h3 k3 => ?_)
  refine ok_ob2 (u_X9_saysOf h3 r1 k3.1.1 (PR_sm k3.1 pr)) (fun r4 h4 k4 => ?_)
  have s4 := SM_trans k3.1 k4.1
  exact ok_ob1 (u_X9_held r4 0 99) (fun r5 k5 => ok_some ⟨s4, trivial⟩)
theorem u_X9_ink (h : HS) (p1 : Int32) (p2 : Int32) (p3 : Int32) (hI : IM h) : ok (f_X9_ink h p1 p2 p3) (fun a => SM h a.2 ∧ True) := by
  unfold f_X9_ink
  refine ok_ob2 (u_X9_isGoose h p1 ((SM_refl hI)).1) (fun r1 h1 k1 => ?_)
  have e1 : h = h1 := k1.1.symm
  subst e1
  refine ok_if (fun c2 => ?_) (fun c2 => ?_)
  · unfold f_X9_ink_26
    unfold f_X9_ink_27
    exact ok_some ⟨(SM_refl hI), trivial⟩
  · refine ok_ob1 (u_X9_isQuill p2 p3) (fun r3 k3 => ?_)
    refine ok_if (fun c4 => ?_) (fun c4 => ?_)
    · unfold f_X9_ink_26
      unfold f_X9_ink_27
      exact ok_some ⟨(SM_refl hI), trivial⟩
    · refine ok_ob2 (u_X9_inkOf h p1 p2 p3 ((SM_refl hI)).1 (by have := IM_n (SM_refl hI).1; have : ((r1).toInt = 0 ∨ (0 ≤ p1.toInt ∧ p1.toInt < ((eA h 0 0) 1).toInt)) := k1.2.2; have : ((r3).toInt = 0 ∨ ((0 ≤ p2.toInt ∧ p2.toInt ≤ 5) ∧ (0 ≤ p3.toInt ∧ p3.toInt ≤ 2))) := k3.2; have := gi_of_ne c2; have : (0 : Int32).toInt = 0 := rfl; have := fb_rng (r1); have := fb_rng (p1); omega)) (fun r5 h5 k5 => ?_)
      have s5 : SM h h5 := SM_trans (b := h) (SM_refl hI) k5.1
      unfold f_X9_ink_27
      exact ok_some ⟨s5, trivial⟩
set_option maxHeartbeats 4000000 in
theorem u_X9_fill (h : HS) (p1 p2 p3 : Int32) (hI : IM h) : ok (f_X9_fill h p1 p2 p3) (fun a => SW h a.2 ∧ True) := by
  unfold f_X9_fill f_X9_fill_43
  refine ok_ob2 (u_X9_isHome h p1 hI) (fun r1 h1 k1 => ?_)
  have e1 : h = h1 := k1.1.symm
  subst e1
  refine ok_if (fun c => ok_some ⟨SW_refl hI, trivial⟩) (fun c1 => ?_)
  have hn := IM_n hI
  have q1 : r1.toInt = 0 ∨ (0 ≤ p1.toInt ∧ p1.toInt < (eA h 0 0 1).toInt) := k1.2.2
  have d1 := gi_of_ne c1
  have z0 : (0 : Int32).toInt = 0 := rfl
  have w : 0 ≤ p1.toInt ∧ p1.toInt ≤ 9 := by omega
  refine ok_ob2 (u_X9_ofGoose h p1 2 hI w (by decide)) (fun r3 h3 k3 => ?_)
  have e1 : h = h3 := k3.1.symm
  subst e1
  refine ok_if (fun c3 => ?_) (fun c => ok_some ⟨SW_refl hI, trivial⟩)
  refine ok_ob1 (u_X9_isQuill p2 p3) (fun r5 k5 => ?_)
  refine ok_if (fun c => ok_some ⟨SW_refl hI, trivial⟩) (fun c5 => ?_)
  have q5 := k5.2; have d5 := gi_of_ne c5
  refine ok_ob2 (u_X9_inkOf h p1 p2 p3 hI w) (fun r7 h7 k7 => ?_)
  refine ok_if (fun c7 => ?_) (fun c => ok_some ⟨SM_SW k7.1, trivial⟩)
  refine ok_ob2 (u_X9_inkOf h7 p1 p2 p3 k7.1.1 w) (fun r9 h9 k9 => ?_)
  have s9 := SM_SW (SM_trans k7.1 k9.1)
  refine ok_ob1 (u_X9_keepsStep h9 s9.1) (fun h10 k10 => ?_)
  have s10 := SW_trans s9 k10.1
  have r10 := s10.1.2.1
  have i2 := ix9 (p1 := p1) (p2 := 2) w (by decide); have i3 := ix9 (p1 := p1) (p2 := 3) w (by decide)
  have z2 : (2 : Int32).toInt = 2 := rfl; have z3 : (3 : Int32).toInt = 3 := rfl
  rw [z2] at i2; rw [z3] at i3
  unfold f_X9_puts
  refine ok_ob1 (P := fun a => a = sA h10 0 0 (upd (eA h10 0 0) (30 + 9 * p1 + 2).toNatClampNeg p2)) (ok_chk (by omega) (ok_some rfl)) (fun h11 k11 => ?_)
  subst k11
  refine ok_ob1 (P := fun a => a = sA (sA h10 0 0 (upd (eA h10 0 0) (30 + 9 * p1 + 2).toNatClampNeg p2)) 0 0 (upd (upd (eA h10 0 0) (30 + 9 * p1 + 2).toNatClampNeg p2) (30 + 9 * p1 + 3).toNatClampNeg p3)) (ok_chk (by omega) (ok_some rfl)) (fun h12 k12 => ?_)
  subst k12
  refine ok_some ⟨?_, trivial⟩
  show SW h (sA _ 0 0 (upd (upd (upd (eA h10 0 0) (30 + 9 * p1 + 2).toNatClampNeg p2) (30 + 9 * p1 + 3).toNatClampNeg p3) 120 _))
  rw [i2.2, i3.2]
  have t2 : (2 : Int).toNat = 2 := rfl; have t3 : (3 : Int).toNat = 3 := rfl
  rw [t2, t3]
  have lo : ∀ j : Nat, (j < 30 ∨ 120 ≤ j) → upd (upd (eA h10 0 0) (30 + 9 * p1.toInt.toNat + 2) p2) (30 + 9 * p1.toInt.toNat + 3) p3 j = eA h10 0 0 j := by
    intro j hj
    simp only [upd]
    rw [if_neg (by omega), if_neg (by omega)]
  have rr : RO (upd (upd (eA h10 0 0) (30 + 9 * p1.toInt.toNat + 2) p2) (30 + 9 * p1.toInt.toNat + 3) p3) := by
    refine ⟨RC_congr5 r10.1 (lo 0 (by omega)) (lo 1 (by omega)) (lo 3 (by omega)) (lo 4 (by omega)) (lo 5 (by omega)), ?_, fun s hs => GB_shift (r10.2.2 s hs) (fun j hj => lo _ (by omega))⟩
    intro g hg
    have k := r10.2.1 g hg
    by_cases e : g = p1.toInt.toNat
    · subst e
      simp only [upd]
      rw [if_neg (c := 30 + 9 * p1.toInt.toNat + 1 = 30 + 9 * p1.toInt.toNat + 3) (by omega), if_neg (c := 30 + 9 * p1.toInt.toNat + 1 = 30 + 9 * p1.toInt.toNat + 2) (by omega), if_pos trivial, if_neg (c := 30 + 9 * p1.toInt.toNat + 5 = 30 + 9 * p1.toInt.toNat + 3) (by omega), if_neg (c := 30 + 9 * p1.toInt.toNat + 5 = 30 + 9 * p1.toInt.toNat + 2) (by omega)]
      exact ⟨k.1, by omega, Or.inr (by omega), k.2.2.2⟩
    · simp only [upd]
      rw [if_neg (c := 30 + 9 * g + 1 = 30 + 9 * p1.toInt.toNat + 3) (by omega), if_neg (c := 30 + 9 * g + 1 = 30 + 9 * p1.toInt.toNat + 2) (by omega), if_neg (c := 30 + 9 * g + 3 = 30 + 9 * p1.toInt.toNat + 3) (by omega), if_neg (c := 30 + 9 * g + 3 = 30 + 9 * p1.toInt.toNat + 2) (by omega), if_neg (c := 30 + 9 * g + 2 = 30 + 9 * p1.toInt.toNat + 3) (by omega), if_neg (c := 30 + 9 * g + 2 = 30 + 9 * p1.toInt.toNat + 2) (by omega), if_neg (c := 30 + 9 * g + 5 = 30 + 9 * p1.toInt.toNat + 3) (by omega), if_neg (c := 30 + 9 * g + 5 = 30 + 9 * p1.toInt.toNat + 2) (by omega)]
      exact k
  have rf := RO_free (i := 120) (v := upd (upd (eA h10 0 0) (30 + 9 * p1.toInt.toNat + 2) p2) (30 + 9 * p1.toInt.toNat + 3) p3 120 - r9) rr (by decide)
  exact ⟨IM_of (IMO_of (h := h10) s10.1) rf, (lo 0 (by omega)).trans s10.2.1, (lo 1 (by omega)).trans s10.2.2.1, (lo 3 (by omega)).trans s10.2.2.2⟩
theorem u_X9_send (h : HS) (p1 : Int32) (p2 : Int32) (hI : IM h) : ok (f_X9_send h p1 p2) (fun a => SW h a.2 ∧ True) := by
  unfold f_X9_send
  refine ok_ob2 (u_X9_isHome h p1 ((SW_refl hI)).1) (fun r1 h1 k1 => ?_)
  have e1 : h = h1 := k1.1.symm
  subst e1
  refine ok_if (fun c2 => ?_) (fun c2 => ?_)
  · unfold f_X9_send_27
    exact ok_some ⟨(SW_refl hI), trivial⟩
  · refine ok_ob2 (u_X9_ofGoose h p1 8 ((SW_refl hI)).1 (by have := IM_n (SW_refl hI).1; have : ((r1).toInt = 0 ∨ (0 ≤ p1.toInt ∧ p1.toInt < ((eA h 0 0) 1).toInt)) := k1.2.2; have := gi_of_ne c2; have : (0 : Int32).toInt = 0 := rfl; have := fb_rng (r1); have := fb_rng (p1); omega) (by have := IM_n (SW_refl hI).1; have : ((r1).toInt = 0 ∨ (0 ≤ p1.toInt ∧ p1.toInt < ((eA h 0 0) 1).toInt)) := k1.2.2; have : (8 : Int32).toInt = 8 := rfl; omega)) (fun r3 h3 k3 => ?_)
    have e3 : h = h3 := k3.1.symm
    subst e3
    refine ok_if (fun c4 => ?_) (fun c4 => ?_)
    · unfold f_X9_send_27
      exact ok_some ⟨(SW_refl hI), trivial⟩
    · refine ok_ob2 (u_X9_isMarket h p2 ((SW_refl hI)).1) (fun r5 h5 k5 => ?_)
      have e5 : h = h5 := k5.1.symm
      subst e5
      refine ok_if (fun c6 => ?_) (fun c6 => ?_)
      · unfold f_X9_send_27
        exact ok_some ⟨(SW_refl hI), trivial⟩
      · refine ok_ob1 (u_X9_keepsStep h ((SW_refl hI)).1) (fun h7 k7 => ?_)
        have s7 : SW h h7 := SW_trans (b := h) (SW_refl hI) k7.1
        refine ok_ob1 (u_X9_puts h7 p1 4 1 (s7).1 (by have := IM_n (SW_refl hI).1; have : ((r1).toInt = 0 ∨ (0 ≤ p1.toInt ∧ p1.toInt < ((eA h 0 0) 1).toInt)) := k1.2.2; have : ((r5).toInt = 0 ∨ (0 ≤ p2.toInt ∧ p2.toInt < ((eA h 0 0) 0).toInt)) := k5.2.2; have := gi_of_ne c2; have : (0 : Int32).toInt = 0 := rfl; have := fb_rng (r1); have := fb_rng (p1); omega) (by decide) (fun e => absurd e (by decide)) (fun e => absurd e (by decide))) (fun h8 k8 => ?_)
        have s8 : SW h h8 := SW_trans (b := h7) s7 k8.1
        refine ok_ob1 (u_X9_puts h8 p1 5 p2 (s8).1 (by have := IM_n (SW_refl hI).1; have : ((r1).toInt = 0 ∨ (0 ≤ p1.toInt ∧ p1.toInt < ((eA h 0 0) 1).toInt)) := k1.2.2; have : ((r5).toInt = 0 ∨ (0 ≤ p2.toInt ∧ p2.toInt < ((eA h 0 0) 0).toInt)) := k5.2.2; have := gi_of_ne c2; have : (0 : Int32).toInt = 0 := rfl; have := fb_rng (r1); have := fb_rng (p1); omega) (by decide) (fun _ => by have := IM_n (SW_refl hI).1; have : ((r1).toInt = 0 ∨ (0 ≤ p1.toInt ∧ p1.toInt < ((eA h 0 0) 1).toInt)) := k1.2.2; have : ((r5).toInt = 0 ∨ (0 ≤ p2.toInt ∧ p2.toInt < ((eA h 0 0) 0).toInt)) := k5.2.2; have := gi_of_ne c6; have : (0 : Int32).toInt = 0 := rfl; have := fb_rng (r5); have := fb_rng (p2); omega) (fun e => absurd e (by decide))) (fun h9 k9 => ?_)
        have s9 : SW h h9 := SW_trans (b := h8) s8 k9.1
        refine ok_chk (by have := IM_n (SW_refl hI).1; have : ((r1).toInt = 0 ∨ (0 ≤ p1.toInt ∧ p1.toInt < ((eA h 0 0) 1).toInt)) := k1.2.2; have : ((r5).toInt = 0 ∨ (0 ≤ p2.toInt ∧ p2.toInt < ((eA h 0 0) 0).toInt)) := k5.2.2; have := gi_of_ne c6; have : (0 : Int32).toInt = 0 := rfl; have : (10 : Int32).toInt = 10 := rfl; have : (3 : Int32).toInt = 3 := rfl; have := fb_rng (r5); have := fb_rng (p2); (try have := fb_mulJ (x := 3) (y := p2) (k := 3) rfl (by omega) (by omega)); (try have := fb_addI (x := 10) (y := (3 * p2)) (by omega) (by omega)); omega) ?_
        refine ok_ob1 (u_X9_puts h9 p1 6 (((eA h9 0 0) 121) + ((eA h9 0 0) (((10 + (3 * p2))).toNatClampNeg))) (s9).1 (by have := IM_n (SW_refl hI).1; have : ((r1).toInt = 0 ∨ (0 ≤ p1.toInt ∧ p1.toInt < ((eA h 0 0) 1).toInt)) := k1.2.2; have : ((r5).toInt = 0 ∨ (0 ≤ p2.toInt ∧ p2.toInt < ((eA h 0 0) 0).toInt)) := k5.2.2; have := gi_of_ne c2; have : (0 : Int32).toInt = 0 := rfl; have := fb_rng (r1); have := fb_rng (p1); omega) (by decide) (fun e => absurd e (by decide)) (fun e => absurd e (by decide))) (fun h11 k11 => ?_)
        have s11 : SW h h11 := SW_trans (b := h9) s9 k11.1
        refine ok_ob2 (u_X9_ofGoose h11 p1 6 (s11).1 (by have := IM_n (SW_refl hI).1; have : ((r1).toInt = 0 ∨ (0 ≤ p1.toInt ∧ p1.toInt < ((eA h 0 0) 1).toInt)) := k1.2.2; have : ((r5).toInt = 0 ∨ (0 ≤ p2.toInt ∧ p2.toInt < ((eA h 0 0) 0).toInt)) := k5.2.2; have := gi_of_ne c2; have : (0 : Int32).toInt = 0 := rfl; have := fb_rng (r1); have := fb_rng (p1); omega) (by have := IM_n (SW_refl hI).1; have : ((r1).toInt = 0 ∨ (0 ≤ p1.toInt ∧ p1.toInt < ((eA h 0 0) 1).toInt)) := k1.2.2; have : ((r5).toInt = 0 ∨ (0 ≤ p2.toInt ∧ p2.toInt < ((eA h 0 0) 0).toInt)) := k5.2.2; have : (6 : Int32).toInt = 6 := rfl; omega)) (fun r12 h12 k12 => ?_)
        have e12 : h11 = h12 := k12.1.symm
        subst e12
        exact ok_some ⟨s11, trivial⟩
theorem u_X9_fatten (h : HS) (p1 : Int32) (hI : IM h) : ok (f_X9_fatten h p1) (fun a => SW h a.2 ∧ True) := by
  unfold f_X9_fatten
  refine ok_ob2 (u_X9_isHome h p1 ((SW_refl hI)).1) (fun r1 h1 k1 => ?_)
  have e1 : h = h1 := k1.1.symm
  subst e1
  refine ok_if (fun c2 => ?_) (fun c2 => ?_)
  · unfold f_X9_fatten_29
    exact ok_some ⟨(SW_refl hI), trivial⟩
  · refine ok_ob2 (u_X9_ofGoose h p1 0 ((SW_refl hI)).1 (by have := IM_n (SW_refl hI).1; have : ((r1).toInt = 0 ∨ (0 ≤ p1.toInt ∧ p1.toInt < ((eA h 0 0) 1).toInt)) := k1.2.2; have := gi_of_ne c2; have : (0 : Int32).toInt = 0 := rfl; have := fb_rng (r1); have := fb_rng (p1); omega) (by have := IM_n (SW_refl hI).1; have : ((r1).toInt = 0 ∨ (0 ≤ p1.toInt ∧ p1.toInt < ((eA h 0 0) 1).toInt)) := k1.2.2; have : (0 : Int32).toInt = 0 := rfl; omega)) (fun r3 h3 k3 => ?_)
    have e3 : h = h3 := k3.1.symm
    subst e3
    refine ok_if (fun c4 => ?_) (fun c4 => ?_)
    · unfold f_X9_fatten_29
      exact ok_some ⟨(SW_refl hI), trivial⟩
    · refine ok_if (fun c5 => ?_) (fun c5 => ?_)
      · unfold f_X9_fatten_29
        exact ok_some ⟨(SW_refl hI), trivial⟩
      · refine ok_ob1 (u_X9_keepsStep h ((SW_refl hI)).1) (fun h6 k6 => ?_)
        have s6 : SW h h6 := SW_trans (b := h) (SW_refl hI) k6.1
        refine ok_ob2 (u_X9_ofGoose h6 p1 0 (s6).1 (by have := IM_n (SW_refl hI).1; have : ((r1).toInt = 0 ∨ (0 ≤ p1.toInt ∧ p1.toInt < ((eA h 0 0) 1).toInt)) := k1.2.2; have := gi_of_ne c2; have : (0 : Int32).toInt = 0 := rfl; have := fb_rng (r1); have := fb_rng (p1); omega) (by have := IM_n (SW_refl hI).1; have : ((r1).toInt = 0 ∨ (0 ≤ p1.toInt ∧ p1.toInt < ((eA h 0 0) 1).toInt)) := k1.2.2; have : (0 : Int32).toInt = 0 := rfl; omega)) (fun r7 h7 k7 => ?_)
        have e7 : h6 = h7 := k7.1.symm
        subst e7
        refine ok_ob1 (u_X9_puts h6 p1 0 (r7 + 1) (s6).1 (by have := IM_n (SW_refl hI).1; have : ((r1).toInt = 0 ∨ (0 ≤ p1.toInt ∧ p1.toInt < ((eA h 0 0) 1).toInt)) := k1.2.2; have := gi_of_ne c2; have : (0 : Int32).toInt = 0 := rfl; have := fb_rng (r1); have := fb_rng (p1); omega) (by decide) (fun e => absurd e (by decide)) (fun e => absurd e (by decide))) (fun h8 k8 => ?_)
        have s8 : SW h h8 := SW_trans (b := h6) s6 k8.1
        refine ok_ob2 (u_X9_ofGoose (sA h8 0 0 (upd (eA h8 0 0) 120 (((eA h8 0 0) 120) - 1))) p1 0 ((sw_row (c := h8) (f := (upd (eA h8 0 0) 120 (((eA h8 0 0) 120) - 1))) s8 (RO_free (i := 120) (v := (((eA h8 0 0) 120) - 1)) s8.1.2.1 (by decide)) rfl rfl rfl)).1 (by have := IM_n (SW_refl hI).1; have : ((r1).toInt = 0 ∨ (0 ≤ p1.toInt ∧ p1.toInt < ((eA h 0 0) 1).toInt)) := k1.2.2; have := gi_of_ne c2; have : (0 : Int32).toInt = 0 := rfl; have := fb_rng (r1); have := fb_rng (p1); omega) (by have := IM_n (SW_refl hI).1; have : ((r1).toInt = 0 ∨ (0 ≤ p1.toInt ∧ p1.toInt < ((eA h 0 0) 1).toInt)) := k1.2.2; have : (0 : Int32).toInt = 0 := rfl; omega)) (fun r9 h9 k9 => ?_)
        have e9 : (sA h8 0 0 (upd (eA h8 0 0) 120 (((eA h8 0 0) 120) - 1))) = h9 := k9.1.symm
        subst e9
        exact ok_some ⟨(sw_row (c := h8) (f := (upd (eA h8 0 0) 120 (((eA h8 0 0) 120) - 1))) s8 (RO_free (i := 120) (v := (((eA h8 0 0) 120) - 1)) s8.1.2.1 (by decide)) rfl rfl rfl), trivial⟩
theorem ok_ob2e9 {α β γ : Type} {x : Option (α × β)} {g : α → β → Option γ} {Q : γ → Prop} {a : α} {b : β} (e : x = some (a, b)) (k : ok (g a b) Q) : ok (ob2 x g) Q := by
  subst e
  exact k
theorem u_X9_pluck (h : HS) (p1 : Int32) (hI : IM h) : ok (f_X9_pluck h p1) (fun a => SW h a.2 ∧ True) := by
  unfold f_X9_pluck f_X9_pluck_17
  refine ok_ob2 (u_X9_isHome h p1 hI) (fun r1 h1 k1 => ?_)
  have e1 : h = h1 := k1.1.symm
  subst e1
  refine ok_if (fun c => ok_some ⟨SW_refl hI, trivial⟩) (fun c1 => ?_)
  have hn := IM_n hI
  have q1 : r1.toInt = 0 ∨ (0 ≤ p1.toInt ∧ p1.toInt < (eA h 0 0 1).toInt) := k1.2.2
  have d1 := gi_of_ne c1
  have z0 : (0 : Int32).toInt = 0 := rfl; have z1 : (1 : Int32).toInt = 1 := rfl
  have w : 0 ≤ p1.toInt ∧ p1.toInt ≤ 9 := by omega
  have ix := ix9 (p1 := p1) (p2 := 1) w (by decide)
  rw [z1] at ix
  have t1 : (1 : Int).toNat = 1 := rfl
  rw [t1] at ix
  have gb := hI.2.1.2.1 p1.toInt.toNat (by omega)
  have e3 : f_X9_ofGoose h p1 1 = some (eA h 0 0 (30 + 9 * p1.toInt.toNat + 1), h) := by
    unfold f_X9_ofGoose
    rw [if_pos (by omega), ix.2]
  refine ok_ob2e9 e3 ?_
  refine ok_if (fun c => ok_some ⟨SW_refl hI, trivial⟩) (fun c3 => ?_)
  have d3 := gi_of_ne c3
  refine ok_ob1 (u_X9_keepsStep h hI) (fun h5 k5 => ?_)
  have e6 : f_X9_ofGoose h5 p1 1 = some (eA h 0 0 (30 + 9 * p1.toInt.toNat + 1), h5) := by
    unfold f_X9_ofGoose
    rw [if_pos (by omega), ix.2, k5.2 _ (by omega) (by omega)]
  refine ok_ob2e9 e6 ?_
  have e7 := fb_subI (x := eA h 0 0 (30 + 9 * p1.toInt.toNat + 1)) (y := 1) (by omega) (by omega)
  refine ok_ob1 (u_X9_puts h5 p1 1 _ k5.1.1 w (by decide) (fun e => absurd e (by decide)) (fun e => by omega)) (fun h7 k7 => ?_)
  have s7 := SW_trans k5.1 k7.1
  refine ok_ob2 (u_X9_ofGoose h7 p1 1 s7.1 w (by decide)) (fun r8 h8 k8 => ?_)
  have e8 : h7 = h8 := k8.1.symm
  subst e8
  exact ok_some ⟨s7, trivial⟩
theorem u_X9_name (h : HS) (p1 : Int32) (hI : IM h) : ok (f_X9_name h p1) (fun a => SW h a.2 ∧ (a.1 = 0 ∨ a.1 = 1)) := by
  unfold f_X9_name
  refine ok_ob2 (u_X9_isHome h p1 ((SW_refl hI)).1) (fun r1 h1 k1 => ?_)
  have e1 : h = h1 := k1.1.symm
  subst e1
  refine ok_if (fun c2 => ?_) (fun c2 => ?_)
  · unfold f_X9_name_19
    exact ok_some ⟨(SW_refl hI), (Or.inl rfl)⟩
  · refine ok_ob2 (u_X9_ofGoose h p1 8 ((SW_refl hI)).1 (by have := IM_n (SW_refl hI).1; have : ((r1).toInt = 0 ∨ (0 ≤ p1.toInt ∧ p1.toInt < ((eA h 0 0) 1).toInt)) := k1.2.2; have := gi_of_ne c2; have : (0 : Int32).toInt = 0 := rfl; have := fb_rng (r1); have := fb_rng (p1); omega) (by have := IM_n (SW_refl hI).1; have : ((r1).toInt = 0 ∨ (0 ≤ p1.toInt ∧ p1.toInt < ((eA h 0 0) 1).toInt)) := k1.2.2; have : (8 : Int32).toInt = 8 := rfl; omega)) (fun r3 h3 k3 => ?_)
    have e3 : h = h3 := k3.1.symm
    subst e3
    refine ok_if (fun c4 => ?_) (fun c4 => ?_)
    · unfold f_X9_name_19
      exact ok_some ⟨(SW_refl hI), (Or.inl rfl)⟩
    · refine ok_ob1 (u_X9_keepsStep h ((SW_refl hI)).1) (fun h5 k5 => ?_)
      have s5 : SW h h5 := SW_trans (b := h) (SW_refl hI) k5.1
      refine ok_ob1 (u_X9_puts h5 p1 8 1 (s5).1 (by have := IM_n (SW_refl hI).1; have : ((r1).toInt = 0 ∨ (0 ≤ p1.toInt ∧ p1.toInt < ((eA h 0 0) 1).toInt)) := k1.2.2; have := gi_of_ne c2; have : (0 : Int32).toInt = 0 := rfl; have := fb_rng (r1); have := fb_rng (p1); omega) (by decide) (fun e => absurd e (by decide)) (fun e => absurd e (by decide))) (fun h6 k6 => ?_)
      have s6 : SW h h6 := SW_trans (b := h5) s5 k6.1
      exact ok_some ⟨s6, (Or.inr rfl)⟩
theorem u_X9_marketTells (h : HS) (p1 p2 p3 p4 p5 p6 : Int32) (hI : IM h) (w1 : p1.toInt ≤ 3) (w0 : 0 ≤ p2.toInt ∧ p2.toInt ≤ 9) (w2 : -1 ≤ p5.toInt ∧ p5.toInt ≤ 3) : ok (f_X9_marketTells h p1 p2 p3 p4 p5 p6) (fun a => SM h a.2 ∧ True) := by
  unfold f_X9_marketTells f_X9_marketTells_56
  have z10 : (10 : Int32).toInt = 10 := rfl; have z1 : (1 : Int32).toInt = 1 := rfl; have z2 : (2 : Int32).toInt = 2 := rfl
  have e1 : (3 * p5).toInt = 3 * p5.toInt := fb_mulJ rfl (by omega) (by omega)
  have e2 : (10 + 3 * p5).toInt = (10 : Int32).toInt + (3 * p5).toInt := fb_addI (by omega) (by omega)
  have e3 : (10 + 3 * p5 + 1).toInt = (10 + 3 * p5).toInt + (1 : Int32).toInt := fb_addI (by omega) (by omega)
  have e4 : (10 + 3 * p5 + 2).toInt = (10 + 3 * p5).toInt + (2 : Int32).toInt := fb_addI (by omega) (by omega)
  refine ok_chk (by omega) (ok_chk (by omega) ?_)
  refine ok_ob2 (u_X9_ordersOf h p1 hI w1) (fun r1 h1 k1 => ?_)
  have e1 : h = h1 := k1.1.symm
  subst e1
  refine ok_if (fun c => ?_) (fun c => ?_)
  · exact ok_if (fun c => ok_some ⟨SM_refl hI, trivial⟩) (fun c => ok_some ⟨SM_refl hI, trivial⟩)
  have pr : PR h r1 := k1.2.resolve_left c
  refine ok_ob1 (u_X9_names h p2 p3 p4 _ hI w0) (fun h3 k3 => ?_)
  refine ok_ob2 (u_X9_saysOf _ r1 (show IM _ from k3.1.1) (show PR _ _ from PR_sm k3.1 pr)) (fun r4 h4 k4 => ?_)
  have s4 : SM h h4 := SM_trans k3.1 k4.1
  exact ok_ob1 (u_X9_held r4 0 10) (fun r5 k5 => ok_some ⟨s4, trivial⟩)
theorem u_X9_marketOf (h : HS) (p1 : Int32) (p2 : Int32) (hI : IM h) (w1 : p1.toInt ≤ 3) (w0 : 0 ≤ p2.toInt ∧ p2.toInt ≤ 9) : ok (f_X9_marketOf h p1 p2) (fun a => SM h a.2 ∧ True) := by
  unfold f_X9_marketOf
  refine ok_ob2 (u_X9_ofGoose h p2 2 ((SM_refl hI)).1 (by have := w1; have := w0; have := fb_rng (p2); omega) (by have := w1; have := w0; have : (2 : Int32).toInt = 2 := rfl; omega)) (fun r1 h1 k1 => ?_)
  have e1 : h = h1 := k1.1.symm
  subst e1
  refine ok_ob2 (u_X9_ofGoose h p2 3 ((SM_refl hI)).1 (by have := w1; have := w0; have := fb_rng (p2); omega) (by have := w1; have := w0; have : (3 : Int32).toInt = 3 := rfl; omega)) (fun r2 h2 k2 => ?_)
  have e2 : h = h2 := k2.1.symm
  subst e2
  refine ok_ob2 (u_X9_ofGoose h p2 5 ((SM_refl hI)).1 (by have := w1; have := w0; have : -1 ≤ r2.toInt ∧ r2.toInt ≤ 2 := k2.2.2.1 rfl; have := fb_rng (p2); omega) (by have := w1; have := w0; have : -1 ≤ r2.toInt ∧ r2.toInt ≤ 2 := k2.2.2.1 rfl; have : (5 : Int32).toInt = 5 := rfl; omega)) (fun r3 h3 k3 => ?_)
  have e3 : h = h3 := k3.1.symm
  subst e3
  refine ok_ob2 (u_X9_ofGoose h p2 6 ((SM_refl hI)).1 (by have := w1; have := w0; have : -1 ≤ r2.toInt ∧ r2.toInt ≤ 2 := k2.2.2.1 rfl; have : -1 ≤ r3.toInt ∧ r3.toInt ≤ 3 := k3.2.2.2 rfl; have := fb_rng (p2); omega) (by have := w1; have := w0; have : -1 ≤ r2.toInt ∧ r2.toInt ≤ 2 := k2.2.2.1 rfl; have : -1 ≤ r3.toInt ∧ r3.toInt ≤ 3 := k3.2.2.2 rfl; have : (6 : Int32).toInt = 6 := rfl; omega)) (fun r4 h4 k4 => ?_)
  have e4 : h = h4 := k4.1.symm
  subst e4
  refine ok_ob2 (u_X9_marketTells h p1 p2 r1 r2 r3 r4 ((SM_refl hI)).1 (by have := w1; have := w0; have : -1 ≤ r2.toInt ∧ r2.toInt ≤ 2 := k2.2.2.1 rfl; have : -1 ≤ r3.toInt ∧ r3.toInt ≤ 3 := k3.2.2.2 rfl; have := fb_rng (p1); omega) (by have := w1; have := w0; have : -1 ≤ r2.toInt ∧ r2.toInt ≤ 2 := k2.2.2.1 rfl; have : -1 ≤ r3.toInt ∧ r3.toInt ≤ 3 := k3.2.2.2 rfl; have := fb_rng (p2); omega) (by have := w1; have := w0; have : -1 ≤ r2.toInt ∧ r2.toInt ≤ 2 := k2.2.2.1 rfl; have : -1 ≤ r3.toInt ∧ r3.toInt ≤ 3 := k3.2.2.2 rfl; have := fb_rng (r3); omega)) (fun r5 h5 k5 => ?_)
  have s5 : SM h h5 := SM_trans (b := h) (SM_refl hI) k5.1
  exact ok_some ⟨s5, trivial⟩
theorem u_X9_isTrueBy (h : HS) (p1 p2 p3 p4 : Int32) (hI : IM h) (w0 : 0 ≤ p1.toInt ∧ p1.toInt ≤ 9) : ok (f_X9_isTrueBy h p1 p2 p3 p4) (fun a => SM h a.2 ∧ (a.1 = 0 ∨ a.1 = 1)) := by
  unfold f_X9_isTrueBy f_X9_isTrueBy_53
  refine ok_ob2 (u_X9_ordersOf h 3 hI (by decide)) (fun r1 h1 k1 => ?_)
  have e1 : h = h1 := k1.1.symm
  subst e1
  refine ok_if (fun c => ok_some ⟨SM_refl hI, Or.inr rfl⟩) (fun c => ?_)
  have pr : PR h r1 := k1.2.resolve_left c
  refine ok_ob1 (u_X9_names h p1 p2 p3 _ hI w0) (fun h3 k3 => ?_)
  refine ok_ob2 (u_X9_saysOf _ r1 (show IM _ from k3.1.1) (show PR _ _ from PR_sm k3.1 pr)) (fun r4 h4 k4 => ?_)
  have s4 : SM h h4 := SM_trans k3.1 k4.1
  exact ok_if (fun c => ok_chk (Or.inl rfl) (ok_some ⟨s4, Or.inl rfl⟩)) (fun c => ok_chk (Or.inr rfl) (ok_some ⟨s4, Or.inr rfl⟩))
