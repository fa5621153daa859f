theorem u_X9_seed (h : HS) (p1 : Int32) (hI : IM h) : ok (f_X9_seed h p1) (fun a => SW h a.2 ∧ (a.1 = 0 ∨ a.1 = 1)) := by
  unfold f_X9_seed
  refine ok_ob1 (u_X9_in p1 0 9999) (fun r1 k1 => ?_)
  refine ok_if (fun c2 => ?_) (fun c2 => ?_)
  · exact ok_some ⟨(SW_refl hI), (Or.inl rfl)⟩
  · exact ok_some ⟨(sw_row (c := h) (f := (upd (eA h 0 0) 122 ((p1 * 11) + 9))) (SW_refl hI) (RO_free (i := 122) (v := ((p1 * 11) + 9)) (SW_refl hI).1.2.1 (by decide)) rfl rfl rfl), (Or.inr rfl)⟩
theorem u_X9_keepsStep_53 {f : Nat → Int32} {s : Nat} (hs : s < 20) (h5 : (f 5).toInt = s) : ∀ (n : Nat) (h : HS) (x1 : Int32), IMO h → 0 ≤ x1.toInt ∧ x1.toInt ≤ 93 → (∀ j : Nat, eA h 0 0 j = if 130 + 93 * s ≤ j ∧ (j : Int) < 130 + 93 * s + x1.toInt then f (30 + (j - (130 + 93 * s))) else f j) → (93 - x1.toInt : Int) < n → ok (f_X9_keepsStep_53 n h x1) (fun a => IMO a ∧ eA a 0 0 5 = f 5 + 1 ∧ ∀ j : Nat, ¬ j = 5 → eA a 0 0 j = if 130 + 93 * s ≤ j ∧ (j : Int) < 130 + 93 * s + 93 then f (30 + (j - (130 + 93 * s))) else f j) := by
  intro n
  induction n with
  | zero => intro h x1 o i e hm; exact absurd hm (by omega)
  | succ n ih =>
    intro h x1 o i e hm
    rw [f_X9_keepsStep_53_s]
    have z93 : (93 : Int32).toInt = 93 := rfl; have z1 : (1 : Int32).toInt = 1 := rfl; have z30 : (30 : Int32).toInt = 30 := rfl; have z130 : (130 : Int32).toInt = 130 := rfl
    have e5 : eA h 0 0 5 = f 5 := by rw [e 5, if_neg (by omega)]
    refine ok_if (fun c => ?_) (fun c => ?_)
    · have d := gi_of_le c
      refine ok_some ⟨o, ?_, ?_⟩
      · show upd (eA h 0 0) 5 (eA h 0 0 5 + 1) 5 = _
        unfold upd; rw [if_pos rfl, e5]
      · intro j hj
        show upd (eA h 0 0) 5 (eA h 0 0 5 + 1) j = _
        unfold upd; rw [if_neg hj, e j]
        have : x1.toInt = 93 := by omega
        rw [this]
    · have d := gi_of_nle c
      have a1 := fb_addI (x := 30) (y := x1) (by omega) (by omega)
      have m1 : (93 * f 5).toInt = 93 * (f 5).toInt := fb_mulJ rfl (by omega) (by omega)
      have a2 : (130 + 93 * f 5).toInt = (130 : Int32).toInt + (93 * f 5).toInt := fb_addI (by omega) (by omega)
      rw [e5]
      have a3 := fb_addI (x := 130 + 93 * f 5) (y := x1) (by omega) (by omega)
      have a4 := fb_addI (x := x1) (y := 1) (by omega) (by omega)
      have b1 : (30 + x1).toNatClampNeg = 30 + x1.toInt.toNat := by rw [Int32.toNatClampNeg]; omega
      have b2 : (130 + 93 * f 5 + x1).toNatClampNeg = 130 + 93 * s + x1.toInt.toNat := by rw [Int32.toNatClampNeg]; omega
      refine ok_chk (by omega) (ok_chk (by omega) ?_)
      rw [b1, b2]
      refine ih _ (x1 + 1) o (by omega) ?_ (by omega)
      intro j
      show upd (eA h 0 0) (130 + 93 * s + x1.toInt.toNat) (eA h 0 0 (30 + x1.toInt.toNat)) j = _
      unfold upd
      by_cases ej : j = 130 + 93 * s + x1.toInt.toNat
      · rw [if_pos ej, if_pos (by omega), e, if_neg (by omega)]
        congr 1; omega
      · rw [if_neg ej, e j]
        by_cases c2 : 130 + 93 * s ≤ j ∧ (j : Int) < 130 + 93 * s + x1.toInt
        · rw [if_pos c2, if_pos (by omega)]
        · rw [if_neg c2, if_neg (by omega)]
theorem u_X9_keepsStep_51 (h : HS) (o : IMO h) (r : RO (eA h 0 0)) (h19 : (eA h 0 0 5).toInt ≤ 19) : ok (f_X9_keepsStep_51 h) (fun a => SW h a ∧ ∀ j : Nat, j < 130 → ¬ j = 5 → eA a 0 0 j = eA h 0 0 j) := by
  unfold f_X9_keepsStep_51
  have hr := r.1
  have z1 : (1 : Int32).toInt = 1 := rfl
  refine ok_mono (u_X9_keepsStep_53 (f := eA h 0 0) (s := (eA h 0 0 5).toInt.toNat) (by omega) (by have := hr.2.2.2.2; omega) _ h 0 o (by decide) ?_ (by have : (0 : Int32).toInt = 0 := rfl; omega)) (fun a k => ?_)
  · intro j
    have z0 : (0 : Int32).toInt = 0 := rfl
    rw [z0, if_neg (by omega)]
  obtain ⟨k1, k2, k3⟩ := k
  have h5 := hr.2.2.2.2
  have e5 := fb_addI (x := eA h 0 0 5) (y := 1) (by omega) (by omega)
  have lo : ∀ j : Nat, j < 130 → ¬ j = 5 → eA a 0 0 j = eA h 0 0 j := by
    intro j hj hn
    rw [k3 j hn, if_neg (by omega)]
  refine ⟨⟨IM_of k1 ⟨RC_congr hr (lo 0 (by omega) (by omega)) (lo 1 (by omega) (by omega)) (lo 3 (by omega) (by omega)) (lo 4 (by omega) (by omega)) (by rw [k2]; omega), ?_, ?_⟩, lo 0 (by omega) (by omega), lo 1 (by omega) (by omega), lo 3 (by omega) (by omega)⟩, lo⟩
  · exact GB_shift r.2.1 (fun j hj => lo (30 + j) (by omega) (by omega))
  · intro s hs
    by_cases es : s = (eA h 0 0 5).toInt.toNat
    · refine GB_shift r.2.1 (fun j hj => ?_)
      rw [k3 _ (by omega), if_pos (by omega)]
      congr 1; omega
    · refine GB_shift (r.2.2 s hs) (fun j hj => ?_)
      rw [k3 _ (by omega), if_neg (by omega)]
theorem u_X9_keepsStep_15 {h0 : HS} (r : RO (eA h0 0 0)) : ∀ (n : Nat) (h : HS) (x1 : Int32), IMO h → 130 ≤ x1.toInt ∧ x1.toInt ≤ 1897 → (∀ j : Nat, eA h 0 0 j = if 130 ≤ j ∧ (j : Int) < x1.toInt then eA h0 0 0 (j + 93) else eA h0 0 0 j) → (1897 - x1.toInt : Int) < n → ok (f_X9_keepsStep_15 n h x1) (fun a => SW h0 a ∧ ∀ j : Nat, j < 130 → ¬ j = 5 → eA a 0 0 j = eA h0 0 0 j) := by
  intro n
  induction n with
  | zero => intro h x1 o i e hm; exact absurd hm (by omega)
  | succ n ih =>
    intro h x1 o i e hm
    rw [f_X9_keepsStep_15_s]
    have z93 : (93 : Int32).toInt = 93 := rfl; have z1 : (1 : Int32).toInt = 1 := rfl; have z19 : (19 : Int32).toInt = 19 := rfl; have z : (1897 : Int32).toInt = 1897 := rfl
    refine ok_if (fun c => ?_) (fun c => ?_)
    · have d := gi_of_le c
      have ex : x1.toInt = 1897 := by omega
      have lo : ∀ j : Nat, j < 130 → ¬ j = 5 → upd (eA h 0 0) 5 19 j = eA h0 0 0 j := by
        intro j hj hn
        unfold upd
        rw [if_neg hn, e j, if_neg (by omega)]
      have r1 : RO (eA (sA h 0 0 (upd (eA h 0 0) 5 19)) 0 0) := by
        show RO (upd (eA h 0 0) 5 19)
        refine ⟨RC_congr r.1 (lo 0 (by omega) (by omega)) (lo 1 (by omega) (by omega)) (lo 3 (by omega) (by omega)) (lo 4 (by omega) (by omega)) (by unfold upd; rw [if_pos rfl]; decide), ?_, ?_⟩
        · exact GB_shift r.2.1 (fun j hj => lo (30 + j) (by omega) (by omega))
        · intro s hs
          by_cases es : s = 19
          · refine GB_shift (r.2.2 s hs) (fun j hj => ?_)
            unfold upd
            rw [if_neg (by omega), e, if_neg (by omega)]
          · refine GB_shift (r.2.2 (s + 1) (by omega)) (fun j hj => ?_)
            unfold upd
            rw [if_neg (by omega), e, if_pos (by omega)]
            congr 1; omega
      refine ok_mono (u_X9_keepsStep_51 _ o r1 (by show (upd (eA h 0 0) 5 19 5).toInt ≤ 19; unfold upd; rw [if_pos rfl]; decide)) (fun a k => ?_)
      have lo2 : ∀ j : Nat, j < 130 → ¬ j = 5 → eA a 0 0 j = eA h0 0 0 j := fun j hj hn => (k.2 j hj hn).trans (lo j hj hn)
      exact ⟨⟨k.1.1, lo2 0 (by omega) (by omega), lo2 1 (by omega) (by omega), lo2 3 (by omega) (by omega)⟩, lo2⟩
    · have d := gi_of_nle c
      have a1 := fb_addI (x := x1) (y := 93) (by omega) (by omega)
      have a2 := fb_addI (x := x1) (y := 1) (by omega) (by omega)
      have b1 : (x1 + 93).toNatClampNeg = x1.toInt.toNat + 93 := by rw [Int32.toNatClampNeg]; omega
      have b2 : x1.toNatClampNeg = x1.toInt.toNat := by rw [Int32.toNatClampNeg]
      refine ok_chk (by omega) (ok_chk (by omega) ?_)
      rw [b1, b2]
      refine ih _ (x1 + 1) o (by omega) ?_ (by omega)
      intro j
      show upd (eA h 0 0) x1.toInt.toNat (eA h 0 0 (x1.toInt.toNat + 93)) j = _
      unfold upd
      by_cases ej : j = x1.toInt.toNat
      · rw [if_pos ej, if_pos (by omega), e, if_neg (by omega), ej]
      · rw [if_neg ej, e j]
        by_cases c2 : 130 ≤ j ∧ (j : Int) < x1.toInt
        · rw [if_pos c2, if_pos (by omega)]
        · rw [if_neg c2, if_neg (by omega)]
theorem u_X9_keepsStep (h : HS) (hI : IM h) : ok (f_X9_keepsStep h) (fun a => SW h a ∧ ∀ j : Nat, j < 130 → ¬ j = 5 → eA a 0 0 j = eA h 0 0 j) := by
  unfold f_X9_keepsStep
  refine ok_if (fun c => ?_) (fun c => ?_)
  · have z : (130 : Int32).toInt = 130 := rfl
    exact u_X9_keepsStep_15 hI.2.1 _ h 130 (IMO_of hI) (by decide) (fun j => by rw [z, if_neg (by omega)]) (by omega)
  · have d := gi_of_ne c
    have z : (20 : Int32).toInt = 20 := rfl
    have hn := IM_n hI
    exact u_X9_keepsStep_51 h (IMO_of hI) hI.2.1 (by omega)
theorem u_X9_undo_23 {f : Nat → Int32} {s : Nat} (hs : s < 20) (h5 : (f 5).toInt = s) : ∀ (n : Nat) (h : HS) (x1 : Int32), IMO h → 0 ≤ x1.toInt ∧ x1.toInt ≤ 93 → (∀ j : Nat, eA h 0 0 j = if 30 ≤ j ∧ (j : Int) < 30 + x1.toInt then f (130 + 93 * s + (j - 30)) else f j) → (93 - x1.toInt : Int) < n → ok (f_X9_undo_23 n h x1) (fun a => IMO a.2 ∧ ∀ j : Nat, eA a.2 0 0 j = if 30 ≤ j ∧ (j : Int) < 30 + 93 then f (130 + 93 * s + (j - 30)) else f j) := by
  intro n
  induction n with
  | zero => intro h x1 o i e hm; exact absurd hm (by omega)
  | succ n ih =>
    intro h x1 o i e hm
    rw [f_X9_undo_23_s]
    have z93 : (93 : Int32).toInt = 93 := rfl; have z1 : (1 : Int32).toInt = 1 := rfl; have z30 : (30 : Int32).toInt = 30 := rfl; have z130 : (130 : Int32).toInt = 130 := rfl
    have e5 : eA h 0 0 5 = f 5 := by rw [e 5, if_neg (by omega)]
    refine ok_if (fun c => ?_) (fun c => ?_)
    · have d := gi_of_le c
      have : x1.toInt = 93 := by omega
      rw [this] at e
      exact ok_some ⟨o, e⟩
    · have d := gi_of_nle c
      rw [e5]
      have a1 := fb_addI (x := 30) (y := x1) (by omega) (by omega)
      have m1 : (93 * f 5).toInt = 93 * (f 5).toInt := fb_mulJ rfl (by omega) (by omega)
      have a2 : (130 + 93 * f 5).toInt = (130 : Int32).toInt + (93 * f 5).toInt := fb_addI (by omega) (by omega)
      have a3 := fb_addI (x := 130 + 93 * f 5) (y := x1) (by omega) (by omega)
      have a4 := fb_addI (x := x1) (y := 1) (by omega) (by omega)
      have b1 : (30 + x1).toNatClampNeg = 30 + x1.toInt.toNat := by rw [Int32.toNatClampNeg]; omega
      have b2 : (130 + 93 * f 5 + x1).toNatClampNeg = 130 + 93 * s + x1.toInt.toNat := by rw [Int32.toNatClampNeg]; omega
      refine ok_chk (by omega) (ok_chk (by omega) ?_)
      rw [b1, b2]
      refine ih _ (x1 + 1) o (by omega) ?_ (by omega)
      intro j
      show upd (eA h 0 0) (30 + x1.toInt.toNat) (eA h 0 0 (130 + 93 * s + x1.toInt.toNat)) j = _
      unfold upd
      by_cases ej : j = 30 + x1.toInt.toNat
      · rw [if_pos ej, if_pos (by omega), e, if_neg (by omega)]
        congr 1; omega
      · rw [if_neg ej, e j]
        by_cases c2 : 30 ≤ j ∧ (j : Int) < 30 + x1.toInt
        · rw [if_pos c2, if_pos (by omega)]
        · rw [if_neg c2, if_neg (by omega)]
theorem u_X9_undo (h : HS) (hI : IM h) : ok (f_X9_undo h) (fun a => SW h a.2 ∧ True) := by
  unfold f_X9_undo
  refine ok_if (fun c => ok_some ⟨SW_refl hI, trivial⟩) (fun c => ?_)
  have d := gi_of_ne c
  have hn := IM_n hI
  have z0 : (0 : Int32).toInt = 0 := rfl; have z1 : (1 : Int32).toInt = 1 := rfl
  have e1 := fb_subI (x := eA h 0 0 5) (y := 1) (by omega) (by omega)
  have u5 : upd (eA h 0 0) 5 (eA h 0 0 5 - 1) 5 = eA h 0 0 5 - 1 := by unfold upd; rw [if_pos rfl]
  have un : ∀ j : Nat, ¬ j = 5 → upd (eA h 0 0) 5 (eA h 0 0 5 - 1) j = eA h 0 0 j := fun j hj => by unfold upd; rw [if_neg hj]
  refine ok_mono (u_X9_undo_23 (f := upd (eA h 0 0) 5 (eA h 0 0 5 - 1)) (s := ((eA h 0 0 5).toInt - 1).toNat) (by omega) (by rw [u5]; omega) _ (sA h 0 0 (upd (eA h 0 0) 5 (eA h 0 0 5 - 1))) 0 (IMO_of (h := h) hI) (by decide) (fun j => by rw [z0, if_neg (by omega)]; rfl) (by omega)) (fun a k => ?_)
  obtain ⟨k1, k2⟩ := k
  have lo : ∀ j : Nat, (j < 30 ∨ 123 ≤ j) → ¬ j = 5 → eA a.2 0 0 j = eA h 0 0 j := by
    intro j hj hn
    rw [k2 j, if_neg (by omega), un j hn]
  have h5 : eA a.2 0 0 5 = eA h 0 0 5 - 1 := by rw [k2 5, if_neg (by omega), u5]
  refine ⟨⟨IM_of k1 ⟨RC_congr hI.2.1.1 (lo 0 (by omega) (by omega)) (lo 1 (by omega) (by omega)) (lo 3 (by omega) (by omega)) (lo 4 (by omega) (by omega)) (by rw [h5]; omega), ?_, ?_⟩, lo 0 (by omega) (by omega), lo 1 (by omega) (by omega), lo 3 (by omega) (by omega)⟩, trivial⟩
  · refine GB_shift (hI.2.1.2.2 ((eA h 0 0 5).toInt - 1).toNat (by omega)) (fun j hj => ?_)
    rw [k2 _, if_pos (by omega), un _ (by omega)]
    congr 1; omega
  · intro s hs
    exact GB_shift (hI.2.1.2.2 s hs) (fun j hj => lo _ (by omega) (by omega))
theorem u_X9_isHome (h : HS) (p1 : Int32) (hI : IM h) : ok (f_X9_isHome h p1) (fun a => a.2 = h ∧ ((a.1 = 0 ∨ a.1 = 1) ∧ ((a.1).toInt = 0 ∨ (0 ≤ p1.toInt ∧ p1.toInt < (eA h 0 0 1).toInt)))) := by
  unfold f_X9_isHome f_X9_isHome_21 f_X9_isHome_22
  refine ok_ob2 (u_X9_isGoose h p1 hI) (fun r1 h1 k1 => ?_)
  have e1 : h = h1 := k1.1.symm
  subst e1
  have hn := IM_n hI
  refine ok_if (fun c => ok_chk (Or.inl rfl) (ok_some ⟨rfl, Or.inl rfl, Or.inl rfl⟩)) (fun c1 => ?_)
  have d := gi_of_ne c1
  have z0 : (0 : Int32).toInt = 0 := rfl; have z4 : (4 : Int32).toInt = 4 := rfl
  have k2 : r1.toInt = 0 ∨ (0 ≤ p1.toInt ∧ p1.toInt < (eA h 0 0 1).toInt) := k1.2.2
  refine ok_ob2 (u_X9_ofGoose h p1 4 hI (by omega) (by omega)) (fun r3 h3 k3 => ?_)
  have e1 : h = h3 := k3.1.symm
  subst e1
  refine ok_if (fun c => ?_) (fun c => ok_chk (Or.inl rfl) (ok_some ⟨rfl, Or.inl rfl, Or.inl rfl⟩))
  exact ok_chk (Or.inr rfl) (ok_some ⟨rfl, Or.inr rfl, Or.inr (by omega)⟩)
theorem u_X9_put_3 {h0 : HS} {T : Int} (hT : T ≤ 300) (x1 : Int32) : ∀ (n : Nat) (h : HS) (x2 : Int32) (m : Nat), SM h0 h → x2.toInt = 8 * (m : Int) - 8 → m ≤ 4 → (eI h 0 3).toInt + m = T → m < n → ok (f_X9_put_3 n h x1 x2) (fun a => SM h0 a ∧ (eI a 0 3).toInt = T) := by
  intro n
  induction n with
  | zero => intro h x2 m s e i k hm; exact absurd hm (by omega)
  | succ n ih =>
    intro h x2 m s e i k hm
    rw [f_X9_put_3_s]
    have z0 : (0 : Int32).toInt = 0 := rfl; have z1 : (1 : Int32).toInt = 1 := rfl; have z8 : (8 : Int32).toInt = 8 := rfl
    have hn := IM_n s.1
    refine ok_if (fun c => ?_) (fun c => ?_)
    · have d := gi_of_lt c
      exact ok_some ⟨s, by omega⟩
    · have d := gi_of_nlt c
      have a1 := fb_addI (x := eI h 0 3) (y := 1) (by omega) (by omega)
      have a2 := fb_subI (x := x2) (y := 8) (by omega) (by omega)
      refine ok_chk (by omega) ?_
      refine ih _ (x2 - 8) (m - 1) ?_ (by omega) (by omega) (by show (eI h 0 3 + 1).toInt + _ = T; omega) (by omega)
      obtain ⟨⟨⟨_, n2⟩, r⟩, e⟩ := s
      exact ⟨⟨⟨⟨by show 0 ≤ (eI h 0 3 + 1).toInt; omega, by show (eI h 0 3 + 1).toInt ≤ 300; omega⟩, n2⟩, r⟩, e⟩
theorem u_X9_put (h : HS) (p1 : Int32) (hI : IM h) (w : (eI h 0 3).toInt + 4 ≤ 300) : ok (f_X9_put h p1) (fun a => SM h a ∧ (eI a 0 3).toInt = (eI h 0 3).toInt + 4) := by
  unfold f_X9_put
  exact u_X9_put_3 w p1 _ h 24 4 (SM_refl hI) (by decide) (by decide) rfl (by decide)
theorem u_X9_feed (h : HS) (p1 p2 p3 p4 p5 : Int32) (hI : IM h) : ok (f_X9_feed h p1 p2 p3 p4 p5) (fun a => SM h a.2 ∧ True) := by
  unfold f_X9_feed
  have hn := IM_n hI
  have z20 : (20 : Int32).toInt = 20 := rfl; have z300 : (300 : Int32).toInt = 300 := rfl
  refine ok_if (fun c => ?_) (fun c => ok_some ⟨SM_refl hI, trivial⟩)
  have d := gi_of_le c
  have e := fb_addI (x := eI h 0 3) (y := 20) (by omega) (by omega)
  refine ok_ob1 (u_X9_put h p1 hI (by omega)) (fun h2 k2 => ?_)
  refine ok_ob1 (u_X9_put h2 p2 k2.1.1 (by omega)) (fun h3 k3 => ?_)
  refine ok_ob1 (u_X9_put h3 p3 k3.1.1 (by omega)) (fun h4 k4 => ?_)
  refine ok_ob1 (u_X9_put h4 p4 k4.1.1 (by omega)) (fun h5 k5 => ?_)
  refine ok_ob1 (u_X9_put h5 p5 k5.1.1 (by omega)) (fun h6 k6 => ?_)
  exact ok_some ⟨SM_trans (SM_trans (SM_trans (SM_trans k2.1 k3.1) k4.1) k5.1) k6.1, trivial⟩
theorem u_X9_end (h : HS) (p1 : Int32) (hI : IM h) : ok (f_X9_end h p1) (fun a => SM h a.2 ∧ True) := by
  unfold f_X9_end
  have hn := IM_n hI
  refine ok_ob1 (u_X9_in p1 0 _) (fun r k => ?_)
  refine ok_if (fun c => ok_some ⟨SM_refl hI, trivial⟩) (fun c => ok_some ⟨?_, trivial⟩)
  have := k.2; have := gi_of_ne c; have z0 : (0 : Int32).toInt = 0 := rfl
  obtain ⟨⟨_, n2⟩, r⟩ := hI
  exact ⟨⟨⟨⟨by show 0 ≤ p1.toInt; omega, by show p1.toInt ≤ 300; omega⟩, n2⟩, r⟩, rfl, rfl, rfl, rfl⟩
theorem u_X9_draw (h : HS) (hI : IM h) : ok (f_X9_draw h) (fun a => SW h a.2 ∧ True) := by
  unfold f_X9_draw
  exact ok_some ⟨(sw_row (c := h) (f := (upd (eA h 0 0) 122 (((((eA h 0 0) 122) * 157) + 61) - ((((eA h 0 0) 122) * 157) + 61) / 30071 * 30071))) (SW_refl hI) (RO_free (i := 122) (v := (((((eA h 0 0) 122) * 157) + 61) - ((((eA h 0 0) 122) * 157) + 61) / 30071 * 30071)) (SW_refl hI).1.2.1 (by decide)) rfl rfl rfl), trivial⟩
theorem u_X9_geeseOf_4 (h : HS) (x1 : Int32) (hI : IM h) : ∀ (n : Nat) (x2 : Int32) (x3 : Int32), 0 ≤ x3.toInt → 0 < n → (10 - (x3).toInt : Int) < (n : Int) → ok (f_X9_geeseOf_4  n h x1 x2 x3) (fun a => a.2 = h ∧ True) := by
  intro n
  induction n with
  | zero =>
    intro x2 x3 i0 hn hm
    exact absurd hn (by decide)
  | succ n ih_X9_geeseOf_4 =>
    intro x2 x3 i0 hn hm
    rw [f_X9_geeseOf_4_s]
    refine ok_if (fun c1 => ?_) (fun c1 => ?_)
    · exact ok_some ⟨rfl, trivial⟩
    · refine ok_ob2 (u_X9_ofGoose h x3 4 ((SM_refl hI)).1 (by have := IM_n (SM_refl hI).1; have := i0; have := hm; have := gi_of_nle c1; have := fb_rng ((eA h 0 0) 1); have := fb_rng (x3); omega) (by have := i0; have := hm; have : (4 : Int32).toInt = 4 := rfl; omega)) (fun r2 h2 k2 => ?_)
      have e2 : h = h2 := k2.1.symm
      subst e2
      refine ok_if (fun c3 => ?_) (fun c3 => ?_)
      · unfold f_X9_geeseOf_30
        exact ih_X9_geeseOf_4 (x2 + 1) (x3 + 1) (by have := IM_n (SM_refl hI).1; have := i0; have := hm; have := gi_of_nle c1; have : (1 : Int32).toInt = 1 := rfl; have := fb_rng ((eA h 0 0) 1); have := fb_rng (x3); (try have := fb_addI (x := x3) (y := 1) (by omega) (by omega)); omega) (by have := IM_n (SM_refl hI).1; have := i0; have := hm; have := gi_of_nle c1; have : (1 : Int32).toInt = 1 := rfl; have := fb_rng ((eA h 0 0) 1); have := fb_rng (x3); (try have := fb_addI (x := x3) (y := 1) (by omega) (by omega)); omega) (by have := IM_n (SM_refl hI).1; have := i0; have := hm; have := gi_of_nle c1; have : (1 : Int32).toInt = 1 := rfl; have := fb_rng ((eA h 0 0) 1); have := fb_rng (x3); (try have := fb_addI (x := x3) (y := 1) (by omega) (by omega)); omega)
      · unfold f_X9_geeseOf_30
        exact ih_X9_geeseOf_4 (x2 + 0) (x3 + 1) (by have := IM_n (SM_refl hI).1; have := i0; have := hm; have := gi_of_nle c1; have : (1 : Int32).toInt = 1 := rfl; have := fb_rng ((eA h 0 0) 1); have := fb_rng (x3); (try have := fb_addI (x := x3) (y := 1) (by omega) (by omega)); omega) (by have := IM_n (SM_refl hI).1; have := i0; have := hm; have := gi_of_nle c1; have : (1 : Int32).toInt = 1 := rfl; have := fb_rng ((eA h 0 0) 1); have := fb_rng (x3); (try have := fb_addI (x := x3) (y := 1) (by omega) (by omega)); omega) (by have := IM_n (SM_refl hI).1; have := i0; have := hm; have := gi_of_nle c1; have : (1 : Int32).toInt = 1 := rfl; have := fb_rng ((eA h 0 0) 1); have := fb_rng (x3); (try have := fb_addI (x := x3) (y := 1) (by omega) (by omega)); omega)
theorem u_X9_geeseOf (h : HS) (p1 : Int32) (hI : IM h) : ok (f_X9_geeseOf h p1) (fun a => a.2 = h ∧ True) := by
  unfold f_X9_geeseOf
  exact u_X9_geeseOf_4 h p1 ((SM_refl hI)).1 8589934592 0 0 (by have : (0 : Int32).toInt = 0 := rfl; omega) (by decide) (by have : (0 : Int32).toInt = 0 := rfl; omega)
theorem u_X9_image (h : HS) (hI : IM h) : ok (f_X9_image h) (fun a => IM a.2) := by
  unfold f_X9_image
  exact ok_ob1 (u_X9_copies_1 h hI.1 hI.2.2.2.1 hI.2.2.2.2 hI.2.1) (fun h1 k1 => ok_some k1.1)
theorem u_X9_back (h : HS) (hI : IM h) : ok (f_X9_back h) (fun a => IM a.2) := by
  unfold f_X9_back
  exact ok_ob1 (u_X9_copies_0 h hI) (fun h1 k1 => ok_some k1.1)
