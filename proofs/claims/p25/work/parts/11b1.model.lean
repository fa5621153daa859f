theorem u_X9_isQuill (p1 p2 : Int32) : ok (f_X9_isQuill p1 p2) (fun a => ((a = 0 ∨ a = 1) ∧ ((a).toInt = 0 ∨ ((0 ≤ p1.toInt ∧ p1.toInt ≤ 5) ∧ (0 ≤ p2.toInt ∧ p2.toInt ≤ 2))))) := by
  unfold f_X9_isQuill f_X9_isQuill_22 f_X9_isQuill_23
  refine ok_ob1 (u_X9_in p1 0 5) (fun r1 k1 => ?_)
  refine ok_if (fun c => ok_chk (Or.inl rfl) (ok_some ⟨Or.inl rfl, Or.inl rfl⟩)) (fun c1 => ?_)
  refine ok_ob1 (u_X9_in p2 0 2) (fun r2 k2 => ?_)
  refine ok_if (fun c => ok_chk (Or.inl rfl) (ok_some ⟨Or.inl rfl, Or.inl rfl⟩)) (fun c2 => ?_)
  have d1 := gi_of_ne c1; have d2 := gi_of_ne c2
  have z0 : (0 : Int32).toInt = 0 := rfl; have z5 : (5 : Int32).toInt = 5 := rfl; have z2 : (2 : Int32).toInt = 2 := rfl
  have a1 := k1.2; have a2 := k2.2
  exact ok_chk (Or.inr rfl) (ok_some ⟨Or.inr rfl, Or.inr (by omega)⟩)
theorem RO_congr {f g : Nat → Int32} (r : RO f) (e : ∀ j : Nat, j < 1990 → g j = f j) : RO g :=
  ⟨RC_congr r.1 (e 0 (by omega)) (e 1 (by omega)) (e 3 (by omega)) (e 4 (by omega)) (by rw [e 5 (by omega)]; exact r.1.2.2.2.2), GB_shift r.2.1 (fun j hj => e _ (by omega)), fun s hs => GB_shift (r.2.2 s hs) (fun j hj => e _ (by omega))⟩
theorem u_copies_out {f : Nat → Int32} (r : RO f) : ∀ (n : Nat) (h : HS) (x2 : Int32), NM h → TX h → CH (eA h 0 48) (eA h 0 49) → eA h 0 0 = f → 0 ≤ x2.toInt ∧ x2.toInt ≤ 1990 → (∀ j : Nat, (j : Int) < x2.toInt → eA h 0 1 j = f j) → (1990 - x2.toInt : Int) < n → ok (f_X9_copies_2 n h 1 x2) (fun a => IM a ∧ eA a 0 0 = f ∧ ∀ j : Nat, j < 1990 → eA a 0 1 j = f j) := by
  intro n
  induction n with
  | zero => intro h x2 a b c e i k hm; exact absurd hm (by omega)
  | succ n ih =>
    intro h x2 a b c e i k hm
    rw [f_X9_copies_2_s]
    have z : (1990 : Int32).toInt = 1990 := rfl; have z1 : (1 : Int32).toInt = 1 := rfl
    refine ok_if (fun c1 => ?_) (fun c1 => ?_)
    · have d := gi_of_le c1
      have k2 : ∀ j : Nat, j < 1990 → eA h 0 1 j = f j := fun j hj => k j (by omega)
      exact ok_some ⟨⟨a, (by rw [e]; exact r), RO_congr r k2, b, c⟩, e, k2⟩
    · have d := gi_of_nle c1
      rw [if_neg (by decide : ¬ (1 : Int32) = 0)]
      have a1 := fb_addI (x := x2) (y := 1) (by omega) (by omega)
      have b2 : x2.toNatClampNeg = x2.toInt.toNat := by rw [Int32.toNatClampNeg]
      refine ok_chk (by omega) (ok_chk (by omega) ?_)
      unfold f_X9_copies_40
      refine ih _ (x2 + 1) a b c e (by omega) ?_ (by omega)
      intro j hj
      show upd (eA h 0 1) x2.toNatClampNeg (eA h 0 0 x2.toNatClampNeg) j = f j
      rw [b2]
      unfold upd
      by_cases ej : j = x2.toInt.toNat
      · rw [if_pos ej, e, ej]
      · rw [if_neg ej]; exact k j (by omega)
theorem u_copies_in {f : Nat → Int32} (r : RO f) : ∀ (n : Nat) (h : HS) (x2 : Int32), NM h → TX h → CH (eA h 0 48) (eA h 0 49) → eA h 0 1 = f → 0 ≤ x2.toInt ∧ x2.toInt ≤ 1990 → (∀ j : Nat, (j : Int) < x2.toInt → eA h 0 0 j = f j) → (1990 - x2.toInt : Int) < n → ok (f_X9_copies_2 n h 0 x2) (fun a => IM a ∧ eA a 0 1 = f ∧ ∀ j : Nat, j < 1990 → eA a 0 0 j = f j) := by
  intro n
  induction n with
  | zero => intro h x2 a b c e i k hm; exact absurd hm (by omega)
  | succ n ih =>
    intro h x2 a b c e i k hm
    rw [f_X9_copies_2_s]
    have z : (1990 : Int32).toInt = 1990 := rfl; have z1 : (1 : Int32).toInt = 1 := rfl
    refine ok_if (fun c1 => ?_) (fun c1 => ?_)
    · have d := gi_of_le c1
      have k2 : ∀ j : Nat, j < 1990 → eA h 0 0 j = f j := fun j hj => k j (by omega)
      exact ok_some ⟨⟨a, RO_congr r k2, (by rw [e]; exact r), b, c⟩, e, k2⟩
    · have d := gi_of_nle c1
      rw [if_pos rfl]
      have a1 := fb_addI (x := x2) (y := 1) (by omega) (by omega)
      have b2 : x2.toNatClampNeg = x2.toInt.toNat := by rw [Int32.toNatClampNeg]
      refine ok_chk (by omega) (ok_chk (by omega) ?_)
      unfold f_X9_copies_40
      refine ih _ (x2 + 1) a b c e (by omega) ?_ (by omega)
      intro j hj
      show upd (eA h 0 0) x2.toNatClampNeg (eA h 0 1 x2.toNatClampNeg) j = f j
      rw [b2]
      unfold upd
      by_cases ej : j = x2.toInt.toNat
      · rw [if_pos ej, e, ej]
      · rw [if_neg ej]; exact k j (by omega)
theorem u_X9_copies_1 (h : HS) (a : NM h) (b : TX h) (c : CH (eA h 0 48) (eA h 0 49)) (r : RO (eA h 0 0)) : ok (f_X9_copies h 1) (fun a => IM a ∧ eA a 0 0 = eA h 0 0 ∧ ∀ j : Nat, j < 1990 → eA a 0 1 j = eA h 0 0 j) := by
  unfold f_X9_copies
  exact u_copies_out r _ h 0 a b c rfl (by decide) (fun j hj => absurd hj (by have : (0 : Int32).toInt = 0 := rfl; omega)) (by have : (0 : Int32).toInt = 0 := rfl; omega)
theorem u_X9_copies_0 (h : HS) (hI : IM h) : ok (f_X9_copies h 0) (fun a => IM a ∧ eA a 0 1 = eA h 0 1 ∧ ∀ j : Nat, j < 1990 → eA a 0 0 j = eA h 0 1 j) := by
  unfold f_X9_copies
  exact u_copies_in hI.2.2.1 _ h 0 hI.1 hI.2.2.2.1 hI.2.2.2.2 rfl (by decide) (fun j hj => absurd hj (by have : (0 : Int32).toInt = 0 := rfl; omega)) (by have : (0 : Int32).toInt = 0 := rfl; omega)
theorem u_X9_isMarket (h : HS) (p1 : Int32) (hI : IM h) : ok (f_X9_isMarket h p1) (fun a => a.2 = h ∧ ((a.1 = 0 ∨ a.1 = 1) ∧ ((a.1).toInt = 0 ∨ (0 ≤ p1.toInt ∧ p1.toInt < (eA h 0 0 0).toInt)))) := by
  unfold f_X9_isMarket
  refine ok_ob1 (u_X9_in p1 0 _) (fun r k => ?_)
  have hn := IM_n hI
  have z0 : (0 : Int32).toInt = 0 := rfl; have z1 : (1 : Int32).toInt = 1 := rfl
  have e := fb_subI (x := eA h 0 0 0) (y := 1) (by omega) (by omega)
  refine ok_chk k.1 (ok_some ⟨rfl, k.1, ?_⟩)
  have := k.2
  show r.toInt = 0 ∨ _
  omega
theorem u_X9_isGoose (h : HS) (p1 : Int32) (hI : IM h) : ok (f_X9_isGoose h p1) (fun a => a.2 = h ∧ ((a.1 = 0 ∨ a.1 = 1) ∧ ((a.1).toInt = 0 ∨ (0 ≤ p1.toInt ∧ p1.toInt < (eA h 0 0 1).toInt)))) := by
  unfold f_X9_isGoose
  refine ok_ob1 (u_X9_in p1 0 _) (fun r k => ?_)
  have hn := IM_n hI
  have z0 : (0 : Int32).toInt = 0 := rfl; have z1 : (1 : Int32).toInt = 1 := rfl
  have e := fb_subI (x := eA h 0 0 1) (y := 1) (by omega) (by omega)
  refine ok_chk k.1 (ok_some ⟨rfl, k.1, ?_⟩)
  have := k.2
  show r.toInt = 0 ∨ _
  omega
theorem ix9 {p1 p2 : Int32} (h1 : 0 ≤ p1.toInt ∧ p1.toInt ≤ 9) (h2 : 0 ≤ p2.toInt ∧ p2.toInt ≤ 8) : ((30 + 9 * p1) + p2).toInt = 30 + 9 * p1.toInt + p2.toInt ∧ ((30 + 9 * p1) + p2).toNatClampNeg = 30 + 9 * p1.toInt.toNat + p2.toInt.toNat := by
  have z : (30 : Int32).toInt = 30 := rfl
  have e1 : (9 * p1).toInt = 9 * p1.toInt := fb_mulJ rfl (by omega) (by omega)
  have e2 : (30 + 9 * p1).toInt = (30 : Int32).toInt + (9 * p1).toInt := fb_addI (by omega) (by omega)
  have e3 : ((30 + 9 * p1) + p2).toInt = (30 + 9 * p1).toInt + p2.toInt := fb_addI (by omega) (by omega)
  refine ⟨by omega, ?_⟩
  rw [Int32.toNatClampNeg]; omega
theorem u_X9_ofGoose (h : HS) (p1 p2 : Int32) (hI : IM h) (w0 : 0 ≤ p1.toInt ∧ p1.toInt ≤ 9) (w1 : 0 ≤ p2.toInt ∧ p2.toInt ≤ 8) : ok (f_X9_ofGoose h p1 p2) (fun a => a.2 = h ∧ ((p2 = 1 → 0 ≤ (a.1).toInt ∧ (a.1).toInt ≤ 99) ∧ (p2 = 3 → -1 ≤ (a.1).toInt ∧ (a.1).toInt ≤ 2) ∧ (p2 = 5 → -1 ≤ (a.1).toInt ∧ (a.1).toInt ≤ 3))) := by
  unfold f_X9_ofGoose
  have e := ix9 w0 w1
  refine ok_chk (by omega) (ok_some ⟨rfl, ?_⟩)
  have k := hI.2.1.2.1 p1.toInt.toNat (by omega)
  show (p2 = 1 → 0 ≤ (eA h 0 0 ((30 + 9 * p1) + p2).toNatClampNeg).toInt ∧ (eA h 0 0 ((30 + 9 * p1) + p2).toNatClampNeg).toInt ≤ 99) ∧ _
  rw [e.2]
  refine ⟨fun e => ?_, fun e => ?_, fun e => ?_⟩ <;> subst e
  · exact k.1
  · exact k.2.1
  · exact k.2.2.2
theorem GB_set {f : Nat → Int32} {b g c : Nat} {v : Int32} (h : GB f b) (hg : g < 10) (hc : c ≤ 8) (h2 : ¬ c = 2) (h3 : ¬ c = 3) (h5 : c = 5 → -1 ≤ v.toInt ∧ v.toInt ≤ 3) (h1 : c = 1 → 0 ≤ v.toInt ∧ v.toInt ≤ 99) : GB (upd f (b + 9 * g + c) v) b := by
  intro g' hg'
  have k := h g' hg'
  unfold upd
  rw [if_neg (c := b + 9 * g' + 3 = b + 9 * g + c) (by omega), if_neg (c := b + 9 * g' + 2 = b + 9 * g + c) (by omega)]
  refine ⟨?_, k.2.1, k.2.2.1, ?_⟩
  · by_cases e : b + 9 * g' + 1 = b + 9 * g + c
    · rw [if_pos e]; exact h1 (by omega)
    · rw [if_neg e]; exact k.1
  · by_cases e : b + 9 * g' + 5 = b + 9 * g + c
    · rw [if_pos e]; exact h5 (by omega)
    · rw [if_neg e]; exact k.2.2.2
theorem RO_set {f : Nat → Int32} {g c : Nat} {v : Int32} (h : RO f) (hg : g < 10) (hc : c ≤ 8) (h2 : ¬ c = 2) (h3 : ¬ c = 3) (h5 : c = 5 → -1 ≤ v.toInt ∧ v.toInt ≤ 3) (h1 : c = 1 → 0 ≤ v.toInt ∧ v.toInt ≤ 99) : RO (upd f (30 + 9 * g + c) v) :=
  ⟨RC_upd h.1 (by omega), GB_set h.2.1 hg hc h2 h3 h5 h1, fun s hs => GB_upd (h.2.2 s hs) (fun g' hg' => by omega)⟩
theorem upd_ne {α : Type} {f : Nat → Int32} {i j : Nat} {v : Int32} (h : ¬ j = i) : upd f i v j = f j := by unfold upd; rw [if_neg h]
theorem u_X9_puts (h : HS) (p1 p2 p3 : Int32) (hI : IM h) (w0 : 0 ≤ p1.toInt ∧ p1.toInt ≤ 9) (w1 : (0 ≤ p2.toInt ∧ p2.toInt ≤ 8) ∧ ¬ p2 = 2 ∧ ¬ p2 = 3) (q5 : p2 = 5 → -1 ≤ p3.toInt ∧ p3.toInt ≤ 3) (q1 : p2 = 1 → 0 ≤ p3.toInt ∧ p3.toInt ≤ 99) : ok (f_X9_puts h p1 p2 p3) (fun a => SW h a ∧ True) := by
  unfold f_X9_puts
  have e := ix9 w0 w1.1
  refine ok_chk (by omega) (ok_some ⟨?_, trivial⟩)
  rw [e.2]
  have z2 : (2 : Int32).toInt = 2 := rfl; have z3 : (3 : Int32).toInt = 3 := rfl; have z5 : (5 : Int32).toInt = 5 := rfl; have z1 : (1 : Int32).toInt = 1 := rfl
  have n2 := gi_of_ne w1.2.1; have n3 := gi_of_ne w1.2.2
  refine sw_row (SW_refl hI) (RO_set hI.2.1 (by omega) (by omega) (by omega) (by omega) (fun e => q5 (gi_eq (by omega))) (fun e => q1 (gi_eq (by omega)))) ?_ ?_ ?_ <;> exact upd_ne (α := Nat) (by omega)
theorem u_X9_market (h : HS) (p1 p2 p3 : Int32) (hI : IM h) : ok (f_X9_market h p1 p2 p3) (fun a => IM a.2 ∧ eA a.2 0 1 = eA h 0 1 ∧ eA a.2 0 0 1 = eA h 0 0 1 ∧ ((a.1 = -1 ∧ a.2 = h) ∨ (a.1 = eA h 0 0 0 ∧ ¬ eA h 0 0 0 = 4 ∧ eA a.2 0 0 0 = eA h 0 0 0 + 1))) := by
  unfold f_X9_market f_X9_market_40
  have no : ok (some ((-1 : Int32), h)) (fun a => IM a.2 ∧ eA a.2 0 1 = eA h 0 1 ∧ eA a.2 0 0 1 = eA h 0 0 1 ∧ ((a.1 = -1 ∧ a.2 = h) ∨ (a.1 = eA h 0 0 0 ∧ ¬ eA h 0 0 0 = 4 ∧ eA a.2 0 0 0 = eA h 0 0 0 + 1))) := ok_some ⟨hI, rfl, rfl, Or.inl ⟨rfl, rfl⟩⟩
  refine ok_ob1 (u_X9_in p1 1 9) (fun r1 k1 => ok_if (fun c => no) (fun c1 => ?_))
  refine ok_ob1 (u_X9_in p2 0 9) (fun r2 k2 => ok_if (fun c => no) (fun c2 => ?_))
  refine ok_ob1 (u_X9_in p3 0 9) (fun r3 k3 => ok_if (fun c => no) (fun c3 => ?_))
  refine ok_if (fun c => no) (fun c4 => ?_)
  have hn := IM_n hI
  have d4 := gi_of_ne c4
  have z4 : (4 : Int32).toInt = 4 := rfl; have z10 : (10 : Int32).toInt = 10 := rfl; have z1 : (1 : Int32).toInt = 1 := rfl; have z2 : (2 : Int32).toInt = 2 := rfl
  have e1 : (3 * eA h 0 0 0).toInt = 3 * (eA h 0 0 0).toInt := fb_mulJ rfl (by omega) (by omega)
  have e2 : (10 + 3 * eA h 0 0 0).toInt = 10 + 3 * (eA h 0 0 0).toInt := by rw [fb_addI (by omega) (by omega)]; omega
  have b0 : (10 + 3 * eA h 0 0 0).toNatClampNeg = 10 + 3 * (eA h 0 0 0).toInt.toNat := by rw [Int32.toNatClampNeg]; omega
  have e3 : (10 + 3 * eA h 0 0 0 + 1).toInt = 10 + 3 * (eA h 0 0 0).toInt + 1 := by rw [fb_addI (by omega) (by omega)]; omega
  have b1 : (10 + 3 * eA h 0 0 0 + 1).toNatClampNeg = 10 + 3 * (eA h 0 0 0).toInt.toNat + 1 := by rw [Int32.toNatClampNeg]; omega
  have e4 : (10 + 3 * eA h 0 0 0 + 2).toInt = 10 + 3 * (eA h 0 0 0).toInt + 2 := by rw [fb_addI (by omega) (by omega)]; omega
  have b2 : (10 + 3 * eA h 0 0 0 + 2).toNatClampNeg = 10 + 3 * (eA h 0 0 0).toInt.toNat + 2 := by rw [Int32.toNatClampNeg]; omega
  refine ok_chk (by omega) (ok_chk (by omega) (ok_chk (by omega) ?_))
  rw [b0, b1, b2]
  have i0 : RO (upd (upd (upd (eA h 0 0) (10 + 3 * (eA h 0 0 0).toInt.toNat) p1) (10 + 3 * (eA h 0 0 0).toInt.toNat + 1) p2) (10 + 3 * (eA h 0 0 0).toInt.toNat + 2) p3) := RO_free (RO_free (RO_free hI.2.1 (by omega)) (by omega)) (by omega)
  have q : ∀ j : Nat, j < 10 → upd (upd (upd (eA h 0 0) (10 + 3 * (eA h 0 0 0).toInt.toNat) p1) (10 + 3 * (eA h 0 0 0).toInt.toNat + 1) p2) (10 + 3 * (eA h 0 0 0).toInt.toNat + 2) p3 j = eA h 0 0 j := by
    intro j hj
    unfold upd
    rw [if_neg (by omega), if_neg (by omega), if_neg (by omega)]
  generalize upd (upd (upd (eA h 0 0) (10 + 3 * (eA h 0 0 0).toInt.toNat) p1) (10 + 3 * (eA h 0 0 0).toInt.toNat + 1) p2) (10 + 3 * (eA h 0 0 0).toInt.toNat + 2) p3 = F at *
  have q0 := q 0 (by omega)
  have e5 : (eA h 0 0 0 + 1).toInt = (eA h 0 0 0).toInt + 1 := by rw [fb_addI (by omega) (by omega)]; omega
  have u0 : upd F 0 (F 0 + 1) 0 = eA h 0 0 0 + 1 := by unfold upd; rw [if_pos rfl, q0]
  have un : ∀ j : Nat, ¬ j = 0 → upd F 0 (F 0 + 1) j = F j := fun j hj => by unfold upd; rw [if_neg hj]
  refine ok_some ⟨IM_of (IMO_of (h := h) hI) ⟨?_, GB_shift i0.2.1 (fun j hj => un _ (by omega)), fun s hs => GB_shift (i0.2.2 s hs) (fun j hj => un _ (by omega))⟩, rfl, ?_, Or.inr ⟨?_, c4, u0⟩⟩
  · obtain ⟨r0, r1, r3, r4, r5⟩ := i0.1
    refine ⟨?_, r1, r3, r4, r5⟩
    show 0 ≤ (upd F 0 (F 0 + 1) 0).toInt ∧ (upd F 0 (F 0 + 1) 0).toInt ≤ 4
    rw [u0]; omega
  · show upd F 0 (F 0 + 1) 1 = _
    rw [un 1 (by omega), q 1 (by omega)]
  · show upd F 0 (F 0 + 1) 0 - 1 = _
    rw [u0]
    apply gi_eq
    rw [fb_subI (by omega) (by omega)]; omega
theorem GB_new {f : Nat → Int32} {b g : Nat} {v0 v1 : Int32} (h : GB f b) (hg : g < 10) (q : 0 ≤ v1.toInt ∧ v1.toInt ≤ 99) : GB (upd (upd (upd (upd (upd (upd (upd (upd (upd f (b + 9 * g + 0) v0) (b + 9 * g + 1) v1) (b + 9 * g + 2) (-1)) (b + 9 * g + 3) (-1)) (b + 9 * g + 4) 0) (b + 9 * g + 5) (-1)) (b + 9 * g + 6) (-1)) (b + 9 * g + 7) (-1)) (b + 9 * g + 8) 0) b := by
  intro g' hg'
  by_cases e : g' = g
  · subst e
    have c1 : (upd (upd (upd (upd (upd (upd (upd (upd (upd f (b + 9 * g' + 0) v0) (b + 9 * g' + 1) v1) (b + 9 * g' + 2) (-1)) (b + 9 * g' + 3) (-1)) (b + 9 * g' + 4) 0) (b + 9 * g' + 5) (-1)) (b + 9 * g' + 6) (-1)) (b + 9 * g' + 7) (-1)) (b + 9 * g' + 8) 0) (b + 9 * g' + 1) = v1 := by
      simp only [upd]
      rw [if_neg (by omega), if_neg (by omega), if_neg (by omega), if_neg (by omega), if_neg (by omega), if_neg (by omega), if_neg (by omega), if_pos trivial]
    have c2 : (upd (upd (upd (upd (upd (upd (upd (upd (upd f (b + 9 * g' + 0) v0) (b + 9 * g' + 1) v1) (b + 9 * g' + 2) (-1)) (b + 9 * g' + 3) (-1)) (b + 9 * g' + 4) 0) (b + 9 * g' + 5) (-1)) (b + 9 * g' + 6) (-1)) (b + 9 * g' + 7) (-1)) (b + 9 * g' + 8) 0) (b + 9 * g' + 2) = -1 := by
      simp only [upd]
      rw [if_neg (by omega), if_neg (by omega), if_neg (by omega), if_neg (by omega), if_neg (by omega), if_neg (by omega), if_pos trivial]
    have c3 : (upd (upd (upd (upd (upd (upd (upd (upd (upd f (b + 9 * g' + 0) v0) (b + 9 * g' + 1) v1) (b + 9 * g' + 2) (-1)) (b + 9 * g' + 3) (-1)) (b + 9 * g' + 4) 0) (b + 9 * g' + 5) (-1)) (b + 9 * g' + 6) (-1)) (b + 9 * g' + 7) (-1)) (b + 9 * g' + 8) 0) (b + 9 * g' + 3) = -1 := by
      simp only [upd]
      rw [if_neg (by omega), if_neg (by omega), if_neg (by omega), if_neg (by omega), if_neg (by omega), if_pos trivial]
    have c5 : (upd (upd (upd (upd (upd (upd (upd (upd (upd f (b + 9 * g' + 0) v0) (b + 9 * g' + 1) v1) (b + 9 * g' + 2) (-1)) (b + 9 * g' + 3) (-1)) (b + 9 * g' + 4) 0) (b + 9 * g' + 5) (-1)) (b + 9 * g' + 6) (-1)) (b + 9 * g' + 7) (-1)) (b + 9 * g' + 8) 0) (b + 9 * g' + 5) = -1 := by
      simp only [upd]
      rw [if_neg (by omega), if_neg (by omega), if_neg (by omega), if_pos trivial]
    rw [c1, c2, c3, c5]
    exact ⟨q, by decide, Or.inl rfl, by decide⟩
  · have un : ∀ c : Nat, c < 9 → (upd (upd (upd (upd (upd (upd (upd (upd (upd f (b + 9 * g + 0) v0) (b + 9 * g + 1) v1) (b + 9 * g + 2) (-1)) (b + 9 * g + 3) (-1)) (b + 9 * g + 4) 0) (b + 9 * g + 5) (-1)) (b + 9 * g + 6) (-1)) (b + 9 * g + 7) (-1)) (b + 9 * g + 8) 0) (b + 9 * g' + c) = f (b + 9 * g' + c) := by
      intro c hc
      simp only [upd]
      rw [if_neg (by omega), if_neg (by omega), if_neg (by omega), if_neg (by omega), if_neg (by omega), if_neg (by omega), if_neg (by omega), if_neg (by omega), if_neg (by omega)]
    rw [un 1 (by omega), un 2 (by omega), un 3 (by omega), un 5 (by omega)]
    exact h g' hg'
theorem cells9 {p1 p2 : Int32} {b : Nat} (hb : p1.toInt = b) (hB : b < 1900) (hg : 0 ≤ p2.toInt ∧ p2.toInt ≤ 9) {c : Int32} (hc : 0 ≤ c.toInt ∧ c.toInt ≤ 8) : (0 ≤ ((p1 + 9 * p2) + c).toInt ∧ ((p1 + 9 * p2) + c).toInt < 1990) ∧ ((p1 + 9 * p2) + c).toNatClampNeg = b + 9 * p2.toInt.toNat + c.toInt.toNat := by
  have e1 : (9 * p2).toInt = 9 * p2.toInt := fb_mulJ rfl (by omega) (by omega)
  have e2 : (p1 + 9 * p2).toInt = p1.toInt + (9 * p2).toInt := fb_addI (by omega) (by omega)
  have e3 : ((p1 + 9 * p2) + c).toInt = (p1 + 9 * p2).toInt + c.toInt := fb_addI (by omega) (by omega)
  refine ⟨by omega, ?_⟩
  rw [Int32.toNatClampNeg]; omega
set_option maxHeartbeats 4000000 in
theorem u_X9_tellsGoose (h : HS) (p1 p2 p3 p4 : Int32) (b : Nat) (hI : IM h) (hb : p1.toInt = b) (hB : b = 30 ∨ ∃ s : Nat, s < 20 ∧ b = 130 + 93 * s) (hg : 0 ≤ p2.toInt ∧ p2.toInt ≤ 9) (q : 0 ≤ p4.toInt ∧ p4.toInt ≤ 99) : ok (f_X9_tellsGoose h p1 p2 p3 p4) (fun a => SW h a ∧ ∀ j : Nat, j < 30 → eA a 0 0 j = eA h 0 0 j) := by
  unfold f_X9_tellsGoose
  have hB2 : b < 1900 ∧ 30 ≤ b := by
    rcases hB with e | ⟨s, hs, e⟩ <;> omega
  have k0 := cells9 hb hB2.1 hg (c := 0) (by decide); have k1 := cells9 hb hB2.1 hg (c := 1) (by decide); have k2 := cells9 hb hB2.1 hg (c := 2) (by decide)
  have k3 := cells9 hb hB2.1 hg (c := 3) (by decide); have k4 := cells9 hb hB2.1 hg (c := 4) (by decide); have k5 := cells9 hb hB2.1 hg (c := 5) (by decide)
  have k6 := cells9 hb hB2.1 hg (c := 6) (by decide); have k7 := cells9 hb hB2.1 hg (c := 7) (by decide); have k8 := cells9 hb hB2.1 hg (c := 8) (by decide)
  refine ok_chk k0.1 ?_
  refine ok_chk k1.1 ?_
  refine ok_chk k2.1 ?_
  refine ok_chk k3.1 ?_
  refine ok_chk k4.1 ?_
  refine ok_chk k5.1 ?_
  refine ok_chk k6.1 ?_
  refine ok_chk k7.1 ?_
  refine ok_chk k8.1 ?_
  rw [k0.2, k1.2, k2.2, k3.2, k4.2, k5.2, k6.2, k7.2, k8.2]
  have t0 : (0 : Int32).toInt.toNat = 0 := rfl; have t1 : (1 : Int32).toInt.toNat = 1 := rfl; have t2 : (2 : Int32).toInt.toNat = 2 := rfl; have t3 : (3 : Int32).toInt.toNat = 3 := rfl; have t4 : (4 : Int32).toInt.toNat = 4 := rfl; have t5 : (5 : Int32).toInt.toNat = 5 := rfl; have t6 : (6 : Int32).toInt.toNat = 6 := rfl; have t7 : (7 : Int32).toInt.toNat = 7 := rfl; have t8 : (8 : Int32).toInt.toNat = 8 := rfl
  rw [t0, t1, t2, t3, t4, t5, t6, t7, t8]
  clear t0 t1 t2 t3 t4 t5 t6 t7 t8 k0 k1 k2 k3 k4 k5 k6 k7 k8
  have hgn : p2.toInt.toNat < 10 := by omega
  generalize p2.toInt.toNat = g at *
  have lo : ∀ j : Nat, j < 30 → (upd (upd (upd (upd (upd (upd (upd (upd (upd (eA h 0 0) (b + 9 * g + 0) p3) (b + 9 * g + 1) p4) (b + 9 * g + 2) (-1)) (b + 9 * g + 3) (-1)) (b + 9 * g + 4) 0) (b + 9 * g + 5) (-1)) (b + 9 * g + 6) (-1)) (b + 9 * g + 7) (-1)) (b + 9 * g + 8) 0) j = eA h 0 0 j := by
    intro j hj
    simp only [upd]
    rw [if_neg (by omega), if_neg (by omega), if_neg (by omega), if_neg (by omega), if_neg (by omega), if_neg (by omega), if_neg (by omega), if_neg (by omega), if_neg (by omega)]
  have ap : ∀ c : Nat, (∀ j : Nat, j < 90 → ¬ (b + 9 * g ≤ c + j ∧ c + j < b + 9 * g + 9)) → GB (eA h 0 0) c → GB (upd (upd (upd (upd (upd (upd (upd (upd (upd (eA h 0 0) (b + 9 * g + 0) p3) (b + 9 * g + 1) p4) (b + 9 * g + 2) (-1)) (b + 9 * g + 3) (-1)) (b + 9 * g + 4) 0) (b + 9 * g + 5) (-1)) (b + 9 * g + 6) (-1)) (b + 9 * g + 7) (-1)) (b + 9 * g + 8) 0) c := by
    intro c hc hG
    refine GB_shift hG (fun j hj => ?_)
    have := hc j hj
    simp only [upd]
    rw [if_neg (by omega), if_neg (by omega), if_neg (by omega), if_neg (by omega), if_neg (by omega), if_neg (by omega), if_neg (by omega), if_neg (by omega), if_neg (by omega)]
  have r := hI.2.1
  refine ok_some ⟨⟨IM_of (IMO_of (h := h) hI) ⟨RC_congr5 r.1 (lo 0 (by omega)) (lo 1 (by omega)) (lo 3 (by omega)) (lo 4 (by omega)) (lo 5 (by omega)), ?_, ?_⟩, lo 0 (by omega), lo 1 (by omega), lo 3 (by omega)⟩, lo⟩
  · rcases hB with e | ⟨s, hs, e⟩
    · subst e; exact GB_new r.2.1 hgn q
    · exact ap 30 (fun j hj => by omega) r.2.1
  · intro t ht
    rcases hB with e | ⟨s, hs, e⟩
    · exact ap _ (fun j hj => by omega) (r.2.2 t ht)
    · by_cases et : t = s
      · subst et; rw [e]; exact GB_new (r.2.2 t ht) hgn q
      · exact ap _ (fun j hj => by omega) (r.2.2 t ht)
theorem u_X9_goose_49 {h0 : HS} (x1 x2 : Int32) (w : (eA h0 0 0 1).toInt ≤ 9) (q : 0 ≤ x2.toInt ∧ x2.toInt ≤ 99) : ∀ (n : Nat) (h : HS) (x3 : Int32), SW h0 h → 0 ≤ x3.toInt → 0 < n → (20 - (x3).toInt : Int) < (n : Int) → ok (f_X9_goose_49 n h x1 x2 x3) (fun a => IM a.2 ∧ eA a.2 0 0 0 = eA h0 0 0 0 ∧ eA a.2 0 0 1 = eA h0 0 0 1 + 1 ∧ a.1 = eA h0 0 0 1) := by
  intro n
  induction n with
  | zero => intro h x3 s i0 hn hm; exact absurd hn (by decide)
  | succ n ih =>
    intro h x3 s i0 hn hm
    rw [f_X9_goose_49_s]
    have hn := IM_n s.1
    have eg := s.2.2.1
    have z1 : (1 : Int32).toInt = 1 := rfl; have z93 : (93 : Int32).toInt = 93 := rfl; have z130 : (130 : Int32).toInt = 130 := rfl
    refine ok_if (fun c => ?_) (fun c => ?_)
    · have u1 : upd (eA h 0 0) 1 (eA h 0 0 1 + 1) 1 = eA h 0 0 1 + 1 := by unfold upd; rw [if_pos rfl]
      have un : ∀ j : Nat, ¬ j = 1 → upd (eA h 0 0) 1 (eA h 0 0 1 + 1) j = eA h 0 0 j := fun j hj => by unfold upd; rw [if_neg hj]
      have e5 : (eA h 0 0 1 + 1).toInt = (eA h 0 0 1).toInt + 1 := by rw [fb_addI (by omega) (by omega)]; omega
      refine ok_some ⟨IM_of (IMO_of (h := h) s.1) ⟨?_, GB_shift s.1.2.1.2.1 (fun j hj => un _ (by omega)), fun t ht => GB_shift (s.1.2.1.2.2 t ht) (fun j hj => un _ (by omega))⟩, (un 0 (by omega)).trans s.2.1, ?_, ?_⟩
      · obtain ⟨r0, r1, r3, r4, r5⟩ := s.1.2.1.1
        refine ⟨r0, ?_, r3, r4, r5⟩
        show 0 ≤ (upd (eA h 0 0) 1 (eA h 0 0 1 + 1) 1).toInt ∧ (upd (eA h 0 0) 1 (eA h 0 0 1 + 1) 1).toInt ≤ 10
        rw [u1, e5, eg]
        rw [eg] at hn
        omega
      · show upd (eA h 0 0) 1 (eA h 0 0 1 + 1) 1 = _
        rw [u1, eg]
      · show upd (eA h 0 0) 1 (eA h 0 0 1 + 1) 1 - 1 = _
        rw [u1, ← eg]
        apply gi_eq
        rw [fb_subI (by omega) (by omega)]; omega
    · have d := gi_of_nle c
      have m1 : (93 * x3).toInt = 93 * x3.toInt := fb_mulJ rfl (by omega) (by omega)
      have a1 : (130 + 93 * x3).toInt = 130 + 93 * x3.toInt := by rw [fb_addI (by omega) (by omega)]; omega
      have a2 := fb_addI (x := x3) (y := 1) (by omega) (by omega)
      refine ok_ob1 (u_X9_tellsGoose h (130 + 93 * x3) (eA h 0 0 1) x1 x2 (130 + 93 * x3.toInt.toNat) s.1 (by omega) (Or.inr ⟨x3.toInt.toNat, by omega, rfl⟩) (by rw [eg]; rw [eg] at hn; omega) q) (fun h8 k8 => ?_)
      exact ih h8 (x3 + 1) (SW_trans s k8.1) (by omega) (by omega) (by omega)
theorem u_X9_goose (h : HS) (p1 p2 : Int32) (hI : IM h) : ok (f_X9_goose h p1 p2) (fun a => IM a.2 ∧ eA a.2 0 0 0 = eA h 0 0 0 ∧ ((a.1 = -1 ∧ a.2 = h) ∨ (a.1 = eA h 0 0 1 ∧ ¬ eA h 0 0 1 = 10 ∧ eA a.2 0 0 1 = eA h 0 0 1 + 1))) := by
  unfold f_X9_goose f_X9_goose_31
  have no : ok (some ((-1 : Int32), h)) (fun a => IM a.2 ∧ eA a.2 0 0 0 = eA h 0 0 0 ∧ ((a.1 = -1 ∧ a.2 = h) ∨ (a.1 = eA h 0 0 1 ∧ ¬ eA h 0 0 1 = 10 ∧ eA a.2 0 0 1 = eA h 0 0 1 + 1))) := ok_some ⟨hI, rfl, Or.inl ⟨rfl, rfl⟩⟩
  refine ok_ob1 (u_X9_in p1 1 20) (fun r1 k1 => ok_if (fun c => no) (fun c1 => ?_))
  refine ok_ob1 (u_X9_in p2 0 99) (fun r3 k3 => ok_if (fun c => no) (fun c3 => ?_))
  refine ok_if (fun c => no) (fun c4 => ?_)
  have hn := IM_n hI
  have d4 := gi_of_ne c4; have d3 := gi_of_ne c3; have q3 := k3.2
  have z10 : (10 : Int32).toInt = 10 := rfl; have z0 : (0 : Int32).toInt = 0 := rfl; have z99 : (99 : Int32).toInt = 99 := rfl
  refine ok_ob1 (u_X9_tellsGoose h 30 (eA h 0 0 1) p1 p2 30 hI rfl (Or.inl rfl) (by omega) (by omega)) (fun h6 k6 => ?_)
  have e1 : eA h6 0 0 1 = eA h 0 0 1 := k6.1.2.2.1
  refine ok_mono (u_X9_goose_49 p1 p2 (by rw [e1]; omega) (by omega) _ h6 0 (SW_refl k6.1.1) (by decide) (by decide) (by omega)) (fun a k => ?_)
  obtain ⟨a1, a2, a3, a4⟩ := k
  exact ⟨a1, a2.trans k6.1.2.1, Or.inr ⟨a4.trans e1, c4, by rw [a3, e1]⟩⟩
theorem u_X9_store (h : HS) (p1 : Int32) (p2 : Int32) (hI : IM h) : ok (f_X9_store h p1 p2) (fun a => SW h a.2 ∧ (a.1 = 0 ∨ a.1 = 1)) := by
  unfold f_X9_store
  refine ok_ob1 (u_X9_in p1 0 9999) (fun r1 k1 => ?_)
  refine ok_if (fun c2 => ?_) (fun c2 => ?_)
  · unfold f_X9_store_21
    exact ok_some ⟨(SW_refl hI), (Or.inl rfl)⟩
  · refine ok_ob1 (u_X9_in p2 0 99) (fun r3 k3 => ?_)
    refine ok_if (fun c4 => ?_) (fun c4 => ?_)
    · unfold f_X9_store_21
      exact ok_some ⟨(SW_refl hI), (Or.inl rfl)⟩
    · exact ok_some ⟨(sw_row (c := (sA h 0 0 (upd (eA h 0 0) 120 p1))) (f := (upd (upd (eA h 0 0) 120 p1) 2 p2)) (sw_row (c := h) (f := (upd (eA h 0 0) 120 p1)) (SW_refl hI) (RO_free (i := 120) (v := p1) (SW_refl hI).1.2.1 (by decide)) rfl rfl rfl) (RO_free (i := 2) (v := p2) (RO_free (i := 120) (v := p1) (SW_refl hI).1.2.1 (by decide)) (by decide)) rfl rfl rfl), (Or.inr rfl)⟩
theorem u_X9_seed (h : HS) (p1 : Int32) (hI : IM h) : ok (f_X9_seed h p1) (fun a => SW h a.2 ∧ (a.1 = 0 ∨ a.1 = 1)) := by
  unfold f_X9_seed
  refine ok_ob1 (u_X9_in p1 0 9999) (fun r1 k1 => ?_)
  refine ok_if (fun c2 => ?_) (fun c2 => ?_)
  · exact ok_some ⟨(SW_refl hI), (Or.inl rfl)⟩
  · exact ok_some ⟨(sw_row (c := h) (f := (upd (eA h 0 0) 122 ((p1 * 11) + 9))) (SW_refl hI) (RO_free (i := 122) (v := ((p1 * 11) + 9)) (SW_refl hI).1.2.1 (by decide)) rfl rfl rfl), (Or.inr rfl)⟩
theorem u_X9_keepsStep_53 {f : Nat → Int32} {s : Nat} (hs : s < 20) (h5 : (f 5).toInt = s) : ∀ (n : Nat) (h : HS) (x1 : Int32), IMO h → 0 ≤ x1.toInt ∧ x1.toInt ≤ 93 → (∀ j : Nat, eA h 0 0 j = if 130 + 93 * s ≤ j ∧ (j : Int) < 130 + 93 * s + x1.toInt then f (30 + (j - (130 + 93 * s))) else f j) → (93 - x1.toInt : Int) < n → ok (f_X9_keepsStep_53 n h x1) (fun a => IMO a ∧ eA a 0 0 5 = f 5 + 1 ∧ ∀ j : Nat, ¬ j = 5 → eA a 0 0 j = if 130 + 93 * s ≤ j ∧ (j : Int) < 130 + 93 * s + 93 then f (30 + (j - (130 + 93 * s))) else f j) := by
  intro n
  induction n with
  | zero => intro h x1 o i e hm; exact absurd hm (by omega)
  | succ n ih =>
    intro h x1 o i e hm
    rw [f_X9_keepsStep_53_s]
    have z93 : (93 : Int32).toInt = 93 := rfl; have z1 : (1 : Int32).toInt = 1 := rfl; have z30 : (30 : Int32).toInt = 30 := rfl; have z130 : (130 : Int32).toInt = 130 := rfl
    have e5 : eA h 0 0 5 = f 5 := by rw [e 5, if_neg (by omega)]
    refine ok_if (fun c => ?_) (fun c => ?_)
    · have d := gi_of_le c
      refine ok_some ⟨o, ?_, ?_⟩
      · show upd (eA h 0 0) 5 (eA h 0 0 5 + 1) 5 = _
        unfold upd; rw [if_pos rfl, e5]
      · intro j hj
        show upd (eA h 0 0) 5 (eA h 0 0 5 + 1) j = _
        unfold upd; rw [if_neg hj, e j]
        have : x1.toInt = 93 := by omega
        rw [this]
    · have d := gi_of_nle c
      have a1 := fb_addI (x := 30) (y := x1) (by omega) (by omega)
      have m1 : (93 * f 5).toInt = 93 * (f 5).toInt := fb_mulJ rfl (by omega) (by omega)
      have a2 : (130 + 93 * f 5).toInt = (130 : Int32).toInt + (93 * f 5).toInt := fb_addI (by omega) (by omega)
      rw [e5]
      have a3 := fb_addI (x := 130 + 93 * f 5) (y := x1) (by omega) (by omega)
      have a4 := fb_addI (x := x1) (y := 1) (by omega) (by omega)
      have b1 : (30 + x1).toNatClampNeg = 30 + x1.toInt.toNat := by rw [Int32.toNatClampNeg]; omega
      have b2 : (130 + 93 * f 5 + x1).toNatClampNeg = 130 + 93 * s + x1.toInt.toNat := by rw [Int32.toNatClampNeg]; omega
      refine ok_chk (by omega) (ok_chk (by omega) ?_)
      rw [b1, b2]
      refine ih _ (x1 + 1) o (by omega) ?_ (by omega)
      intro j
      show upd (eA h 0 0) (130 + 93 * s + x1.toInt.toNat) (eA h 0 0 (30 + x1.toInt.toNat)) j = _
      unfold upd
      by_cases ej : j = 130 + 93 * s + x1.toInt.toNat
      · rw [if_pos ej, if_pos (by omega), e, if_neg (by omega)]
        congr 1; omega
      · rw [if_neg ej, e j]
        by_cases c2 : 130 + 93 * s ≤ j ∧ (j : Int) < 130 + 93 * s + x1.toInt
        · rw [if_pos c2, if_pos (by omega)]
        · rw [if_neg c2, if_neg (by omega)]
theorem u_X9_keepsStep_51 (h : HS) (o : IMO h) (r : RO (eA h 0 0)) (h19 : (eA h 0 0 5).toInt ≤ 19) : ok (f_X9_keepsStep_51 h) (fun a => SW h a ∧ ∀ j : Nat, j < 130 → ¬ j = 5 → eA a 0 0 j = eA h 0 0 j) := by
  unfold f_X9_keepsStep_51
  have hr := r.1
  have z1 : (1 : Int32).toInt = 1 := rfl
  refine ok_mono (u_X9_keepsStep_53 (f := eA h 0 0) (s := (eA h 0 0 5).toInt.toNat) (by omega) (by have := hr.2.2.2.2; omega) _ h 0 o (by decide) ?_ (by have : (0 : Int32).toInt = 0 := rfl; omega)) (fun a k => ?_)
  · intro j
    have z0 : (0 : Int32).toInt = 0 := rfl
    rw [z0, if_neg (by omega)]
  obtain ⟨k1, k2, k3⟩ := k
  have h5 := hr.2.2.2.2
  have e5 := fb_addI (x := eA h 0 0 5) (y := 1) (by omega) (by omega)
  have lo : ∀ j : Nat, j < 130 → ¬ j = 5 → eA a 0 0 j = eA h 0 0 j := by
    intro j hj hn
    rw [k3 j hn, if_neg (by omega)]
  refine ⟨⟨IM_of k1 ⟨RC_congr hr (lo 0 (by omega) (by omega)) (lo 1 (by omega) (by omega)) (lo 3 (by omega) (by omega)) (lo 4 (by omega) (by omega)) (by rw [k2]; omega), ?_, ?_⟩, lo 0 (by omega) (by omega), lo 1 (by omega) (by omega), lo 3 (by omega) (by omega)⟩, lo⟩
  · exact GB_shift r.2.1 (fun j hj => lo (30 + j) (by omega) (by omega))
  · intro s hs
    by_cases es : s = (eA h 0 0 5).toInt.toNat
    · refine GB_shift r.2.1 (fun j hj => ?_)
      rw [k3 _ (by omega), if_pos (by omega)]
      congr 1; omega
    · refine GB_shift (r.2.2 s hs) (fun j hj => ?_)
      rw [k3 _ (by omega), if_neg (by omega)]
theorem u_X9_keepsStep_15 {h0 : HS} (r : RO (eA h0 0 0)) : ∀ (n : Nat) (h : HS) (x1 : Int32), IMO h → 130 ≤ x1.toInt ∧ x1.toInt ≤ 1897 → (∀ j : Nat, eA h 0 0 j = if 130 ≤ j ∧ (j : Int) < x1.toInt then eA h0 0 0 (j + 93) else eA h0 0 0 j) → (1897 - x1.toInt : Int) < n → ok (f_X9_keepsStep_15 n h x1) (fun a => SW h0 a ∧ ∀ j : Nat, j < 130 → ¬ j = 5 → eA a 0 0 j = eA h0 0 0 j) := by
  intro n
  induction n with
  | zero => intro h x1 o i e hm; exact absurd hm (by omega)
  | succ n ih =>
    intro h x1 o i e hm
    rw [f_X9_keepsStep_15_s]
    have z93 : (93 : Int32).toInt = 93 := rfl; have z1 : (1 : Int32).toInt = 1 := rfl; have z19 : (19 : Int32).toInt = 19 := rfl; have z : (1897 : Int32).toInt = 1897 := rfl
    refine ok_if (fun c => ?_) (fun c => ?_)
    · have d := gi_of_le c
      have ex : x1.toInt = 1897 := by omega
      have lo : ∀ j : Nat, j < 130 → ¬ j = 5 → upd (eA h 0 0) 5 19 j = eA h0 0 0 j := by
        intro j hj hn
        unfold upd
        rw [if_neg hn, e j, if_neg (by omega)]
      have r1 : RO (eA (sA h 0 0 (upd (eA h 0 0) 5 19)) 0 0) := by
        show RO (upd (eA h 0 0) 5 19)
        refine ⟨RC_congr r.1 (lo 0 (by omega) (by omega)) (lo 1 (by omega) (by omega)) (lo 3 (by omega) (by omega)) (lo 4 (by omega) (by omega)) (by unfold upd; rw [if_pos rfl]; decide), ?_, ?_⟩
        · exact GB_shift r.2.1 (fun j hj => lo (30 + j) (by omega) (by omega))
        · intro s hs
          by_cases es : s = 19
          · refine GB_shift (r.2.2 s hs) (fun j hj => ?_)
            unfold upd
            rw [if_neg (by omega), e, if_neg (by omega)]
          · refine GB_shift (r.2.2 (s + 1) (by omega)) (fun j hj => ?_)
            unfold upd
            rw [if_neg (by omega), e, if_pos (by omega)]
            congr 1; omega
      refine ok_mono (u_X9_keepsStep_51 _ o r1 (by show (upd (eA h 0 0) 5 19 5).toInt ≤ 19; unfold upd; rw [if_pos rfl]; decide)) (fun a k => ?_)
      have lo2 : ∀ j : Nat, j < 130 → ¬ j = 5 → eA a 0 0 j = eA h0 0 0 j := fun j hj hn => (k.2 j hj hn).trans (lo j hj hn)
      exact ⟨⟨k.1.1, lo2 0 (by omega) (by omega), lo2 1 (by omega) (by omega), lo2 3 (by omega) (by omega)⟩, lo2⟩
    · have d := gi_of_nle c
      have a1 := fb_addI (x := x1) (y := 93) (by omega) (by omega)
      have a2 := fb_addI (x := x1) (y := 1) (by omega) (by omega)
      have b1 : (x1 + 93).toNatClampNeg = x1.toInt.toNat + 93 := by rw [Int32.toNatClampNeg]; omega
      have b2 : x1.toNatClampNeg = x1.toInt.toNat := by rw [Int32.toNatClampNeg]
      refine ok_chk (by omega) (ok_chk (by omega) ?_)
      rw [b1, b2]
      refine ih _ (x1 + 1) o (by omega) ?_ (by omega)
      intro j
      show upd (eA h 0 0) x1.toInt.toNat (eA h 0 0 (x1.toInt.toNat + 93)) j = _
      unfold upd
      by_cases ej : j = x1.toInt.toNat
      · rw [if_pos ej, if_pos (by omega), e, if_neg (by omega), ej]
      · rw [if_neg ej, e j]
        by_cases c2 : 130 ≤ j ∧ (j : Int) < x1.toInt
        · rw [if_pos c2, if_pos (by omega)]
        · rw [if_neg c2, if_neg (by omega)]
theorem u_X9_keepsStep (h : HS) (hI : IM h) : ok (f_X9_keepsStep h) (fun a => SW h a ∧ ∀ j : Nat, j < 130 → ¬ j = 5 → eA a 0 0 j = eA h 0 0 j) := by
  unfold f_X9_keepsStep
  refine ok_if (fun c => ?_) (fun c => ?_)
  · have z : (130 : Int32).toInt = 130 := rfl
    exact u_X9_keepsStep_15 hI.2.1 _ h 130 (IMO_of hI) (by decide) (fun j => by rw [z, if_neg (by omega)]) (by omega)
  · have d := gi_of_ne c
    have z : (20 : Int32).toInt = 20 := rfl
    have hn := IM_n hI
    exact u_X9_keepsStep_51 h (IMO_of hI) hI.2.1 (by omega)
theorem u_X9_undo_23 {f : Nat → Int32} {s : Nat} (hs : s < 20) (h5 : (f 5).toInt = s) : ∀ (n : Nat) (h : HS) (x1 : Int32), IMO h → 0 ≤ x1.toInt ∧ x1.toInt ≤ 93 → (∀ j : Nat, eA h 0 0 j = if 30 ≤ j ∧ (j : Int) < 30 + x1.toInt then f (130 + 93 * s + (j - 30)) else f j) → (93 - x1.toInt : Int) < n → ok (f_X9_undo_23 n h x1) (fun a => IMO a.2 ∧ ∀ j : Nat, eA a.2 0 0 j = if 30 ≤ j ∧ (j : Int) < 30 + 93 then f (130 + 93 * s + (j - 30)) else f j) := by
  intro n
  induction n with
  | zero => intro h x1 o i e hm; exact absurd hm (by omega)
  | succ n ih =>
    intro h x1 o i e hm
    rw [f_X9_undo_23_s]
    have z93 : (93 : Int32).toInt = 93 := rfl; have z1 : (1 : Int32).toInt = 1 := rfl; have z30 : (30 : Int32).toInt = 30 := rfl; have z130 : (130 : Int32).toInt = 130 := rfl
    have e5 : eA h 0 0 5 = f 5 := by rw [e 5, if_neg (by omega)]
    refine ok_if (fun c => ?_) (fun c => ?_)
    · have d := gi_of_le c
      have : x1.toInt = 93 := by omega
      rw [this] at e
      exact ok_some ⟨o, e⟩
    · have d := gi_of_nle c
      rw [e5]
      have a1 := fb_addI (x := 30) (y := x1) (by omega) (by omega)
      have m1 : (93 * f 5).toInt = 93 * (f 5).toInt := fb_mulJ rfl (by omega) (by omega)
      have a2 : (130 + 93 * f 5).toInt = (130 : Int32).toInt + (93 * f 5).toInt := fb_addI (by omega) (by omega)
      have a3 := fb_addI (x := 130 + 93 * f 5) (y := x1) (by omega) (by omega)
      have a4 := fb_addI (x := x1) (y := 1) (by omega) (by omega)
      have b1 : (30 + x1).toNatClampNeg = 30 + x1.toInt.toNat := by rw [Int32.toNatClampNeg]; omega
      have b2 : (130 + 93 * f 5 + x1).toNatClampNeg = 130 + 93 * s + x1.toInt.toNat := by rw [Int32.toNatClampNeg]; omega
      refine ok_chk (by omega) (ok_chk (by omega) ?_)
      rw [b1, b2]
      refine ih _ (x1 + 1) o (by omega) ?_ (by omega)
      intro j
      show upd (eA h 0 0) (30 + x1.toInt.toNat) (eA h 0 0 (130 + 93 * s + x1.toInt.toNat)) j = _
      unfold upd
      by_cases ej : j = 30 + x1.toInt.toNat
      · rw [if_pos ej, if_pos (by omega), e, if_neg (by omega)]
        congr 1; omega
      · rw [if_neg ej, e j]
        by_cases c2 : 30 ≤ j ∧ (j : Int) < 30 + x1.toInt
        · rw [if_pos c2, if_pos (by omega)]
        · rw [if_neg c2, if_neg (by omega)]
theorem u_X9_undo (h : HS) (hI : IM h) : ok (f_X9_undo h) (fun a => SW h a.2 ∧ True) := by
  unfold f_X9_undo
  refine ok_if (fun c => ok_some ⟨SW_refl hI, trivial⟩) (fun c => ?_)
  have d := gi_of_ne c
  have hn := IM_n hI
  have z0 : (0 : Int32).toInt = 0 := rfl; have z1 : (1 : Int32).toInt = 1 := rfl
  have e1 := fb_subI (x := eA h 0 0 5) (y := 1) (by omega) (by omega)
  have u5 : upd (eA h 0 0) 5 (eA h 0 0 5 - 1) 5 = eA h 0 0 5 - 1 := by unfold upd; rw [if_pos rfl]
  have un : ∀ j : Nat, ¬ j = 5 → upd (eA h 0 0) 5 (eA h 0 0 5 - 1) j = eA h 0 0 j := fun j hj => by unfold upd; rw [if_neg hj]
  refine ok_mono (u_X9_undo_23 (f := upd (eA h 0 0) 5 (eA h 0 0 5 - 1)) (s := ((eA h 0 0 5).toInt - 1).toNat) (by omega) (by rw [u5]; omega) _ (sA h 0 0 (upd (eA h 0 0) 5 (eA h 0 0 5 - 1))) 0 (IMO_of (h := h) hI) (by decide) (fun j => by rw [z0, if_neg (by omega)]; rfl) (by omega)) (fun a k => ?_)
  obtain ⟨k1, k2⟩ := k
  have lo : ∀ j : Nat, (j < 30 ∨ 123 ≤ j) → ¬ j = 5 → eA a.2 0 0 j = eA h 0 0 j := by
    intro j hj hn
    rw [k2 j, if_neg (by omega), un j hn]
  have h5 : eA a.2 0 0 5 = eA h 0 0 5 - 1 := by rw [k2 5, if_neg (by omega), u5]
  refine ⟨⟨IM_of k1 ⟨RC_congr hI.2.1.1 (lo 0 (by omega) (by omega)) (lo 1 (by omega) (by omega)) (lo 3 (by omega) (by omega)) (lo 4 (by omega) (by omega)) (by rw [h5]; omega), ?_, ?_⟩, lo 0 (by omega) (by omega), lo 1 (by omega) (by omega), lo 3 (by omega) (by omega)⟩, trivial⟩
  · refine GB_shift (hI.2.1.2.2 ((eA h 0 0 5).toInt - 1).toNat (by omega)) (fun j hj => ?_)
    rw [k2 _, if_pos (by omega), un _ (by omega)]
    congr 1; omega
  · intro s hs
    exact GB_shift (hI.2.1.2.2 s hs) (fun j hj => lo _ (by omega) (by omega))
theorem u_X9_isHome (h : HS) (p1 : Int32) (hI : IM h) : ok (f_X9_isHome h p1) (fun a => a.2 = h ∧ ((a.1 = 0 ∨ a.1 = 1) ∧ ((a.1).toInt = 0 ∨ (0 ≤ p1.toInt ∧ p1.toInt < (eA h 0 0 1).toInt)))) := by
  unfold f_X9_isHome f_X9_isHome_21 f_X9_isHome_22
  refine ok_ob2 (u_X9_isGoose h p1 hI) (fun r1 h1 k1 => ?_)
  have e1 : h = h1 := k1.1.symm
  subst e1
  have hn := IM_n hI
  refine ok_if (fun c => ok_chk (Or.inl rfl) (ok_some ⟨rfl, Or.inl rfl, Or.inl rfl⟩)) (fun c1 => ?_)
  have d := gi_of_ne c1
  have z0 : (0 : Int32).toInt = 0 := rfl; have z4 : (4 : Int32).toInt = 4 := rfl
  have k2 : r1.toInt = 0 ∨ (0 ≤ p1.toInt ∧ p1.toInt < (eA h 0 0 1).toInt) := k1.2.2
  refine ok_ob2 (u_X9_ofGoose h p1 4 hI (by omega) (by omega)) (fun r3 h3 k3 => ?_)
  have e1 : h = h3 := k3.1.symm
  subst e1
  refine ok_if (fun c => ?_) (fun c => ok_chk (Or.inl rfl) (ok_some ⟨rfl, Or.inl rfl, Or.inl rfl⟩))
  exact ok_chk (Or.inr rfl) (ok_some ⟨rfl, Or.inr rfl, Or.inr (by omega)⟩)
theorem u_X9_put_3 {h0 : HS} {T : Int} (hT : T ≤ 300) (x1 : Int32) : ∀ (n : Nat) (h : HS) (x2 : Int32) (m : Nat), SM h0 h → x2.toInt = 8 * (m : Int) - 8 → m ≤ 4 → (eI h 0 3).toInt + m = T → m < n → ok (f_X9_put_3 n h x1 x2) (fun a => SM h0 a ∧ (eI a 0 3).toInt = T) := by
  intro n
  induction n with
  | zero => intro h x2 m s e i k hm; exact absurd hm (by omega)
  | succ n ih =>
    intro h x2 m s e i k hm
    rw [f_X9_put_3_s]
    have z0 : (0 : Int32).toInt = 0 := rfl; have z1 : (1 : Int32).toInt = 1 := rfl; have z8 : (8 : Int32).toInt = 8 := rfl
    have hn := IM_n s.1
    refine ok_if (fun c => ?_) (fun c => ?_)
    · have d := gi_of_lt c
      exact ok_some ⟨s, by omega⟩
    · have d := gi_of_nlt c
      have a1 := fb_addI (x := eI h 0 3) (y := 1) (by omega) (by omega)
      have a2 := fb_subI (x := x2) (y := 8) (by omega) (by omega)
      refine ok_chk (by omega) ?_
      refine ih _ (x2 - 8) (m - 1) ?_ (by omega) (by omega) (by show (eI h 0 3 + 1).toInt + _ = T; omega) (by omega)
      obtain ⟨⟨⟨_, n2⟩, r⟩, e⟩ := s
      exact ⟨⟨⟨⟨by show 0 ≤ (eI h 0 3 + 1).toInt; omega, by show (eI h 0 3 + 1).toInt ≤ 300; omega⟩, n2⟩, r⟩, e⟩
theorem u_X9_put (h : HS) (p1 : Int32) (hI : IM h) (w : (eI h 0 3).toInt + 4 ≤ 300) : ok (f_X9_put h p1) (fun a => SM h a ∧ (eI a 0 3).toInt = (eI h 0 3).toInt + 4) := by
  unfold f_X9_put
  exact u_X9_put_3 w p1 _ h 24 4 (SM_refl hI) (by decide) (by decide) rfl (by decide)
theorem u_X9_feed (h : HS) (p1 p2 p3 p4 p5 : Int32) (hI : IM h) : ok (f_X9_feed h p1 p2 p3 p4 p5) (fun a => SM h a.2 ∧ True) := by
  unfold f_X9_feed
  have hn := IM_n hI
  have z20 : (20 : Int32).toInt = 20 := rfl; have z300 : (300 : Int32).toInt = 300 := rfl
  refine ok_if (fun c => ?_) (fun c => ok_some ⟨SM_refl hI, trivial⟩)
  have d := gi_of_le c
  have e := fb_addI (x := eI h 0 3) (y := 20) (by omega) (by omega)
  refine ok_ob1 (u_X9_put h p1 hI (by omega)) (fun h2 k2 => ?_)
  refine ok_ob1 (u_X9_put h2 p2 k2.1.1 (by omega)) (fun h3 k3 => ?_)
  refine ok_ob1 (u_X9_put h3 p3 k3.1.1 (by omega)) (fun h4 k4 => ?_)
  refine ok_ob1 (u_X9_put h4 p4 k4.1.1 (by omega)) (fun h5 k5 => ?_)
  refine ok_ob1 (u_X9_put h5 p5 k5.1.1 (by omega)) (fun h6 k6 => ?_)
  exact ok_some ⟨SM_trans (SM_trans (SM_trans (SM_trans k2.1 k3.1) k4.1) k5.1) k6.1, trivial⟩
theorem u_X9_end (h : HS) (p1 : Int32) (hI : IM h) : ok (f_X9_end h p1) (fun a => SM h a.2 ∧ True) := by
  unfold f_X9_end
  have hn := IM_n hI
  refine ok_ob1 (u_X9_in p1 0 _) (fun r k => ?_)
  refine ok_if (fun c => ok_some ⟨SM_refl hI, trivial⟩) (fun c => ok_some ⟨?_, trivial⟩)
  have := k.2; have := gi_of_ne c; have z0 : (0 : Int32).toInt = 0 := rfl
  obtain ⟨⟨_, n2⟩, r⟩ := hI
  exact ⟨⟨⟨⟨by show 0 ≤ p1.toInt; omega, by show p1.toInt ≤ 300; omega⟩, n2⟩, r⟩, rfl, rfl, rfl, rfl⟩
theorem u_X9_draw (h : HS) (hI : IM h) : ok (f_X9_draw h) (fun a => SW h a.2 ∧ True) := by
  unfold f_X9_draw
  exact ok_some ⟨(sw_row (c := h) (f := (upd (eA h 0 0) 122 (((((eA h 0 0) 122) * 157) + 61) - ((((eA h 0 0) 122) * 157) + 61) / 30071 * 30071))) (SW_refl hI) (RO_free (i := 122) (v := (((((eA h 0 0) 122) * 157) + 61) - ((((eA h 0 0) 122) * 157) + 61) / 30071 * 30071)) (SW_refl hI).1.2.1 (by decide)) rfl rfl rfl), trivial⟩
theorem u_X9_geeseOf_4 (h : HS) (x1 : Int32) (hI : IM h) : ∀ (n : Nat) (x2 : Int32) (x3 : Int32), 0 ≤ x3.toInt → 0 < n → (10 - (x3).toInt : Int) < (n : Int) → ok (f_X9_geeseOf_4  n h x1 x2 x3) (fun a => a.2 = h ∧ True) := by
  intro n
  induction n with
  | zero =>
    intro x2 x3 i0 hn hm
    exact absurd hn (by decide)
  | succ n ih_X9_geeseOf_4 =>
    intro x2 x3 i0 hn hm
    rw [f_X9_geeseOf_4_s]
    refine ok_if (fun c1 => ?_) (fun c1 => ?_)
    · exact ok_some ⟨rfl, trivial⟩
    · refine ok_ob2 (u_X9_ofGoose h x3 4 ((SM_refl hI)).1 (by have := IM_n (SM_refl hI).1; have := i0; have := hm; have := gi_of_nle c1; have := fb_rng ((eA h 0 0) 1); have := fb_rng (x3); omega) (by have := i0; have := hm; have : (4 : Int32).toInt = 4 := rfl; omega)) (fun r2 h2 k2 => ?_)
      have e2 : h = h2 := k2.1.symm
      subst e2
      refine ok_if (fun c3 => ?_) (fun c3 => ?_)
      · unfold f_X9_geeseOf_30
        exact ih_X9_geeseOf_4 (x2 + 1) (x3 + 1) (by have := IM_n (SM_refl hI).1; have := i0; have := hm; have := gi_of_nle c1; have : (1 : Int32).toInt = 1 := rfl; have := fb_rng ((eA h 0 0) 1); have := fb_rng (x3); (try have := fb_addI (x := x3) (y := 1) (by omega) (by omega)); omega) (by have := IM_n (SM_refl hI).1; have := i0; have := hm; have := gi_of_nle c1; have : (1 : Int32).toInt = 1 := rfl; have := fb_rng ((eA h 0 0) 1); have := fb_rng (x3); (try have := fb_addI (x := x3) (y := 1) (by omega) (by omega)); omega) (by have := IM_n (SM_refl hI).1; have := i0; have := hm; have := gi_of_nle c1; have : (1 : Int32).toInt = 1 := rfl; have := fb_rng ((eA h 0 0) 1); have := fb_rng (x3); (try have := fb_addI (x := x3) (y := 1) (by omega) (by omega)); omega)
      · unfold f_X9_geeseOf_30
        exact ih_X9_geeseOf_4 (x2 + 0) (x3 + 1) (by have := IM_n (SM_refl hI).1; have := i0; have := hm; have := gi_of_nle c1; have : (1 : Int32).toInt = 1 := rfl; have := fb_rng ((eA h 0 0) 1); have := fb_rng (x3); (try have := fb_addI (x := x3) (y := 1) (by omega) (by omega)); omega) (by have := IM_n (SM_refl hI).1; have := i0; have := hm; have := gi_of_nle c1; have : (1 : Int32).toInt = 1 := rfl; have := fb_rng ((eA h 0 0) 1); have := fb_rng (x3); (try have := fb_addI (x := x3) (y := 1) (by omega) (by omega)); omega) (by have := IM_n (SM_refl hI).1; have := i0; have := hm; have := gi_of_nle c1; have : (1 : Int32).toInt = 1 := rfl; have := fb_rng ((eA h 0 0) 1); have := fb_rng (x3); (try have := fb_addI (x := x3) (y := 1) (by omega) (by omega)); omega)
theorem u_X9_geeseOf (h : HS) (p1 : Int32) (hI : IM h) : ok (f_X9_geeseOf h p1) (fun a => a.2 = h ∧ True) := by
  unfold f_X9_geeseOf
  exact u_X9_geeseOf_4 h p1 ((SM_refl hI)).1 8589934592 0 0 (by have : (0 : Int32).toInt = 0 := rfl; omega) (by decide) (by have : (0 : Int32).toInt = 0 := rfl; omega)
theorem u_X9_image (h : HS) (hI : IM h) : ok (f_X9_image h) (fun a => IM a.2) := by
  unfold f_X9_image
  exact ok_ob1 (u_X9_copies_1 h hI.1 hI.2.2.2.1 hI.2.2.2.2 hI.2.1) (fun h1 k1 => ok_some k1.1)
theorem u_X9_back (h : HS) (hI : IM h) : ok (f_X9_back h) (fun a => IM a.2) := by
  unfold f_X9_back
  exact ok_ob1 (u_X9_copies_0 h hI) (fun h1 k1 => ok_some k1.1)
