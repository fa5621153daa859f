theorem u_X4_hasGoose (h : HS) (p1 : Int32) (hI : IC h) : ok (f_X4_hasGoose h p1) (fun a => a.2 = h ∧ (¬ a.1 = 0 → 0 ≤ p1.toInt ∧ p1.toInt < 10)) := by
  unfold f_X4_hasGoose
  have neg : ok (f_X4_hasGoose_22 h) (fun a => a.2 = h ∧ (¬ a.1 = 0 → 0 ≤ p1.toInt ∧ p1.toInt < 10)) := by
    unfold f_X4_hasGoose_22
    exact ok_chk (Or.inl rfl) (ok_some ⟨rfl, fun e => absurd rfl e⟩)
  refine ok_if (fun c1 => neg) (fun c1 => ?_)
  refine ok_if (fun c2 => neg) (fun c2 => ?_)
  refine ok_if (fun c3 => neg) (fun c3 => ?_)
  have d1 := gi_of_nlt c1; have d3 := gi_of_nle c3
  have z0 : (0 : Int32).toInt = 0 := rfl; have z10 : (10 : Int32).toInt = 10 := rfl
  exact ok_chk (Or.inr rfl) (ok_some ⟨rfl, fun _ => by omega⟩)
theorem u_X4_hasMarket (h : HS) (p1 : Int32) (hI : IC h) : ok (f_X4_hasMarket h p1) (fun a => a.2 = h ∧ (a.1 = 0 ∨ a.1 = 1)) := by
  unfold f_X4_hasMarket
  refine ok_if (fun c1 => ?_) (fun c1 => ?_)
  · unfold f_X4_hasMarket_21
    unfold f_X4_hasMarket_22
    refine ok_chk (Or.inl rfl) ?_
    exact ok_some ⟨rfl, (Or.inl rfl)⟩
  · refine ok_if (fun c3 => ?_) (fun c3 => ?_)
    · unfold f_X4_hasMarket_21
      unfold f_X4_hasMarket_22
      refine ok_chk (Or.inl rfl) ?_
      exact ok_some ⟨rfl, (Or.inl rfl)⟩
    · refine ok_if (fun c5 => ?_) (fun c5 => ?_)
      · unfold f_X4_hasMarket_21
        unfold f_X4_hasMarket_22
        refine ok_chk (Or.inl rfl) ?_
        exact ok_some ⟨rfl, (Or.inl rfl)⟩
      · unfold f_X4_hasMarket_22
        refine ok_chk (Or.inr rfl) ?_
        exact ok_some ⟨rfl, (Or.inr rfl)⟩
theorem u_X4_ofGoose (h : HS) (p1 p2 : Int32) (hI : IC h) : ok (f_X4_ofGoose h p1 p2) (fun a => a.2 = h ∧ (p2 = 1 → a.1.toInt ≤ 99)) := by
  have neg : ok (f_X4_ofGoose_28 h) (fun a => a.2 = h ∧ (p2 = 1 → a.1.toInt ≤ 99)) := by
    unfold f_X4_ofGoose_28
    exact ok_some ⟨rfl, fun _ => (by decide : (-1 : Int32).toInt ≤ 99)⟩
  unfold f_X4_ofGoose
  refine ok_if (fun c1 => neg) (fun c1 => ?_)
  refine ok_if (fun c2 => neg) (fun c2 => ?_)
  refine ok_if (fun c3 => neg) (fun c3 => ?_)
  refine ok_if (fun c4 => neg) (fun c4 => ?_)
  refine ok_if (fun c5 => ?_) (fun c5 => neg)
  have d1 := gi_of_nlt c1; have d3 := gi_of_nle c3; have d4 := gi_of_nlt c4; have d5 := gi_of_lt c5
  have z0 : (0 : Int32).toInt = 0 := rfl; have z9 : (9 : Int32).toInt = 9 := rfl; have z10 : (10 : Int32).toInt = 10 := rfl
  have e1 := fb_mulK (x := p1) (y := 9) (k := 9) rfl (by omega) (by omega)
  have e2 := fb_addI (x := (p1 * 9)) (y := p2) (by omega) (by omega)
  refine ok_chk (by omega) (ok_some ⟨rfl, fun e => ?_⟩)
  subst e
  have z1 : (1 : Int32).toInt = 1 := rfl
  have := hI.2.1 p1.toInt.toNat (by omega)
  have e3 : (p1 * 9 + 1).toNatClampNeg = 9 * p1.toInt.toNat + 1 := by rw [Int32.toNatClampNeg]; omega
  show (eA h 1 0 ((p1 * 9 + 1).toNatClampNeg)).toInt ≤ 99
  rw [e3]; exact this
theorem FC_upd {f : Nat → Int32} (hf : FC f) (i : Nat) (v : Int32) (hv : i % 9 = 1 → v.toInt ≤ 99) : FC (upd f i v) := by
  intro g hg
  unfold upd
  by_cases e : 9 * g + 1 = i
  · rw [if_pos e]; exact hv (by omega)
  · rw [if_neg e]; exact hf g hg
theorem u_X4_setGoose (h : HS) (p1 p2 p3 : Int32) (hI : IC h) (qv : p2 = 1 → p3.toInt ≤ 99) : ok (f_X4_setGoose h p1 p2 p3) (fun a => SC h a ∧ True) := by
  unfold f_X4_setGoose
  refine ok_ob2 (u_X4_hasGoose h p1 hI) (fun r1 h1 k1 => ?_)
  have e1 : h = h1 := k1.1.symm
  subst e1
  refine ok_if (fun c2 => ok_some ⟨SC_refl hI, trivial⟩) (fun c2 => ?_)
  refine ok_if (fun c3 => ok_some ⟨SC_refl hI, trivial⟩) (fun c3 => ?_)
  refine ok_if (fun c4 => ok_some ⟨SC_refl hI, trivial⟩) (fun c4 => ?_)
  have d3 := gi_of_nlt c3; have d4 := gi_of_nle c4
  have hg := k1.2 c2
  have z0 : (0 : Int32).toInt = 0 := rfl; have z9 : (9 : Int32).toInt = 9 := rfl
  have e1 := fb_mulK (x := p1) (y := 9) (k := 9) rfl (by omega) (by omega)
  have e2 := fb_addI (x := (p1 * 9)) (y := p2) (by omega) (by omega)
  refine ok_chk (by omega) ?_
  refine ok_some ⟨sa_1_0 (SC_refl hI) (FC_upd hI.2.1 _ _ (fun hm => qv ?_)), trivial⟩
  have e3 : (p1 * 9 + p2).toNatClampNeg = (p1.toInt * 9 + p2.toInt).toNat := by rw [Int32.toNatClampNeg]; omega
  rw [e3] at hm
  have : p2.toInt = 1 := by omega
  exact Int32.toInt_inj.mp (this.trans (by decide))
theorem u_X4_ofMarket (h : HS) (p1 : Int32) (p2 : Int32) (hI : IC h) : ok (f_X4_ofMarket h p1 p2) (fun a => a.2 = h ∧ True) := by
  unfold f_X4_ofMarket
  refine ok_if (fun c1 => ?_) (fun c1 => ?_)
  · unfold f_X4_ofMarket_26
    exact ok_some ⟨rfl, trivial⟩
  · refine ok_if (fun c2 => ?_) (fun c2 => ?_)
    · unfold f_X4_ofMarket_26
      exact ok_some ⟨rfl, trivial⟩
    · refine ok_if (fun c3 => ?_) (fun c3 => ?_)
      · unfold f_X4_ofMarket_26
        exact ok_some ⟨rfl, trivial⟩
      · refine ok_if (fun c4 => ?_) (fun c4 => ?_)
        · unfold f_X4_ofMarket_26
          exact ok_some ⟨rfl, trivial⟩
        · refine ok_if (fun c5 => ?_) (fun c5 => ?_)
          · refine ok_chk (by have := IC_n (SC_refl hI).1; have := gi_of_nlt c1; have := gi_of_nle c2; have := gi_of_nle c3; have := gi_of_nlt c4; have := gi_of_lt c5; have : (0 : Int32).toInt = 0 := rfl; have : (3 : Int32).toInt = 3 := rfl; have : (4 : Int32).toInt = 4 := rfl; have := fb_rng (p1); have := fb_rng (eI h 1 4); have := fb_rng (p2); (try have := fb_mulK (x := p1) (y := 3) (k := 3) rfl (by omega) (by omega)); (try have := fb_addI (x := (p1 * 3)) (y := p2) (by omega) (by omega)); omega) ?_
            exact ok_some ⟨rfl, trivial⟩
          · unfold f_X4_ofMarket_26
            exact ok_some ⟨rfl, trivial⟩
theorem ok_ob2e {α β γ : Type} {x : Option (α × β)} {g : α → β → Option γ} {Q : γ → Prop} {a : α} {b : β} (e : x = some (a, b)) (k : ok (g a b) Q) : ok (ob2 x g) Q := by
  subst e
  exact k
theorem u_X4_addMarket (h : HS) (p1 p2 p3 : Int32) (hI : IC h) : ok (f_X4_addMarket h p1 p2 p3) (fun a => IC a.2 ∧ eI a.2 2 4 = eI h 2 4 ∧ eI a.2 1 3 = eI h 1 3 ∧ eI a.2 2 3 = eI h 2 3 ∧ ((a.1 = -1 ∧ ¬ (eI h 1 4) < 4 ∧ eI a.2 1 4 = eI h 1 4) ∨ (a.1 = eI h 1 4 ∧ (eI h 1 4) < 4 ∧ eI a.2 1 4 = eI h 1 4 + 1))) := by
  unfold f_X4_addMarket
  have hn := IC_n hI
  have z0 : (0 : Int32).toInt = 0 := rfl; have z1 : (1 : Int32).toInt = 1 := rfl; have z2 : (2 : Int32).toInt = 2 := rfl; have z4 : (4 : Int32).toInt = 4 := rfl
  refine ok_if (fun c => ?_) (fun c => ok_some ⟨hI, rfl, rfl, rfl, Or.inl ⟨rfl, c, rfl⟩⟩)
  have d := gi_of_lt c
  have e0 := fb_mulK (x := eI h 1 4) (y := 3) (k := 3) rfl (by omega) (by omega)
  have e1 := fb_addI (x := (eI h 1 4 * 3)) (y := 0) (by omega) (by omega)
  have e2 := fb_addI (x := (eI h 1 4 * 3)) (y := 1) (by omega) (by omega)
  have e3 := fb_addI (x := (eI h 1 4 * 3)) (y := 2) (by omega) (by omega)
  have e4 := fb_addI (x := (eI h 1 4)) (y := 1) (by omega) (by omega)
  refine ok_chk (by omega) (ok_chk (by omega) (ok_chk (by omega) ?_))
  refine ok_some ⟨?_, rfl, rfl, rfl, Or.inr ⟨?_, c, rfl⟩⟩
  · obtain ⟨⟨n0, n1, n2, n3, n4, n5, n6, n7, n8, n9, n10, n11, n12⟩, r1, r2, r3, r4⟩ := hI
    exact ⟨⟨n0, ⟨(by show 0 ≤ (eI h 1 4 + 1).toInt; omega), (by show (eI h 1 4 + 1).toInt ≤ 4; omega)⟩, n2, n3, n4, n5, n6, n7, n8, n9, n10, n11, n12⟩, r1, r2, r3, r4⟩
  · apply gi_eq
    show ((eI h 1 4 + 1) - 1).toInt = _
    rw [fb_subI (by omega) (by omega), e4]; omega
theorem u_X4_addGoose (h : HS) (p1 p2 : Int32) (hI : IC h) (q : p2.toInt ≤ 99) : ok (f_X4_addGoose h p1 p2) (fun a => IC a.2 ∧ eI a.2 2 4 = eI h 2 4 ∧ eI a.2 1 4 = eI h 1 4 ∧ eI a.2 2 3 = eI h 2 3 ∧ ((a.1 = -1 ∧ ¬ (eI h 1 3) < 10 ∧ eI a.2 1 3 = eI h 1 3) ∨ (a.1 = eI h 1 3 ∧ (eI h 1 3) < 10 ∧ eI a.2 1 3 = eI h 1 3 + 1))) := by
  unfold f_X4_addGoose
  have hn := IC_n hI
  have z1 : (1 : Int32).toInt = 1 := rfl; have z10 : (10 : Int32).toInt = 10 := rfl
  refine ok_if (fun c => ?_) (fun c => ok_some ⟨hI, rfl, rfl, rfl, Or.inl ⟨rfl, c, rfl⟩⟩)
  have d := gi_of_lt c
  have e4 := fb_addI (x := (eI h 1 3)) (y := 1) (by omega) (by omega)
  have i1 : IC (sI h 1 3 (eI h 1 3 + 1)) := by
    obtain ⟨⟨n0, n1, n2, n3, n4, n5, n6, n7, n8, n9, n10, n11, n12⟩, r1, r2, r3, r4⟩ := hI
    exact ⟨⟨⟨(by show 0 ≤ (eI h 1 3 + 1).toInt; omega), (by show (eI h 1 3 + 1).toInt ≤ 10; omega)⟩, n1, n2, n3, n4, n5, n6, n7, n8, n9, n10, n11, n12⟩, r1, r2, r3, r4⟩
  refine ok_ob1 (u_X4_setGoose _ (eI h 1 3) 0 p1 i1 (fun e => absurd e (by decide))) (fun h2 k2 => ?_)
  refine ok_ob1 (u_X4_setGoose _ (eI h 1 3) 1 p2 k2.1.1 (fun e => q)) (fun h3 k3 => ?_)
  have s3 := SC_trans k2.1 k3.1
  refine ok_ob1 (u_X4_setGoose _ (eI h 1 3) 2 (-1) s3.1 (fun e => absurd e (by decide))) (fun h4 k4 => ?_)
  have s4 := SC_trans s3 k4.1
  refine ok_ob1 (u_X4_setGoose _ (eI h 1 3) 3 (-1) s4.1 (fun e => absurd e (by decide))) (fun h5 k5 => ?_)
  have s5 := SC_trans s4 k5.1
  refine ok_ob1 (u_X4_setGoose _ (eI h 1 3) 4 0 s5.1 (fun e => absurd e (by decide))) (fun h6 k6 => ?_)
  have s6 := SC_trans s5 k6.1
  refine ok_ob1 (u_X4_setGoose _ (eI h 1 3) 5 (-1) s6.1 (fun e => absurd e (by decide))) (fun h7 k7 => ?_)
  have s7 := SC_trans s6 k7.1
  refine ok_ob1 (u_X4_setGoose _ (eI h 1 3) 6 (-1) s7.1 (fun e => absurd e (by decide))) (fun h8 k8 => ?_)
  have s8 := SC_trans s7 k8.1
  refine ok_ob1 (u_X4_setGoose _ (eI h 1 3) 7 (-1) s8.1 (fun e => absurd e (by decide))) (fun h9 k9 => ?_)
  have s9 := SC_trans s8 k9.1
  refine ok_ob1 (u_X4_setGoose _ (eI h 1 3) 8 0 s9.1 (fun e => absurd e (by decide))) (fun h10 k10 => ?_)
  have s10 := SC_trans s9 k10.1
  exact ok_some ⟨s10.1, s10.2.2.2.2, s10.2.2.1, s10.2.2.2.1, Or.inr ⟨rfl, c, s10.2.1⟩⟩
theorem u_X4_isHome (h : HS) (p1 : Int32) (hI : IC h) : ok (f_X4_isHome h p1) (fun a => a.2 = h ∧ (a.1 = 0 ∨ a.1 = 1)) := by
  unfold f_X4_isHome
  refine ok_ob2 (u_X4_ofGoose h p1 4 ((SC_refl hI)).1) (fun r1 h1 k1 => ?_)
  have e1 : h = h1 := k1.1.symm
  subst e1
  refine ok_if (fun c2 => ?_) (fun c2 => ?_)
  · unfold f_X4_isHome_14
    refine ok_chk (Or.inr rfl) ?_
    exact ok_some ⟨rfl, (Or.inr rfl)⟩
  · unfold f_X4_isHome_14
    refine ok_chk (Or.inl rfl) ?_
    exact ok_some ⟨rfl, (Or.inl rfl)⟩
theorem u_X4_isFree (h : HS) (p1 : Int32) (hI : IC h) : ok (f_X4_isFree h p1) (fun a => a.2 = h ∧ (a.1 = 0 ∨ a.1 = 1)) := by
  unfold f_X4_isFree
  refine ok_ob2 (u_X4_isHome h p1 ((SC_refl hI)).1) (fun r1 h1 k1 => ?_)
  have e1 : h = h1 := k1.1.symm
  subst e1
  refine ok_if (fun c2 => ?_) (fun c2 => ?_)
  · unfold f_X4_isFree_22
    unfold f_X4_isFree_23
    refine ok_chk (Or.inl rfl) ?_
    exact ok_some ⟨rfl, (Or.inl rfl)⟩
  · refine ok_ob2 (u_X4_ofGoose h p1 8 ((SC_refl hI)).1) (fun r4 h4 k4 => ?_)
    have e4 : h = h4 := k4.1.symm
    subst e4
    refine ok_if (fun c5 => ?_) (fun c5 => ?_)
    · unfold f_X4_isFree_23
      refine ok_chk (Or.inr rfl) ?_
      exact ok_some ⟨rfl, (Or.inr rfl)⟩
    · unfold f_X4_isFree_22
      unfold f_X4_isFree_23
      refine ok_chk (Or.inl rfl) ?_
      exact ok_some ⟨rfl, (Or.inl rfl)⟩
theorem u_X4_settle (h : HS) (p1 : Int32) (p2 : Int32) (hI : IC h) : ok (f_X4_settle h p1 p2) (fun a => SC h a ∧ True) := by
  unfold f_X4_settle
  refine ok_ob1 (u_X4_setGoose h p1 4 p2 ((SC_refl hI)).1 (fun e => absurd e (by decide))) (fun h1 k1 => ?_)
  have s1 : SC h h1 := SC_trans (b := h) (SC_refl hI) k1.1
  refine ok_ob1 (u_X4_setGoose h1 p1 7 (eI h1 1 7) (s1).1 (fun e => absurd e (by decide))) (fun h2 k2 => ?_)
  have s2 : SC h h2 := SC_trans (b := h1) s1 k2.1
  exact ok_some ⟨s2, trivial⟩
theorem u_X4_countFate_4 (h : HS) (x1 : Int32) (hI : IC h) : ∀ (n : Nat) (x2 : Int32) (x3 : Int32), 0 < n → (10 - (x3).toInt : Int) < (n : Int) → ok (f_X4_countFate_4  n h x1 x2 x3) (fun a => a.2 = h ∧ True) := by
  intro n
  induction n with
  | zero =>
    intro x2 x3 hn hm
    exact absurd hn (by decide)
  | succ n ih_X4_countFate_4 =>
    intro x2 x3 hn hm
    rw [f_X4_countFate_4_s]
    refine ok_if (fun c1 => ?_) (fun c1 => ?_)
    · exact ok_some ⟨rfl, trivial⟩
    · refine ok_ob2 (u_X4_ofGoose h x3 4 ((SC_refl hI)).1) (fun r2 h2 k2 => ?_)
      have e2 : h = h2 := k2.1.symm
      subst e2
      refine ok_if (fun c3 => ?_) (fun c3 => ?_)
      · unfold f_X4_countFate_25
        exact ih_X4_countFate_4 (x2 + 1) (x3 + 1) (by have := IC_n (SC_refl hI).1; have := hm; have := gi_of_nle c1; have : (1 : Int32).toInt = 1 := rfl; have := fb_rng (eI h 1 3); have := fb_rng (x3); (try have := fb_addI (x := x3) (y := 1) (by omega) (by omega)); omega) (by have := IC_n (SC_refl hI).1; have := hm; have := gi_of_nle c1; have : (1 : Int32).toInt = 1 := rfl; have := fb_rng (eI h 1 3); have := fb_rng (x3); (try have := fb_addI (x := x3) (y := 1) (by omega) (by omega)); omega)
      · unfold f_X4_countFate_25
        exact ih_X4_countFate_4 x2 (x3 + 1) (by have := IC_n (SC_refl hI).1; have := hm; have := gi_of_nle c1; have : (1 : Int32).toInt = 1 := rfl; have := fb_rng (eI h 1 3); have := fb_rng (x3); (try have := fb_addI (x := x3) (y := 1) (by omega) (by omega)); omega) (by have := IC_n (SC_refl hI).1; have := hm; have := gi_of_nle c1; have : (1 : Int32).toInt = 1 := rfl; have := fb_rng (eI h 1 3); have := fb_rng (x3); (try have := fb_addI (x := x3) (y := 1) (by omega) (by omega)); omega)
theorem u_X4_countFate (h : HS) (p1 : Int32) (hI : IC h) : ok (f_X4_countFate h p1) (fun a => a.2 = h ∧ True) := by
  unfold f_X4_countFate
  exact u_X4_countFate_4 h p1 ((SC_refl hI)).1 8589934592 0 0 (by decide) (by have : (0 : Int32).toInt = 0 := rfl; omega)
theorem u_X4_dailyNeed (h : HS) (hI : IC h) : ok (f_X4_dailyNeed h) (fun a => a.2 = h ∧ True) := by
  unfold f_X4_dailyNeed
  refine ok_ob2 (u_X4_countFate h 0 ((SC_refl hI)).1) (fun r1 h1 k1 => ?_)
  have e1 : h = h1 := k1.1.symm
  subst e1
  exact ok_some ⟨rfl, trivial⟩
theorem u_X4_eatDaily_31 {h0 : HS} : ∀ (n : Nat) (h : HS) (x2 : Int32), SC h0 h → 0 < n → (10 - (x2).toInt : Int) < (n : Int) → ok (f_X4_eatDaily_31  n h x2) (fun a => SC h0 a ∧ True) := by
  intro n
  induction n with
  | zero =>
    intro h x2 hSC hn hm
    exact absurd hn (by decide)
  | succ n ih_X4_eatDaily_31 =>
    intro h x2 hSC hn hm
    rw [f_X4_eatDaily_31_s]
    refine ok_if (fun c1 => ?_) (fun c1 => ?_)
    · exact ok_some ⟨hSC, trivial⟩
    · refine ok_ob2 (u_X4_isFree h x2 (hSC).1) (fun r2 h2 k2 => ?_)
      have e2 : h = h2 := k2.1.symm
      subst e2
      refine ok_if (fun c3 => ?_) (fun c3 => ?_)
      · exact ih_X4_eatDaily_31 h (x2 + 1) hSC (by have := IC_n hSC.1; have := hm; have := gi_of_nle c1; have : (1 : Int32).toInt = 1 := rfl; have := fb_rng (eI h 1 3); have := fb_rng (x2); (try have := fb_addI (x := x2) (y := 1) (by omega) (by omega)); omega) (by have := IC_n hSC.1; have := hm; have := gi_of_nle c1; have : (1 : Int32).toInt = 1 := rfl; have := fb_rng (eI h 1 3); have := fb_rng (x2); (try have := fb_addI (x := x2) (y := 1) (by omega) (by omega)); omega)
      · refine ok_ob1 (u_X4_settle h x2 5 (hSC).1) (fun h4 k4 => ?_)
        have s4 : SC h0 h4 := SC_trans (b := h) hSC k4.1
        refine ok_ob2 (u_X4_ofGoose h4 x2 0 (s4).1) (fun r5 h5 k5 => ?_)
        have e5 : h4 = h5 := k5.1.symm
        subst e5
        exact ok_some ⟨s4, trivial⟩
theorem u_X4_eatDaily (h : HS) (hI : IC h) : ok (f_X4_eatDaily h) (fun a => SC h a ∧ True) := by
  unfold f_X4_eatDaily
  refine ok_ob2 (u_X4_dailyNeed h ((SC_refl hI)).1) (fun r1 h1 k1 => ?_)
  have e1 : h = h1 := k1.1.symm
  subst e1
  refine ok_if (fun c2 => ?_) (fun c2 => ?_)
  · exact u_X4_eatDaily_31 (h0 := h) 8589934592 (sI h 1 5 0) 0 (SC_refl hI) (by decide) (by have : (0 : Int32).toInt = 0 := rfl; omega)
  · exact ok_some ⟨(SC_refl hI), trivial⟩
theorem u_X4_draw (h : HS) (hI : IC h) : ok (f_X4_draw h) (fun a => SC h a.2 ∧ True) := by
  unfold f_X4_draw
  exact ok_some ⟨(SC_refl hI), trivial⟩
theorem FS_keep {C S : Nat → Int32} (hC : FC C) (hS : FS S) {k b i0 i1 i2 i3 : Nat} (hb : b = 94 * k) (h0 : i0 = b + 90) (h1 : i1 = b + 91) (h2 : i2 = b + 92) (h3 : i3 = b + 93) (v0 v1 v2 v3 : Int32) : FS (upd (upd (upd (upd (va_cpy C S 0 b 90) i0 v0) i1 v1) i2 v2) i3 v3) := by
  intro s hs g hg
  unfold upd va_cpy
  rw [if_neg (by omega), if_neg (by omega), if_neg (by omega), if_neg (by omega)]
  by_cases e : b ≤ 94 * s + 9 * g + 1 ∧ 94 * s + 9 * g + 1 < b + 90
  · rw [if_pos e]
    have : 0 + (94 * s + 9 * g + 1 - b) = 9 * g + 1 := by omega
    rw [this]; exact hC g hg
  · rw [if_neg e]; exact hS s hs g hg
theorem fb_mod20 (y : Int32) : -19 ≤ (y - y / 20 * 20).toInt ∧ (y - y / 20 * 20).toInt ≤ 19 := by
  have r := fb_rng y
  have q := fb_divK (x := y) (y := 20) (k := 20) rfl (by decide)
  have m1 : (y / 20 * 20).toInt = (y / 20).toInt * 20 := fb_mulK rfl (by omega) (by omega)
  have m2 : (y - y / 20 * 20).toInt = y.toInt - (y / 20 * 20).toInt := fb_subI (by omega) (by omega)
  omega
theorem u_X4_keepStep_35 (h : HS) (hI : IC h) : ok (f_X4_keepStep_35 h) (fun a => SC h a ∧ eA a 1 0 = eA h 1 0) := by
  unfold f_X4_keepStep_35 f_X4_keepStep_69
  have rk := fb_mod20 ((eI h 1 11 + eI h 1 12) - 1)
  generalize (((eI h 1 11 + eI h 1 12) - 1) - ((eI h 1 11 + eI h 1 12) - 1) / 20 * 20) = k at *
  have m3 : (k * 94).toInt = k.toInt * 94 := fb_mulK rfl (by omega) (by omega)
  have z0 : (0 : Int32).toInt = 0 := rfl; have z1 : (1 : Int32).toInt = 1 := rfl; have z2 : (2 : Int32).toInt = 2 := rfl; have z3 : (3 : Int32).toInt = 3 := rfl; have z90 : (90 : Int32).toInt = 90 := rfl
  refine ok_if (fun c => ok_some ⟨SC_refl hI, rfl⟩) (fun c1 => ?_)
  refine ok_if (fun c2 => ?_) (fun c => ok_some ⟨SC_refl hI, rfl⟩)
  have d1 := gi_of_nlt c1
  have a0 := fb_addI (x := k * 94) (y := 90) (by omega) (by omega)
  have a1 := fb_addI (x := k * 94 + 90) (y := 1) (by omega) (by omega)
  have a2 := fb_addI (x := k * 94 + 90) (y := 2) (by omega) (by omega)
  have a3 := fb_addI (x := k * 94 + 90) (y := 3) (by omega) (by omega)
  have b0 : (k * 94).toNatClampNeg = 94 * k.toInt.toNat := by rw [Int32.toNatClampNeg]; omega
  have b1 : (k * 94 + 90).toNatClampNeg = 94 * k.toInt.toNat + 90 := by rw [Int32.toNatClampNeg]; omega
  have b2 : (k * 94 + 90 + 1).toNatClampNeg = 94 * k.toInt.toNat + 91 := by rw [Int32.toNatClampNeg]; omega
  have b3 : (k * 94 + 90 + 2).toNatClampNeg = 94 * k.toInt.toNat + 92 := by rw [Int32.toNatClampNeg]; omega
  have b4 : (k * 94 + 90 + 3).toNatClampNeg = 94 * k.toInt.toNat + 93 := by rw [Int32.toNatClampNeg]; omega
  refine ok_chk c1 (ok_chk (by omega) (ok_chk (by omega) (ok_chk (by omega) (ok_chk (by omega) (ok_chk (by omega) ?_)))))
  obtain ⟨n, r1, r2, r3, r4⟩ := hI
  refine ok_some ⟨⟨⟨n, r1, ?_, r3, r4⟩, rfl, rfl, rfl, rfl⟩, rfl⟩
  exact FS_keep (k := k.toInt.toNat) r1 r2 b0 (by omega) (by omega) (by omega) (by omega) _ _ _ _
theorem u_X4_keepStep (h : HS) (hI : IC h) : ok (f_X4_keepStep h) (fun a => SC h a ∧ eA a 1 0 = eA h 1 0) := by
  unfold f_X4_keepStep
  refine ok_if (fun c => ?_) (fun c => ?_)
  · exact ok_mono (u_X4_keepStep_35 (sI h 1 11 _) (SC_refl hI).1) (fun a k => k)
  · exact ok_mono (u_X4_keepStep_35 (sI h 1 12 _) (SC_refl hI).1) (fun a k => k)
theorem FC_back {C S : Nat → Int32} (hC : FC C) (hS : FS S) {k b n : Nat} (hb : b = 94 * k) (hk : k < 20) : FC (va_cpy S C b 0 n) := by
  intro g hg
  unfold va_cpy
  by_cases e : 0 ≤ 9 * g + 1 ∧ 9 * g + 1 < 0 + n
  · rw [if_pos e]
    have : b + (9 * g + 1 - 0) = 94 * k + 9 * g + 1 := by omega
    rw [this]; exact hS k hk g hg
  · rw [if_neg e]; exact hC g hg
theorem fb_mid {x : Int32} : ¬ (if (if 0 < x then x else 0) < 90 then (if 0 < x then x else 0) else 90 : Int32) < 0 ∧ (if (if 0 < x then x else 0) < 90 then (if 0 < x then x else 0) else 90 : Int32).toNatClampNeg ≤ 90 := by
  have z0 : (0 : Int32).toInt = 0 := rfl; have z90 : (90 : Int32).toInt = 90 := rfl
  have a := fb_itel (x := 0) (y := x) (a := x) (b := 0)
  have b := fb_itel (x := (if 0 < x then x else 0)) (y := 90) (a := (if 0 < x then x else 0)) (b := 90)
  refine ⟨gi_nlt (by omega), ?_⟩
  rw [Int32.toNatClampNeg]; omega
theorem u_X4_takeStepBack (h : HS) (hI : IC h) : ok (f_X4_takeStepBack h) (fun a => SC h a.2 ∧ (a.1 = 0 ∨ a.1 = 1)) := by
  unfold f_X4_takeStepBack f_X4_takeStepBack_42
  have rk := fb_mod20 ((eI h 1 11 + eI h 1 12) - 1)
  generalize (((eI h 1 11 + eI h 1 12) - 1) - ((eI h 1 11 + eI h 1 12) - 1) / 20 * 20) = k at *
  have m3 : (k * 94).toInt = k.toInt * 94 := fb_mulK rfl (by omega) (by omega)
  have z0 : (0 : Int32).toInt = 0 := rfl; have z1 : (1 : Int32).toInt = 1 := rfl; have z2 : (2 : Int32).toInt = 2 := rfl; have z3 : (3 : Int32).toInt = 3 := rfl; have z90 : (90 : Int32).toInt = 90 := rfl
  refine ok_if (fun c => ok_some ⟨SC_refl hI, Or.inl rfl⟩) (fun c0 => ?_)
  refine ok_if (fun c => ok_some ⟨SC_refl hI, Or.inl rfl⟩) (fun c1 => ?_)
  refine ok_if (fun c2 => ?_) (fun c => ok_some ⟨SC_refl hI, Or.inl rfl⟩)
  have d1 := gi_of_nlt c1
  have a0 := fb_addI (x := k * 94) (y := 90) (by omega) (by omega)
  have a1 := fb_addI (x := k * 94 + 90) (y := 1) (by omega) (by omega)
  have a2 := fb_addI (x := k * 94 + 90) (y := 2) (by omega) (by omega)
  have a3 := fb_addI (x := k * 94 + 90) (y := 3) (by omega) (by omega)
  have b0 : (k * 94).toNatClampNeg = 94 * k.toInt.toNat := by rw [Int32.toNatClampNeg]; omega
  have md := fb_mid (x := (eA h 1 2 ((k * 94 + 90).toNatClampNeg)) * 9)
  generalize (if (if 0 < (eA h 1 2 ((k * 94 + 90).toNatClampNeg)) * 9 then (eA h 1 2 ((k * 94 + 90).toNatClampNeg)) * 9 else 0) < 90 then (if 0 < (eA h 1 2 ((k * 94 + 90).toNatClampNeg)) * 9 then (eA h 1 2 ((k * 94 + 90).toNatClampNeg)) * 9 else 0) else 90 : Int32) = w at *
  refine ok_chk (by omega) (ok_chk c1 (ok_chk md.1 (ok_chk (by omega) (ok_chk (by omega) (ok_chk (by omega) (ok_chk (by omega) (ok_chk (by omega) ?_)))))))
  obtain ⟨n, r1, r2, r3, r4⟩ := hI
  refine ok_some ⟨⟨⟨n, ?_, r2, r3, r4⟩, rfl, rfl, rfl, rfl⟩, Or.inr rfl⟩
  exact FC_back (k := k.toInt.toNat) r1 r2 b0 (by omega)
theorem FC_cp {C D : Nat → Int32} (hC : FC C) : FC (va_cpy C D 0 0 90) := by
  intro g hg
  unfold va_cpy
  rw [if_pos (by omega)]
  have : 0 + (9 * g + 1 - 0) = 9 * g + 1 := by omega
  rw [this]; exact hC g hg
theorem FS_cp {C D : Nat → Int32} (hC : FS C) : FS (va_cpy C D 0 0 1880) := by
  intro s hs g hg
  unfold va_cpy
  rw [if_pos (by omega)]
  have : 0 + (94 * s + 9 * g + 1 - 0) = 94 * s + 9 * g + 1 := by omega
  rw [this]; exact hC s hs g hg
theorem u_X4_copyFrom_i (h : HS) (hI : IC h) : ok (f_X4_copyFrom_i h) (fun a => IC a ∧ eI a 1 3 = eI h 1 3 ∧ eI a 1 4 = eI h 1 4 ∧ eI a 2 3 = eI h 1 3 ∧ eI a 2 4 = eI h 1 4) := by
  obtain ⟨⟨n0, n1, n2, n3, n4, n5, n6, n7, n8, n9, n10, n11, n12⟩, r1, r2, r3, r4⟩ := hI
  unfold f_X4_copyFrom_i
  exact ok_some ⟨⟨⟨n0, n1, n0, n1, n4, n5, n6, n7, n8, n9, n10, n11, n12⟩, r1, r2, FC_cp r1, FS_cp r2⟩, rfl, rfl, rfl, rfl⟩
theorem u_X4_copyFrom_b (h : HS) (hI : IC h) : ok (f_X4_copyFrom_b h) (fun a => IC a ∧ eI a 1 3 = eI h 2 3 ∧ eI a 1 4 = eI h 2 4 ∧ eI a 2 3 = eI h 2 3 ∧ eI a 2 4 = eI h 2 4) := by
  obtain ⟨⟨n0, n1, n2, n3, n4, n5, n6, n7, n8, n9, n10, n11, n12⟩, r1, r2, r3, r4⟩ := hI
  unfold f_X4_copyFrom_b
  exact ok_some ⟨⟨⟨n2, n3, n2, n3, n4, n5, n6, n7, n8, n9, n10, n11, n12⟩, FC_cp r3, FS_cp r4, r3, r4⟩, rfl, rfl, rfl, rfl⟩
theorem u_X8_isDigit (p1 : Int32) : ok (f_X8_isDigit p1) (fun a => (a = 0 ∨ a = 1)) := by
  unfold f_X8_isDigit
  refine ok_if (fun c1 => ?_) (fun c1 => ?_)
  · unfold f_X8_isDigit_14
    unfold f_X8_isDigit_15
    refine ok_chk (Or.inl rfl) ?_
    exact ok_some (Or.inl rfl)
  · refine ok_if (fun c3 => ?_) (fun c3 => ?_)
    · unfold f_X8_isDigit_14
      unfold f_X8_isDigit_15
      refine ok_chk (Or.inl rfl) ?_
      exact ok_some (Or.inl rfl)
    · unfold f_X8_isDigit_15
      refine ok_chk (Or.inr rfl) ?_
      exact ok_some (Or.inr rfl)
theorem u_X8_isLetter (p1 : Int32) : ok (f_X8_isLetter p1) (fun a => (a = 0 ∨ a = 1)) := by
  unfold f_X8_isLetter
  refine ok_if (fun c1 => ?_) (fun c1 => ?_)
  · unfold f_X8_isLetter_14
    unfold f_X8_isLetter_15
    refine ok_chk (Or.inl rfl) ?_
    exact ok_some (Or.inl rfl)
  · refine ok_if (fun c3 => ?_) (fun c3 => ?_)
    · unfold f_X8_isLetter_14
      unfold f_X8_isLetter_15
      refine ok_chk (Or.inl rfl) ?_
      exact ok_some (Or.inl rfl)
    · unfold f_X8_isLetter_15
      refine ok_chk (Or.inr rfl) ?_
      exact ok_some (Or.inr rfl)
theorem u_X8_isQuill (p1 : Int32) (p2 : Int32) : ok (f_X8_isQuill p1 p2) (fun a => (a = 0 ∨ a = 1)) := by
  unfold f_X8_isQuill
  refine ok_ob1 (u_X8_isLetter p1) (fun r1 k1 => ?_)
  refine ok_if (fun c2 => ?_) (fun c2 => ?_)
  · unfold f_X8_isQuill_20
    unfold f_X8_isQuill_21
    refine ok_chk (Or.inl rfl) ?_
    exact ok_some (Or.inl rfl)
  · refine ok_if (fun c4 => ?_) (fun c4 => ?_)
    · unfold f_X8_isQuill_20
      unfold f_X8_isQuill_21
      refine ok_chk (Or.inl rfl) ?_
      exact ok_some (Or.inl rfl)
    · refine ok_if (fun c6 => ?_) (fun c6 => ?_)
      · unfold f_X8_isQuill_20
        unfold f_X8_isQuill_21
        refine ok_chk (Or.inl rfl) ?_
        exact ok_some (Or.inl rfl)
      · unfold f_X8_isQuill_21
        refine ok_chk (Or.inr rfl) ?_
        exact ok_some (Or.inr rfl)
theorem u_X8_halvesOf (p1 : Int32) : ok (f_X8_halvesOf p1) (fun a => (0 ≤ (a).toInt ∧ (a).toInt ≤ 3)) := by
  unfold f_X8_halvesOf
  refine ok_if (fun c1 => ?_) (fun c1 => ?_)
  · exact ok_some (by first | decide | (have : (3 : Int32).toInt = 3 := rfl; omega))
  · refine ok_if (fun c2 => ?_) (fun c2 => ?_)
    · unfold f_X8_halvesOf_16
      unfold f_X8_halvesOf_21
      exact ok_some (by first | decide | (have := gi_of_ne c1; have := gi_of_eq c2; have : (0 : Int32).toInt = 0 := rfl; have : (1 : Int32).toInt = 1 := rfl; have := fb_rng (p1); omega))
    · refine ok_if (fun c3 => ?_) (fun c3 => ?_)
      · unfold f_X8_halvesOf_16
        unfold f_X8_halvesOf_21
        exact ok_some (by first | decide | (have := gi_of_ne c1; have := gi_of_ne c2; have := gi_of_eq c3; have : (0 : Int32).toInt = 0 := rfl; have : (1 : Int32).toInt = 1 := rfl; have : (2 : Int32).toInt = 2 := rfl; have := fb_rng (p1); omega))
      · unfold f_X8_halvesOf_21
        exact ok_some (by first | decide | (have : (0 : Int32).toInt = 0 := rfl; omega))
theorem fb_lgp {x : Int64} (h : ¬ lg_cmp x 0 ≤ 0) : ¬ x = 0 := by
  intro e
  subst e
  exact h (by decide)
theorem u_X8_commonDivisor_9  : ∀ (n : Nat) (x4 : Int64) (x6 : Int64) (x8 : Int32), 0 < n → (200 - x8.toInt : Int) < (n : Int) → ok (f_X8_commonDivisor_9  n x4 x6 x8) (fun a => ¬ a = 0) := by
  intro n
  induction n with
  | zero =>
    intro x4 x6 x8 hn hm
    exact absurd hn (by decide)
  | succ n ih_X8_commonDivisor_9 =>
    intro x4 x6 x8 hn hm
    rw [f_X8_commonDivisor_9_s]
    refine ok_if (fun c1 => ?_) (fun c1 => ?_)
    · unfold f_X8_commonDivisor_45
      refine ok_if (fun c2 => ?_) (fun c2 => ?_)
      · unfold f_X8_commonDivisor_58
        exact ok_some (by decide)
      · unfold f_X8_commonDivisor_58
        exact ok_some (fb_lgp c2)
    · refine ok_if (fun c3 => ?_) (fun c3 => ?_)
      · unfold f_X8_commonDivisor_45
        refine ok_if (fun c4 => ?_) (fun c4 => ?_)
        · unfold f_X8_commonDivisor_58
          exact ok_some (by decide)
        · unfold f_X8_commonDivisor_58
          exact ok_some (fb_lgp c4)
      · refine ok_chk (fb_lgz c3) ?_
        exact ih_X8_commonDivisor_9 x6 (x4 - x4 / x6 * x6) (x8 + 1) (by have := hm; have := gi_of_nle c1; have : (1 : Int32).toInt = 1 := rfl; have : (200 : Int32).toInt = 200 := rfl; have := fb_rng (x8); (try have := fb_addI (x := x8) (y := 1) (by omega) (by omega)); omega) (by have := hm; have := gi_of_nle c1; have : (1 : Int32).toInt = 1 := rfl; have : (200 : Int32).toInt = 200 := rfl; have := fb_rng (x8); (try have := fb_addI (x := x8) (y := 1) (by omega) (by omega)); omega)
theorem u_X8_commonDivisor (p1 : Int64) (p2 : Int64) : ok (f_X8_commonDivisor p1 p2) (fun a => ¬ a = 0) := by
  unfold f_X8_commonDivisor
  exact u_X8_commonDivisor_9 8589934592 p1 p2 0 (by decide) (by have : (0 : Int32).toInt = 0 := rfl; omega)
theorem u_X7_isBlank (p1 : Int32) : ok (f_X7_isBlank p1) (fun a => (a = 0 ∨ a = 1)) := by
  unfold f_X7_isBlank
  refine ok_if (fun c1 => ?_) (fun c1 => ?_)
  · unfold f_X7_isBlank_12
    unfold f_X7_isBlank_17
    refine ok_chk (Or.inr rfl) ?_
    exact ok_some (Or.inr rfl)
  · refine ok_if (fun c3 => ?_) (fun c3 => ?_)
    · unfold f_X7_isBlank_12
      unfold f_X7_isBlank_17
      refine ok_chk (Or.inr rfl) ?_
      exact ok_some (Or.inr rfl)
    · unfold f_X7_isBlank_17
      refine ok_chk (Or.inl rfl) ?_
      exact ok_some (Or.inl rfl)
theorem u_X7_isAlpha (p1 : Int32) : ok (f_X7_isAlpha p1) (fun a => (a = 0 ∨ a = 1)) := by
  unfold f_X7_isAlpha
  refine ok_if (fun c1 => ?_) (fun c1 => ?_)
  · unfold f_X7_isAlpha_12
    refine ok_if (fun c2 => ?_) (fun c2 => ?_)
    · unfold f_X7_isAlpha_28
      unfold f_X7_isAlpha_29
      refine ok_chk (Or.inl rfl) ?_
      exact ok_some (Or.inl rfl)
    · refine ok_if (fun c4 => ?_) (fun c4 => ?_)
      · unfold f_X7_isAlpha_28
        unfold f_X7_isAlpha_29
        refine ok_chk (Or.inl rfl) ?_
        exact ok_some (Or.inl rfl)
      · unfold f_X7_isAlpha_24
        unfold f_X7_isAlpha_29
        refine ok_chk (Or.inr rfl) ?_
        exact ok_some (Or.inr rfl)
  · refine ok_if (fun c7 => ?_) (fun c7 => ?_)
    · unfold f_X7_isAlpha_24
      unfold f_X7_isAlpha_29
      refine ok_chk (Or.inr rfl) ?_
      exact ok_some (Or.inr rfl)
    · unfold f_X7_isAlpha_12
      refine ok_if (fun c9 => ?_) (fun c9 => ?_)
      · unfold f_X7_isAlpha_28
        unfold f_X7_isAlpha_29
        refine ok_chk (Or.inl rfl) ?_
        exact ok_some (Or.inl rfl)
      · refine ok_if (fun c11 => ?_) (fun c11 => ?_)
        · unfold f_X7_isAlpha_28
          unfold f_X7_isAlpha_29
          refine ok_chk (Or.inl rfl) ?_
          exact ok_some (Or.inl rfl)
        · unfold f_X7_isAlpha_24
          unfold f_X7_isAlpha_29
          refine ok_chk (Or.inr rfl) ?_
          exact ok_some (Or.inr rfl)
theorem u_X7_isNumeral (p1 : Int32) : ok (f_X7_isNumeral p1) (fun a => (a = 0 ∨ a = 1)) := by
  unfold f_X7_isNumeral
  refine ok_if (fun c1 => ?_) (fun c1 => ?_)
  · unfold f_X7_isNumeral_16
    unfold f_X7_isNumeral_17
    refine ok_chk (Or.inl rfl) ?_
    exact ok_some (Or.inl rfl)
  · refine ok_if (fun c3 => ?_) (fun c3 => ?_)
    · unfold f_X7_isNumeral_16
      unfold f_X7_isNumeral_17
      refine ok_chk (Or.inl rfl) ?_
      exact ok_some (Or.inl rfl)
    · unfold f_X7_isNumeral_17
      refine ok_chk (Or.inr rfl) ?_
      exact ok_some (Or.inr rfl)
theorem u_X7_signKind (p1 : Int32) : ok (f_X7_signKind p1) (fun a => True) := by
  unfold f_X7_signKind
  refine ok_if (fun c1 => ?_) (fun c1 => ?_)
  · exact ok_some trivial
  · refine ok_if (fun c2 => ?_) (fun c2 => ?_)
    · exact ok_some trivial
    · refine ok_if (fun c3 => ?_) (fun c3 => ?_)
      · exact ok_some trivial
      · refine ok_if (fun c4 => ?_) (fun c4 => ?_)
        · exact ok_some trivial
        · refine ok_if (fun c5 => ?_) (fun c5 => ?_)
          · exact ok_some trivial
          · refine ok_if (fun c6 => ?_) (fun c6 => ?_)
            · exact ok_some trivial
            · refine ok_if (fun c7 => ?_) (fun c7 => ?_)
              · exact ok_some trivial
              · refine ok_if (fun c8 => ?_) (fun c8 => ?_)
                · exact ok_some trivial
                · refine ok_if (fun c9 => ?_) (fun c9 => ?_)
                  · exact ok_some trivial
                  · refine ok_if (fun c10 => ?_) (fun c10 => ?_)
                    · exact ok_some trivial
                    · refine ok_if (fun c11 => ?_) (fun c11 => ?_)
                      · exact ok_some trivial
                      · refine ok_if (fun c12 => ?_) (fun c12 => ?_)
                        · exact ok_some trivial
                        · refine ok_if (fun c13 => ?_) (fun c13 => ?_)
                          · exact ok_some trivial
                          · refine ok_if (fun c14 => ?_) (fun c14 => ?_)
                            · exact ok_some trivial
                            · refine ok_if (fun c15 => ?_) (fun c15 => ?_)
                              · exact ok_some trivial
                              · refine ok_if (fun c16 => ?_) (fun c16 => ?_)
                                · exact ok_some trivial
                                · refine ok_if (fun c17 => ?_) (fun c17 => ?_)
                                  · exact ok_some trivial
                                  · refine ok_if (fun c18 => ?_) (fun c18 => ?_)
                                    · exact ok_some trivial
                                    · refine ok_if (fun c19 => ?_) (fun c19 => ?_)
                                      · exact ok_some trivial
                                      · refine ok_if (fun c20 => ?_) (fun c20 => ?_)
                                        · exact ok_some trivial
                                        · refine ok_if (fun c21 => ?_) (fun c21 => ?_)
                                          · exact ok_some trivial
                                          · refine ok_if (fun c22 => ?_) (fun c22 => ?_)
                                            · exact ok_some trivial
                                            · refine ok_if (fun c23 => ?_) (fun c23 => ?_)
                                              · exact ok_some trivial
                                              · refine ok_if (fun c24 => ?_) (fun c24 => ?_)
                                                · exact ok_some trivial
                                                · refine ok_if (fun c25 => ?_) (fun c25 => ?_)
                                                  · exact ok_some trivial
                                                  · refine ok_if (fun c26 => ?_) (fun c26 => ?_)
                                                    · exact ok_some trivial
                                                    · refine ok_if (fun c27 => ?_) (fun c27 => ?_)
                                                      · exact ok_some trivial
                                                      · refine ok_if (fun c28 => ?_) (fun c28 => ?_)
                                                        · exact ok_some trivial
                                                        · exact ok_some trivial
theorem u_X2_levelOf (p1 : Int32) : ok (f_X2_levelOf p1) (fun a => True) := by
  unfold f_X2_levelOf
  refine ok_if (fun c1 => ?_) (fun c1 => ?_)
  · exact ok_some trivial
  · refine ok_if (fun c2 => ?_) (fun c2 => ?_)
    · exact ok_some trivial
    · refine ok_if (fun c3 => ?_) (fun c3 => ?_)
      · exact ok_some trivial
      · refine ok_if (fun c4 => ?_) (fun c4 => ?_)
        · exact ok_some trivial
        · refine ok_if (fun c5 => ?_) (fun c5 => ?_)
          · exact ok_some trivial
          · refine ok_if (fun c6 => ?_) (fun c6 => ?_)
            · exact ok_some trivial
            · refine ok_if (fun c7 => ?_) (fun c7 => ?_)
              · exact ok_some trivial
              · refine ok_if (fun c8 => ?_) (fun c8 => ?_)
                · exact ok_some trivial
                · refine ok_if (fun c9 => ?_) (fun c9 => ?_)
                  · exact ok_some trivial
                  · refine ok_if (fun c10 => ?_) (fun c10 => ?_)
                    · exact ok_some trivial
                    · refine ok_if (fun c11 => ?_) (fun c11 => ?_)
                      · exact ok_some trivial
                      · refine ok_if (fun c12 => ?_) (fun c12 => ?_)
                        · exact ok_some trivial
                        · refine ok_if (fun c13 => ?_) (fun c13 => ?_)
                          · exact ok_some trivial
                          · refine ok_if (fun c14 => ?_) (fun c14 => ?_)
                            · exact ok_some trivial
                            · refine ok_if (fun c15 => ?_) (fun c15 => ?_)
                              · exact ok_some trivial
                              · refine ok_if (fun c16 => ?_) (fun c16 => ?_)
                                · exact ok_some trivial
                                · refine ok_if (fun c17 => ?_) (fun c17 => ?_)
                                  · exact ok_some trivial
                                  · refine ok_if (fun c18 => ?_) (fun c18 => ?_)
                                    · exact ok_some trivial
                                    · refine ok_if (fun c19 => ?_) (fun c19 => ?_)
                                      · exact ok_some trivial
                                      · exact ok_some trivial
theorem u_X1_joined (p1 : Int32) (p2 : Int64) (p3 : Int64) : ok (f_X1_joined p1 p2 p3) (fun a => True) := by
  unfold f_X1_joined
  refine ok_if (fun c1 => ?_) (fun c1 => ?_)
  · refine ok_if (fun c2 => ?_) (fun c2 => ?_)
    · unfold f_X1_joined_153
      exact ok_some trivial
    · unfold f_X1_joined_153
      exact ok_some trivial
  · refine ok_if (fun c3 => ?_) (fun c3 => ?_)
    · refine ok_if (fun c4 => ?_) (fun c4 => ?_)
      · unfold f_X1_joined_165
        exact ok_some trivial
      · unfold f_X1_joined_165
        exact ok_some trivial
    · refine ok_if (fun c5 => ?_) (fun c5 => ?_)
      · refine ok_if (fun c6 => ?_) (fun c6 => ?_)
        · unfold f_X1_joined_177
          exact ok_some trivial
        · unfold f_X1_joined_177
          exact ok_some trivial
      · refine ok_if (fun c7 => ?_) (fun c7 => ?_)
        · refine ok_if (fun c8 => ?_) (fun c8 => ?_)
          · unfold f_X1_joined_189
            exact ok_some trivial
          · unfold f_X1_joined_189
            exact ok_some trivial
        · refine ok_if (fun c9 => ?_) (fun c9 => ?_)
          · refine ok_if (fun c10 => ?_) (fun c10 => ?_)
            · unfold f_X1_joined_201
              exact ok_some trivial
            · unfold f_X1_joined_201
              exact ok_some trivial
          · refine ok_if (fun c11 => ?_) (fun c11 => ?_)
            · refine ok_if (fun c12 => ?_) (fun c12 => ?_)
              · unfold f_X1_joined_213
                exact ok_some trivial
              · unfold f_X1_joined_213
                exact ok_some trivial
            · refine ok_if (fun c13 => ?_) (fun c13 => ?_)
              · exact ok_some trivial
              · refine ok_if (fun c14 => ?_) (fun c14 => ?_)
                · exact ok_some trivial
                · refine ok_if (fun c15 => ?_) (fun c15 => ?_)
                  · exact ok_some trivial
                  · refine ok_if (fun c16 => ?_) (fun c16 => ?_)
                    · refine ok_if (fun c17 => ?_) (fun c17 => ?_)
                      · unfold f_X1_joined_141
                        exact ok_some trivial
                      · refine ok_chk (fb_lgz c17) ?_
                        unfold f_X1_joined_141
                        exact ok_some trivial
                    · refine ok_if (fun c19 => ?_) (fun c19 => ?_)
                      · exact ok_some trivial
                      · refine ok_if (fun c20 => ?_) (fun c20 => ?_)
                        · exact ok_some trivial
                        · refine ok_if (fun c21 => ?_) (fun c21 => ?_)
                          · exact ok_some trivial
                          · refine ok_if (fun c22 => ?_) (fun c22 => ?_)
                            · exact ok_some trivial
                            · refine ok_if (fun c23 => ?_) (fun c23 => ?_)
                              · exact ok_some trivial
                              · refine ok_if (fun c24 => ?_) (fun c24 => ?_)
                                · exact ok_some trivial
                                · refine ok_if (fun c25 => ?_) (fun c25 => ?_)
                                  · exact ok_some trivial
                                  · refine ok_if (fun c26 => ?_) (fun c26 => ?_)
                                    · exact ok_some trivial
                                    · refine ok_if (fun c27 => ?_) (fun c27 => ?_)
                                      · exact ok_some trivial
                                      · refine ok_if (fun c28 => ?_) (fun c28 => ?_)
                                        · exact ok_some trivial
                                        · refine ok_if (fun c29 => ?_) (fun c29 => ?_)
                                          · exact ok_some trivial
                                          · refine ok_if (fun c30 => ?_) (fun c30 => ?_)
                                            · exact ok_some trivial
                                            · refine ok_if (fun c31 => ?_) (fun c31 => ?_)
                                              · exact ok_some trivial
                                              · refine ok_if (fun c32 => ?_) (fun c32 => ?_)
                                                · exact ok_some trivial
                                                · refine ok_if (fun c33 => ?_) (fun c33 => ?_)
                                                  · exact ok_some trivial
                                                  · exact ok_some trivial
theorem u_X3_cell (p1 : Int32) (p2 : Int32) (p3 : Int32) : ok (f_X3_cell p1 p2 p3) (fun a => a = ((((p1 * 3) + p2) * 5) + p3)) := by
  unfold f_X3_cell
  exact ok_some rfl
