theorem wt_below {F W : Int} {fr wo wf : Nat → Int32} (h : WT F W fr wo wf) (h0 : 0 ≤ W) (ht : W = 0 ∨ ¬ ((wf (W.toNat - 1)).toInt = F ∧ 3 ≤ rk (wo (W.toNat - 1)))) (n2 : ¬ fr (F.toNat - 1) = 2) : ∀ i : Nat, (i : Int) < W → (wf i).toInt ≤ F - 1 := by
  intro i hi
  apply Int.not_lt.mp
  intro c
  have k := h i hi
  have j := h (W.toNat - 1) (by omega)
  have m := k.2.2.2.2.2.2 (W.toNat - 1) (by omega) (by omega)
  have k2 := k.2.1; have j2 := j.2.1
  have ef : (wf (W.toNat - 1)).toInt = F := by omega
  rcases ht with ht | ht
  · omega
  · rcases j.2.2.2.1 with q | q
    · exact ht ⟨ef, q⟩
    · rw [ef] at q; exact n2 q
theorem HB_FE {h c : HS} (fe : FE h c) (b : HB h) : HB c := by
  unfold HB LX
  rw [fe.1 19 (by omega) (by omega), fe.1 16 (by omega) (by omega), fe.1 15 (by omega) (by omega), fe.1 14 (by omega) (by omega), fe.1 17 (by omega) (by omega), fe.1 18 (by omega) (by omega), fe.1 21 (by omega) (by omega), fe.1 29 (by omega) (by omega)]
  exact b
theorem OPS_at {F O r : Int} {fr cm : Nat → Int32} (h : OPS F O r fr cm) : (¬ fr (F.toNat - 1) = 2 ∧ ¬ fr (F.toNat - 1) = 3) ∧ ((fr (F.toNat - 1) = 6 ∨ fr (F.toNat - 1) = 7) → OPS (F - 1) (O - 1) r fr cm) ∧ (fr (F.toNat - 1) = 4 → 2 ≤ F ∧ fr 0 = 2 ∧ (∀ i : Nat, 1 ≤ i → (i : Int) < F - 1 → fr i = 3) ∧ O = F - 2 ∧ r = 0) ∧ (fr (F.toNat - 1) = 5 → 2 ≤ F ∧ fr 0 = 2 ∧ (∀ i : Nat, 1 ≤ i → (i : Int) < F - 1 → fr i = 3) ∧ O = F - 2 ∧ r = 1 ∧ BN (cm F.toNat)) ∧ (fr (F.toNat - 1) = 1 → F = 1 ∧ O = 0 ∧ r = 0) := by
  obtain ⟨c, h1, h2, h3⟩ := h
  by_cases e : c = F.toNat - 1
  · have eF : c + 1 = F.toNat := by omega
    rw [← e]
    rcases h3 with ⟨a, b, d, g⟩ | ⟨a, b, d, g, x⟩
    · subst a
      rw [b]
      exact ⟨⟨by decide, by decide⟩, fun q => by rcases q with q | q <;> exact absurd q (by decide), fun q => absurd q (by decide), fun q => absurd q (by decide), fun _ => by omega⟩
    · rcases x with ⟨x, y⟩ | ⟨x, y, z⟩
      · rw [x]
        exact ⟨⟨by decide, by decide⟩, fun q => by rcases q with q | q <;> exact absurd q (by decide), fun _ => ⟨by omega, b, fun i h1 h2 => d i h1 (by omega), g, y⟩, fun q => absurd q (by decide), fun q => absurd q (by decide)⟩
      · rw [x]
        rw [eF] at z
        exact ⟨⟨by decide, by decide⟩, fun q => by rcases q with q | q <;> exact absurd q (by decide), fun q => absurd q (by decide), fun _ => ⟨by omega, b, fun i h1 h2 => d i h1 (by omega), g, y, z⟩, fun q => absurd q (by decide)⟩
  · have t := h2 (F.toNat - 1) (by omega) (by omega)
    refine ⟨?_, fun _ => ⟨c, by omega, fun i hi hi2 => h2 i hi (by omega), ?_⟩, ?_, ?_, ?_⟩
    · rcases t with t | t <;> rw [t] <;> exact ⟨by decide, by decide⟩
    · rcases h3 with ⟨a, b, d, g⟩ | ⟨a, b, d, g, x⟩
      · exact Or.inl ⟨a, b, by omega, g⟩
      · exact Or.inr ⟨a, b, d, by omega, x⟩
    · intro q; rcases t with t | t <;> (rw [t] at q; exact absurd q (by decide))
    · intro q; rcases t with t | t <;> (rw [t] at q; exact absurd q (by decide))
    · intro q; rcases t with t | t <;> (rw [t] at q; exact absurd q (by decide))
theorem u_isAsking (p : Int32) : ok (f_X9_isAsking p) (fun a => ¬ a = 0 → BN p) := by
  unfold f_X9_isAsking f_X9_isAsking_38 f_X9_isAsking_43
  have yes : ∀ q : Int32, BN q → p = q → ok (if (1 : Int32) = 0 ∨ (1 : Int32) = 1 then some (1 : Int32) else none) (fun a => ¬ a = 0 → BN p) := fun q bq e => ok_chk (Or.inr rfl) (ok_some (fun _ => by rw [e]; exact bq))
  refine ok_if (fun c => yes 60 ⟨by decide, by decide, by decide, by decide, by decide⟩ c) (fun _ => ?_)
  refine ok_if (fun c => yes 62 ⟨by decide, by decide, by decide, by decide, by decide⟩ c) (fun _ => ?_)
  refine ok_if (fun c => yes 61 ⟨by decide, by decide, by decide, by decide, by decide⟩ c) (fun _ => ?_)
  refine ok_if (fun c => yes 35 ⟨by decide, by decide, by decide, by decide, by decide⟩ c) (fun _ => ?_)
  refine ok_if (fun c => yes 300 ⟨by decide, by decide, by decide, by decide, by decide⟩ c) (fun _ => ?_)
  refine ok_if (fun c => yes 301 ⟨by decide, by decide, by decide, by decide, by decide⟩ c) (fun _ => ?_)
  exact ok_chk (Or.inl rfl) (ok_some (fun e => absurd rfl e))
/-! goesOn -/
theorem ms_two {h a : HS} (s : eI h 0 28 = 2) (t : eI a 0 28 = 3) (e : eI a 0 16 = eI h 0 16) : MS a < MS h := by
  unfold MS
  rw [s, t, e, if_neg (by decide), if_pos (by decide)]; omega
theorem u_goesOn_49 (h : HS) (b : HB h) (n7 : ¬ eA h 0 23 ((eI h 0 22).toInt.toNat - 1) = 7) {r : Int} (p : P2 h r) (c3 : eI h 0 17 = 3) (bn : BN (eI h 0 18)) (r3 : 3 ≤ rk (eI h 0 18)) : ok (f_X9_goesOn_49 h) (fun a => PQ h a) := by
  unfold f_X9_goesOn_49 f_X9_goesOn_250
  obtain ⟨q, k, c, n23⟩ := p
  have o := OPS_r q
  have t := OPS_at q
  refine ok_ob1 (u_waitsFor h _ (d := r) (b := (eI h 0 21).toInt + r) b (by rw [c3]; decide) (by omega) (by omega) k c bn (by omega) (Or.inl r3) t.1.2 n7) (fun a ka => ok_some ?_)
  obtain ⟨a1, a2, a3, a4, a5, a6, a7, a8, a9, a10⟩ := ka
  refine ⟨PF_sI a1 (by omega), Or.inr ⟨⟨⟨a2.1, a2.2.1, a2.2.2.1, a2.2.2.2⟩, Or.inr (Or.inl ⟨rfl, r, ?_, ?_, a4, ?_⟩)⟩, ms_lt (Or.inr (Or.inr (Or.inr trivial))) a5⟩⟩
  · show OPS (eI a 0 22).toInt (eI a 0 21).toInt r (eA a 0 23) (eA a 0 24)
    rw [a6, a7, a9, a10]; exact q
  · show HK a ((eI a 0 21).toInt + r)
    rw [a6]; exact a3
  · show (eI a 0 29).toInt ≤ 23
    rw [a8]; exact n23
theorem u_goesOn_181 (h : HS) (b : HB h) (s2 : eI h 0 28 = 2) {r : Int} (p : P2 h r) : ok (f_X9_goesOn_181 h (eA h 0 23 ((eI h 0 22).toInt.toNat - 1))) (fun a => PQ h a) := by
  unfold f_X9_goesOn_181 f_X9_goesOn_245 f_X9_goesOn_250
  obtain ⟨q, k, c, n23⟩ := p
  have o := OPS_r q
  have t := OPS_at q
  have hb := b.2.2.1
  have er : ok (ob1 (f_X9_errs h 1) (fun h_31 => some h_31)) (fun a => PQ h a) := ok_ob1 (err_ok 1 (by decide) b) (fun a ka => ok_some ka)
  have z1 : (1 : Int32).toInt = 1 := rfl; have z3 : (3 : Int32).toInt = 3 := rfl
  refine ok_if (fun c5 => ?_) (fun _ => ok_if (fun c1 => ?_) (fun _ => er))
  · obtain ⟨x1, x2, x3, x4, x5, x6⟩ := t.2.2.2.1 c5
    subst x5
    refine ok_ob1 (u_works 3 (by omega) (by omega) k c) (fun h1 k1 => ?_)
    obtain ⟨fe, hk, hc, tp⟩ := k1
    have f22 : eI h1 0 22 = eI h 0 22 := fe.1 22 (by omega) (by omega)
    have f21 : eI h1 0 21 = eI h 0 21 := fe.1 21 (by omega) (by omega)
    have f23 : eA h1 0 23 = eA h 0 23 := fe.2 23 (by omega) (by omega)
    have f24 : eA h1 0 24 = eA h 0 24 := fe.2 24 (by omega) (by omega)
    have f16 : eI h1 0 16 = eI h 0 16 := fe.1 16 (by omega) (by omega)
    have f29 : eI h1 0 29 = eI h 0 29 := fe.1 29 (by omega) (by omega)
    refine ok_chk (by rw [f22]; omega) ?_
    have b22 : (eI h1 0 22).toNatClampNeg = (eI h 0 22).toInt.toNat := by rw [Int32.toNatClampNeg, f22]
    rw [b22, f24]
    have a22 : (eI h1 0 22 - 1).toInt = (eI h 0 22).toInt - 1 := by rw [f22, fb_subI (by omega) (by omega), z1]
    have w40 := WT_le hk.2.1 hk.2.2.2.2.2.2
    have w0 := hk.1
    have be := wt_below hk.2.1 hk.1 tp (by rw [f22, f23]; exact t.1.1)
    have k2 : HK (sI h1 0 22 (eI h1 0 22 - 1)) ((eI h 0 21).toInt + 1) := by
      obtain ⟨q1, q2, q3, q4, q5, q6, q7⟩ := hk
      show K0 (eI h1 0 16).toInt (eI h1 0 25).toInt (eI h1 0 36).toInt (eI h1 0 29).toInt (eI h1 0 22 - 1).toInt ((eI h 0 21).toInt + 1) (eA h1 0 23) (eA h1 0 26) (eA h1 0 27) (eA h1 0 31) (eA h1 0 32) (eA h1 0 37) (eA h1 0 38)
      rw [a22]
      refine ⟨q1, WT_fr q2 (fun i hi => ?_) (fun i hi => rfl), q3, q4, q5, q6, by omega⟩
      have := be i hi
      rw [f22] at this
      exact this
    have kn := hk.2.2.1; have kt := hk.2.2.2.1; have kt2 := hk.2.2.2.2.1
    rw [em_eq (h := sI h1 0 22 (eI h1 0 22 - 1)) (o := eA h 0 24 (eI h 0 22).toInt.toNat) (v := 0) (show 0 ≤ (eI h1 0 36).toInt from kn) (show (eI h1 0 36).toInt < 400 by omega)]
    show ok (ob1 (f_X9_askIsOver (EM (sI h1 0 22 (eI h1 0 22 - 1)) (eA h 0 24 (eI h 0 22).toInt.toNat) 0)) _) _
    have st : ST (eA h 0 24 (eI h 0 22).toInt.toNat) 0 ((eI h1 0 25).toInt + (1 + 1)) ((eI h1 0 25).toInt + 1) := Or.inr (Or.inr ⟨x6.1, x6.2.1, x6.2.2.1, x6.2.2.2.1, x6.2.2.2.2, by omega, by omega, by omega⟩)
    have b1 := HB_FE fe b
    refine ok_ob1 (u_askIsOver (h := h) (EM (sI h1 0 22 (eI h1 0 22 - 1)) (eA h 0 24 (eI h 0 22).toInt.toNat) 0) (PF_EM (PF_sI (PF_FE fe) (by omega))) ⟨b1.1, b1.2.1, b1.2.2.1, b1.2.2.2⟩ ?_ ?_ ?_ ?_) (fun a ka => ?_)
    · show NOTS (eI h1 0 22 - 1).toInt (eI h1 0 21).toInt (eA h1 0 23)
      rw [a22, f21, f23]
      exact ⟨by omega, by omega, x2, x3⟩
    · have := HK_em (o := eA h 0 24 (eI h 0 22).toInt.toNat) (v := 0) k2 (by omega)
      show HK _ (eI h1 0 21).toInt
      rw [f21]; exact this
    · exact HC_em (h := sI h1 0 22 (eI h1 0 22 - 1)) k2 (by omega) hc st
    · show (eI h1 0 29).toInt ≤ 23
      rw [f29]; exact n23
    · obtain ⟨a1, a2, a3, a4, a5⟩ := ka
      refine ok_some ⟨a1, Or.inr ⟨⟨a2, Or.inr (Or.inr (Or.inr (Or.inl ⟨a3, a4⟩)))⟩, ms_two s2 a3 ?_⟩⟩
      exact a5.trans f16
  · obtain ⟨x1, x2, x3⟩ := t.2.2.2.2 c1
    subst x3
    refine ok_ob2 (u_X9_isSign h 59) (fun r2 h2 k2 => ?_)
    have e2 : h = h2 := k2.1.symm
    subst e2
    refine ok_if (fun _ => er) (fun c2 => ?_)
    have s := (k2.2.2 c2).1
    rw [x2, Int.add_zero] at k
    refine ok_ob1 (u_clauseIsOver h b (by rw [s]; decide) x1 x2 k c n23) (fun a ka => ok_some ?_)
    exact ⟨ka.1, Or.inr ⟨ka.2.1, ms_lt (Or.inr (Or.inr (Or.inr trivial))) ka.2.2⟩⟩
theorem u_goesOn_116 (h : HS) (b : HB h) (s2 : eI h 0 28 = 2) {r : Int} (p : P2 h r) : ok (f_X9_goesOn_116 h (eA h 0 23 ((eI h 0 22).toInt.toNat - 1))) (fun a => PQ h a) := by
  have el := u_goesOn_181 h b s2 p
  unfold f_X9_goesOn_116 f_X9_goesOn_250
  obtain ⟨q, k, c, n23⟩ := p
  have o := OPS_r q
  have t := OPS_at q
  have hb := b.2.2.1
  have z1 : (1 : Int32).toInt = 1 := rfl
  refine ok_if (fun c4 => ok_if (fun c3 => ?_) (fun _ => el)) (fun _ => el)
  refine ok_ob1 (u_isAsking _) (fun r1 k1 => ok_if (fun _ => el) (fun c1 => ?_))
  have bn := k1 c1
  obtain ⟨x1, x2, x3, x4, x5⟩ := t.2.2.1 c4
  subst x5
  refine ok_ob1 (u_works 3 (by omega) (by omega) k c) (fun h1 kk => ?_)
  obtain ⟨fe, hk, hc, tp⟩ := kk
  have f22 : eI h1 0 22 = eI h 0 22 := fe.1 22 (by omega) (by omega)
  have f21 : eI h1 0 21 = eI h 0 21 := fe.1 21 (by omega) (by omega)
  have f18 : eI h1 0 18 = eI h 0 18 := fe.1 18 (by omega) (by omega)
  have f23 : eA h1 0 23 = eA h 0 23 := fe.2 23 (by omega) (by omega)
  have f24 : eA h1 0 24 = eA h 0 24 := fe.2 24 (by omega) (by omega)
  have f16 : eI h1 0 16 = eI h 0 16 := fe.1 16 (by omega) (by omega)
  have f29 : eI h1 0 29 = eI h 0 29 := fe.1 29 (by omega) (by omega)
  have a22 : (eI h1 0 22 - 1).toInt = (eI h 0 22).toInt - 1 := by rw [f22, fb_subI (by omega) (by omega), z1]
  have b22 : (eI h1 0 22).toNatClampNeg = (eI h 0 22).toInt.toNat := by rw [Int32.toNatClampNeg, f22]
  have b23 : (eI h1 0 22 - 1).toNatClampNeg = (eI h 0 22).toInt.toNat - 1 := by rw [Int32.toNatClampNeg, a22]; omega
  refine ok_chk (by rw [f22]; omega) (ok_chk (by rw [a22]; omega) ?_)
  rw [b22, b23]
  have be := wt_below hk.2.1 hk.1 tp (by rw [f22, f23]; exact t.1.1)
  have b1 := HB_FE fe b
  have k2 : HK (sA (sA h1 0 24 (upd (eA h1 0 24) (eI h 0 22).toInt.toNat (eI h1 0 18))) 0 23 (upd (eA h1 0 23) ((eI h 0 22).toInt.toNat - 1) 5)) ((eI h 0 21).toInt + 0) := by
    obtain ⟨q1, q2, q3, q4, q5, q6, q7⟩ := hk
    show K0 (eI h1 0 16).toInt (eI h1 0 25).toInt (eI h1 0 36).toInt (eI h1 0 29).toInt (eI h1 0 22).toInt ((eI h 0 21).toInt + 0) (upd (eA h1 0 23) ((eI h 0 22).toInt.toNat - 1) 5) (eA h1 0 26) (eA h1 0 27) (eA h1 0 31) (eA h1 0 32) (eA h1 0 37) (eA h1 0 38)
    refine ⟨q1, WT_fr q2 (fun i hi => (q2 i hi).2.1) (fun i hi => upd_no ?_), q3, q4, q5, q6, q7⟩
    have z := be i hi
    have y := q2 i hi
    have rr := rk_lo (eA h1 0 26 i)
    rw [f22] at z
    omega
  refine ok_ob1 (u_nextB _ (show HB (sA (sA h1 0 24 (upd (eA h1 0 24) (eI h 0 22).toInt.toNat (eI h1 0 18))) 0 23 (upd (eA h1 0 23) ((eI h 0 22).toInt.toNat - 1) 5)) from b1)) (fun a ka => ok_some ?_)
  have nx := HK_next k2 (show HB (sA (sA h1 0 24 (upd (eA h1 0 24) (eI h 0 22).toInt.toNat (eI h1 0 18))) 0 23 (upd (eA h1 0 23) ((eI h 0 22).toInt.toNat - 1) 5)) from b1) ka.1 ka.2.1 ka.2.2 (show ¬ eI h1 0 17 = 0 by rw [fe.1 17 (by omega) (by omega), c3]; decide)
  have ba := ka.2.1
  have g22 : eI a 0 22 = eI h 0 22 := (ka.1.1 22 (by omega)).trans f22
  have g21 : eI a 0 21 = eI h 0 21 := (ka.1.1 21 (by omega)).trans f21
  have g29 : eI a 0 29 = eI h 0 29 := (ka.1.1 29 (by omega)).trans f29
  have g23 : eA a 0 23 = upd (eA h 0 23) ((eI h 0 22).toInt.toNat - 1) 5 := by
    rw [← f23]; exact ka.1.2 23
  have g24 : eA a 0 24 = upd (eA h 0 24) (eI h 0 22).toInt.toNat (eI h 0 18) := by
    rw [← f24, ← f18]; exact ka.1.2 24
  refine ⟨PF_sI (PF_NX (PF_sA (PF_sA (PF_FE fe) (by omega)) (by omega)) ka.1) (by omega), Or.inr ⟨⟨⟨ba.1, ba.2.1, ba.2.2.1, ba.2.2.2⟩, Or.inr (Or.inl ⟨rfl, 1, ?_, ?_, ?_, ?_⟩)⟩, ms_lt (Or.inr (Or.inr (Or.inr trivial))) ?_⟩⟩
  · show OPS (eI a 0 22).toInt (eI a 0 21).toInt 1 (eA a 0 23) (eA a 0 24)
    rw [g22, g21, g23, g24]
    refine ⟨(eI h 0 22).toInt.toNat - 1, by omega, fun i hi hi2 => absurd hi (by omega), Or.inr ⟨by omega, ?_, fun i h1 h2 => ?_, by omega, Or.inr ⟨upd_at, rfl, ?_⟩⟩⟩
    · rw [upd_no (by omega)]; exact x2
    · rw [upd_no (by omega)]; exact x3 i h1 (by omega)
    · have e : (eI h 0 22).toInt.toNat - 1 + 1 = (eI h 0 22).toInt.toNat := by omega
      rw [e, upd_at]; exact bn
  · show HK a ((eI a 0 21).toInt + 1)
    rw [g21]
    have := nx.1
    rw [Int.add_zero] at this
    exact this
  · show HC a 1
    exact HC_NX (h := sA (sA h1 0 24 (upd (eA h1 0 24) (eI h 0 22).toInt.toNat (eI h1 0 18))) 0 23 (upd (eA h1 0 23) ((eI h 0 22).toInt.toNat - 1) 5)) hc ka.1
  · show (eI a 0 29).toInt ≤ 23
    rw [g29]; exact n23
  · have : (eI h1 0 16).toInt + 1 ≤ (eI a 0 16).toInt := nx.2
    rw [f16] at this; exact this
theorem u_goesOn_65 (h : HS) (b : HB h) (s2 : eI h 0 28 = 2) {r : Int} (p : P2 h r) : ok (f_X9_goesOn_65 h (eA h 0 23 ((eI h 0 22).toInt.toNat - 1))) (fun a => PQ h a) := by
  have el := u_goesOn_116 h b s2 p
  unfold f_X9_goesOn_65 f_X9_goesOn_250
  obtain ⟨q, k, c, n23⟩ := p
  have o := OPS_r q
  have t := OPS_at q
  have hb := b.2.2.1
  have z1 : (1 : Int32).toInt = 1 := rfl
  refine ok_if (fun c6 => ?_) (fun _ => el)
  refine ok_ob2 (u_X9_isSign h 41) (fun r2 h2 k2 => ?_)
  have e2 : h = h2 := k2.1.symm
  subst e2
  refine ok_if (fun _ => el) (fun c2 => ?_)
  have s := (k2.2.2 c2).1
  have nc := t.2.1 (Or.inl c6)
  have o2 := OPS_r nc
  refine ok_ob1 (u_works 3 (by omega) (by omega) k c) (fun h1 kk => ?_)
  obtain ⟨fe, hk, hc, tp⟩ := kk
  have f22 : eI h1 0 22 = eI h 0 22 := fe.1 22 (by omega) (by omega)
  have f21 : eI h1 0 21 = eI h 0 21 := fe.1 21 (by omega) (by omega)
  have f23 : eA h1 0 23 = eA h 0 23 := fe.2 23 (by omega) (by omega)
  have f24 : eA h1 0 24 = eA h 0 24 := fe.2 24 (by omega) (by omega)
  have f16 : eI h1 0 16 = eI h 0 16 := fe.1 16 (by omega) (by omega)
  have f29 : eI h1 0 29 = eI h 0 29 := fe.1 29 (by omega) (by omega)
  have a22 : (eI h1 0 22 - 1).toInt = (eI h 0 22).toInt - 1 := by rw [f22, fb_subI (by omega) (by omega), z1]
  have a21 : (eI h1 0 21 - 1).toInt = (eI h 0 21).toInt - 1 := by rw [f21, fb_subI (by omega) (by omega), z1]
  have be := wt_below hk.2.1 hk.1 tp (by rw [f22, f23]; exact t.1.1)
  have b1 := HB_FE fe b
  have b3 : HB (sI (sI h1 0 22 (eI h1 0 22 - 1)) 0 21 (eI h1 0 21 - 1)) := ⟨b1.1, b1.2.1, by show 0 ≤ (eI h1 0 21 - 1).toInt ∧ (eI h1 0 21 - 1).toInt ≤ 8; rw [a21]; omega, b1.2.2.2⟩
  have k3 : HK (sI (sI h1 0 22 (eI h1 0 22 - 1)) 0 21 (eI h1 0 21 - 1)) ((eI h 0 21).toInt - 1 + r) := by
    obtain ⟨q1, q2, q3, q4, q5, q6, q7⟩ := hk
    show K0 (eI h1 0 16).toInt (eI h1 0 25).toInt (eI h1 0 36).toInt (eI h1 0 29).toInt (eI h1 0 22 - 1).toInt ((eI h 0 21).toInt - 1 + r) (eA h1 0 23) (eA h1 0 26) (eA h1 0 27) (eA h1 0 31) (eA h1 0 32) (eA h1 0 37) (eA h1 0 38)
    rw [a22]
    refine ⟨q1, WT_fr q2 (fun i hi => ?_) (fun i hi => rfl), q3, by omega, q5, q6, by omega⟩
    have := be i hi
    rw [f22] at this
    exact this
  refine ok_ob1 (u_nextB _ b3) (fun h9 k9 => ?_)
  have nx := HK_next k3 b3 k9.1 k9.2.1 k9.2.2 (show ¬ eI h1 0 17 = 0 by rw [fe.1 17 (by omega) (by omega), s]; decide)
  have g22 : (eI h9 0 22).toInt = (eI h 0 22).toInt - 1 := by rw [k9.1.1 22 (by omega)]; exact a22
  have g21 : (eI h9 0 21).toInt = (eI h 0 21).toInt - 1 := by rw [k9.1.1 21 (by omega)]; exact a21
  have g29 : eI h9 0 29 = eI h 0 29 := (k9.1.1 29 (by omega)).trans f29
  have g23 : eA h9 0 23 = eA h 0 23 := (k9.1.2 23).trans f23
  have g24 : eA h9 0 24 = eA h 0 24 := (k9.1.2 24).trans f24
  have p9 : P2 h9 r := by
    refine ⟨?_, ?_, HC_NX (h := sI (sI h1 0 22 (eI h1 0 22 - 1)) 0 21 (eI h1 0 21 - 1)) hc k9.1, ?_⟩
    · unfold HF; rw [g21, g22, g23, g24]; exact nc
    · rw [g21]
      obtain ⟨y1, y2, y3, y4, y5, y6, y7⟩ := nx.1
      exact ⟨y1, y2, y3, by omega, y5, y6, y7⟩
    · rw [g29]; exact n23
  refine ok_ob1 (u_oneIsOver (h := h) h9 r (PF_NX (PF_sI (PF_sI (PF_FE fe) (by omega)) (by omega)) k9.1) k9.2.1 p9) (fun a ka => ok_some ?_)
  obtain ⟨a1, a2, a3, a4, a5, a6⟩ := ka
  refine ⟨a1, Or.inr ⟨⟨a2, Or.inr (Or.inr (Or.inl ⟨a3, a4, a5⟩))⟩, ms_lt (Or.inr (Or.inr (Or.inr trivial))) ?_⟩⟩
  have : (eI h1 0 16).toInt + 1 ≤ (eI h9 0 16).toInt := nx.2
  rw [f16] at this
  rw [a6]; exact this
theorem u_goesOn (h : HS) (b : HB h) (s2 : eI h 0 28 = 2) (n7 : ¬ eA h 0 23 ((eI h 0 22).toInt.toNat - 1) = 7) {r : Int} (p : P2 h r) : ok (f_X9_goesOn h) (fun a => PQ h a) := by
  unfold f_X9_goesOn
  have o := OPS_r p.1
  have hb := b.2.2.1
  rw [top_eq (h := h) (by omega) (by omega)]
  show ok (if eI h 0 17 = 3 then _ else _) _
  have el := u_goesOn_65 h b s2 p
  refine ok_if (fun c3 => ?_) (fun _ => el)
  have go : ∀ x : Int32, BN x → 3 ≤ rk x → eI h 0 18 = x → ok (f_X9_goesOn_49 h) (fun a => PQ h a) := fun x bx rx e => u_goesOn_49 h b n7 p c3 (by rw [e]; exact bx) (by rw [e]; exact rx)
  refine ok_if (fun c => go 43 ⟨by decide, by decide, by decide, by decide, by decide⟩ (by decide) c) (fun _ => ?_)
  refine ok_if (fun c => go 45 ⟨by decide, by decide, by decide, by decide, by decide⟩ (by decide) c) (fun _ => ?_)
  refine ok_if (fun c => go 42 ⟨by decide, by decide, by decide, by decide, by decide⟩ (by decide) c) (fun _ => ?_)
  exact ok_if (fun c => go 47 ⟨by decide, by decide, by decide, by decide, by decide⟩ (by decide) c) (fun _ => el)
/-! asksOn -/
theorem u_asksOn (h : HS) (b : HB h) (s3 : eI h 0 28 = 3) (p : P3 h) : ok (f_X9_asksOn h) (fun a => PQ h a) := by
  obtain ⟨x1, x2, x3, k, c, n23⟩ := p
  have t0 : eA h 0 23 ((eI h 0 22).toInt.toNat - 1) = 2 := by rw [x1]; exact x3
  have go : ∀ o : Int32, BN o → eI h 0 17 = 1 → ok (f_X9_asksOn_37 h o) (fun a => PQ h a) := by
    intro o bn s
    unfold f_X9_asksOn_37 f_X9_asksOn_77
    refine ok_ob1 (u_waitsFor h o (d := 0) (b := 0) b (by rw [s]; decide) (by omega) (by omega) k c bn (by omega) (Or.inr t0) (by rw [t0]; decide) (by rw [t0]; decide)) (fun a ka => ok_some ?_)
    obtain ⟨a1, a2, a3, a4, a5, a6, a7, a8, a9, a10⟩ := ka
    refine ⟨PF_sI a1 (by omega), Or.inr ⟨⟨⟨a2.1, a2.2.1, a2.2.2.1, a2.2.2.2⟩, Or.inl ⟨rfl, ?_, ?_, a4, ?_⟩⟩, ms_lt (Or.inr (Or.inr (Or.inr trivial))) a5⟩⟩
    · show NOTS (eI a 0 22).toInt (eI a 0 21).toInt (eA a 0 23)
      rw [a6, a7, a9]
      exact ⟨by omega, by omega, x3, fun i h1 h2 => absurd h2 (by omega)⟩
    · show HK a (eI a 0 21).toInt
      rw [a6, x2]; exact a3
    · show (eI a 0 29).toInt ≤ 23
      rw [a8]; exact n23
  have g18 : eI h 0 17 = 1 → ok (f_X9_asksOn_18 h) (fun a => PQ h a) := by
    intro s
    unfold f_X9_asksOn_18
    refine ok_ob2 (u_X9_isWord h 10) (fun r2 h2 k2 => ?_)
    have e2 : h = h2 := k2.1.symm
    subst e2
    exact ok_if (fun _ => go 406 ⟨by decide, by decide, by decide, by decide, by decide⟩ s) (fun _ => go 407 ⟨by decide, by decide, by decide, by decide, by decide⟩ s)
  have er : ok (f_X9_asksOn_72 h) (fun a => PQ h a) := by
    unfold f_X9_asksOn_72 f_X9_asksOn_77
    exact ok_ob1 (err_ok 1 (by decide) b) (fun a ka => ok_some ka)
  unfold f_X9_asksOn
  refine ok_ob2 (u_X9_isWord h 10) (fun r1 h1 k1 => ?_)
  have e1 : h = h1 := k1.1.symm
  subst e1
  refine ok_if (fun _ => ?_) (fun c1 => g18 (k1.2.2 c1).1)
  refine ok_ob2 (u_X9_isWord h 11) (fun r2 h2 k2 => ?_)
  have e2 : h = h2 := k2.1.symm
  subst e2
  refine ok_if (fun _ => ?_) (fun c1 => g18 (k2.2.2 c1).1)
  rw [top_eq (h := h) (by omega) (by omega)]
  show ok (if eA h 0 23 ((eI h 0 22).toInt.toNat - 1) = 2 then _ else _) _
  refine ok_if (fun _ => ?_) (fun _ => er)
  refine ok_ob2 (u_X9_isSign h 59) (fun r3 h3 k3 => ?_)
  have e3 : h = h3 := k3.1.symm
  subst e3
  refine ok_if (fun _ => er) (fun c2 => ?_)
  have s := (k3.2.2 c2).1
  unfold f_X9_asksOn_77
  refine ok_ob1 (u_clauseIsOver h b (by rw [s]; decide) x1 x2 k c n23) (fun a ka => ok_some ?_)
  exact ⟨ka.1, Or.inr ⟨ka.2.1, ms_lt (Or.inr (Or.inr (Or.inr trivial))) ka.2.2⟩⟩
