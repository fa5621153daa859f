theorem u_opensSign (h : HS) (f : Int32) (b : HB h) (s : ¬ eI h 0 17 = 0) (h1 : 0 ≤ (eI h 0 22).toInt) (h2 : (eI h 0 22).toInt < 40) : ok (f_X9_opensSign h f) (fun a => (PF h a.2 ∧ 0 < (eI a.2 0 19).toInt) ∨ ((eI h 0 21).toInt ≤ 7 ∧ NX (OF (sI h 0 21 (eI h 0 21 + 1)) f) a.2 ∧ HB a.2 ∧ (eI h 0 16).toInt + 1 ≤ (eI a.2 0 16).toInt)) := by
  unfold f_X9_opensSign
  have z8 : (8 : Int32).toInt = 8 := rfl; have z1 : (1 : Int32).toInt = 1 := rfl
  refine ok_if (fun c => ?_) (fun c => ?_)
  · exact ok_ob1 (u_errs 3 (by decide) (by rw [b.1]; decide)) (fun h4 k4 => ok_some (Or.inl k4))
  have d := gi_of_ne c
  have o := b.2.2.1
  have e1 : (eI h 0 21 + 1).toInt = (eI h 0 21).toInt + 1 := by rw [fb_addI (by omega) (by omega), z1]
  rw [of_eq (h := sI h 0 21 (eI h 0 21 + 1)) (f := f) h1 h2]
  show ok (ob1 (f_X9_next (OF (sI h 0 21 (eI h 0 21 + 1)) f)) _) _
  have bc : HB (OF (sI h 0 21 (eI h 0 21 + 1)) f) := ⟨b.1, b.2.1, by show 0 ≤ (eI h 0 21 + 1).toInt ∧ (eI h 0 21 + 1).toInt ≤ 8; omega, b.2.2.2⟩
  refine ok_ob1 (u_nextB _ bc) (fun h3 k3 => ok_some (Or.inr ⟨by omega, k3.1, k3.2.1, ?_⟩))
  have t1 := b.2.1.2.2.2.2.1 s
  have : (eI h 0 15).toInt ≤ (eI h3 0 16).toInt := k3.2.2
  show (eI h 0 16).toInt + 1 ≤ (eI h3 0 16).toInt
  omega
theorem PF_open {h a : HS} {x f : Int32} (n : NX (OF (sI h 0 21 x) f) a) : PF h a := PF_NX (PF_OF (PF_sI (PF_refl h) (by omega))) n
theorem opened1 {h a : HS} {f : Int32} {r : Int} (hf : f = 6 ∨ f = 7) (b : HB h) (p : P1 h r) (s1 : eI h 0 28 = 1) (o7 : (eI h 0 21).toInt ≤ 7) (n : NX (OF (sI h 0 21 (eI h 0 21 + 1)) f) a) (ba : HB a) (t : (eI h 0 16).toInt + 1 ≤ (eI a 0 16).toInt) : PQ h a := by
  obtain ⟨q, k, c, n23⟩ := p
  have o := OPS_r q
  have z1 : (1 : Int32).toInt = 1 := rfl
  have e1 : (eI h 0 21 + 1).toInt = (eI h 0 21).toInt + 1 := by rw [fb_addI (by omega) (by omega), z1]
  have e2 := of_no (h := h) (by omega) (by omega)
  have f21 : (eI a 0 21).toInt = (eI h 0 21).toInt + 1 := by rw [n.1 21 (by omega)]; exact e1
  have f22 : (eI a 0 22).toInt = (eI h 0 22).toInt + 1 := by rw [n.1 22 (by omega)]; exact e2
  have f23 : eA a 0 23 = upd (eA h 0 23) (eI h 0 22).toInt.toNat f := n.2 23
  have f24 : eA a 0 24 = eA h 0 24 := n.2 24
  have f28 : eI a 0 28 = 1 := (n.1 28 (by omega)).trans s1
  have ⟨_, m2, m3, m4, _⟩ := ba.2.1
  refine ⟨PF_open n, Or.inr ⟨⟨ba, Or.inr (Or.inl ⟨f28, r, ?_, ?_, ?_, ?_⟩)⟩, ms_lt (Or.inl s1) t⟩⟩
  · unfold HF
    rw [f21, f22, f23, f24]
    obtain ⟨i, h1, h2, h3⟩ := q
    have un : ∀ j : Nat, (j : Int) < (eI h 0 22).toInt → upd (eA h 0 23) (eI h 0 22).toInt.toNat f j = eA h 0 23 j := fun j hj => upd_no (by omega)
    refine ⟨i, by omega, fun j hj hj2 => ?_, ?_⟩
    · by_cases e : j = (eI h 0 22).toInt.toNat
      · rw [e, upd_at]; exact hf
      · rw [un j (by omega)]; exact h2 j hj (by omega)
    · rw [un i h1, un 0 (by omega)]
      rcases h3 with ⟨x0, x1, x2, x3⟩ | ⟨x0, x1, x2, x3, x4⟩
      · exact Or.inl ⟨x0, x1, by omega, x3⟩
      · exact Or.inr ⟨x0, x1, fun j hj hj2 => by rw [un j (by omega)]; exact x2 j hj hj2, by omega, x4⟩
  · have k2 : HK (OF (sI h 0 21 (eI h 0 21 + 1)) f) ((eI h 0 21).toInt + r) := HK_OF (h := sI h 0 21 (eI h 0 21 + 1)) k (show 0 ≤ (eI h 0 22).toInt by omega) (show (eI h 0 22).toInt ≤ 9 by omega)
    refine HK_NX k2 n ?_ (by omega)
    show (eI h 0 16).toInt + _ ≤ _
    omega
  · exact HC_NX (h := OF (sI h 0 21 (eI h 0 21 + 1)) f) c n
  · rw [n.1 29 (by omega)]; exact n23
/-! begins -/
theorem u_begins (h : HS) (b : HB h) (s1 : eI h 0 28 = 1) {r : Int} (p : P1 h r) : ok (f_X9_begins h) (fun a => PQ h a) := by
  have o := OPS_r p.1
  have l := b.2.1
  have hb := b.2.2.1
  have k := p.2.1
  have w40 := WT_le k.2.1 k.2.2.2.2.2.2
  have kw := k.1; have kn := k.2.2.1; have kt := k.2.2.2.1; have kt2 := k.2.2.2.2.1
  have em : ∀ (x y : Int32), (¬ eI h 0 17 = 0) → ST x y ((eI h 0 25).toInt + r) ((eI h 0 25).toInt + (r + 1)) → ok (ob1 (f_X9_emits h x y) (fun h_8 => ob1 (f_X9_next h_8) (fun h_9 => ob1 (f_X9_oneIsOver h_9) (fun h_10 => f_X9_begins_154 h_10)))) (fun a => PQ h a) := by
    intro x y s st
    rw [em_eq (h := h) (o := x) (v := y) kn (by omega)]
    show ok (ob1 (f_X9_next (EM h x y)) _) _
    have k2 : HK (EM h x y) ((eI h 0 21).toInt + r - 1) := HK_em (by rw [Int.sub_add_cancel]; exact k) (by omega)
    have c2 : HC (EM h x y) (r + 1) := HC_em k (by omega) p.2.2.1 st
    have bc : HB (EM h x y) := ⟨b.1, b.2.1, b.2.2.1, b.2.2.2⟩
    refine ok_ob1 (u_nextB _ bc) (fun h9 k9 => ?_)
    have nx := HK_next k2 bc k9.1 k9.2.1 k9.2.2 s
    have e1 : (eI h 0 21).toInt + r - 1 + 1 = (eI h 0 21).toInt + r := by omega
    have f21 : eI h9 0 21 = eI h 0 21 := k9.1.1 21 (by omega)
    have f22 : eI h9 0 22 = eI h 0 22 := k9.1.1 22 (by omega)
    have f29 : eI h9 0 29 = eI h 0 29 := k9.1.1 29 (by omega)
    have f23 : eA h9 0 23 = eA h 0 23 := k9.1.2 23
    have f24 : eA h9 0 24 = eA h 0 24 := k9.1.2 24
    have p9 : P2 h9 r := by
      refine ⟨?_, ?_, HC_NX c2 k9.1, ?_⟩
      · unfold HF; rw [f21, f22, f23, f24]; exact p.1
      · rw [f21, ← e1]; exact nx.1
      · rw [f29]; exact p.2.2.2
    refine ok_ob1 (u_oneIsOver (h := h) h9 r (PF_NX (PF_EM (PF_refl h)) k9.1) k9.2.1 p9) (fun a ka => ?_)
    unfold f_X9_begins_154
    obtain ⟨a1, a2, a3, a4, a5, a6⟩ := ka
    refine ok_some ⟨a1, Or.inr ⟨⟨a2, Or.inr (Or.inr (Or.inl ⟨a3, a4, a5⟩))⟩, ms_lt (Or.inl s1) ?_⟩⟩
    rw [a6]; exact nx.2
  have sg : ok (f_X9_begins_111 h) (fun a => PQ h a) := by
    unfold f_X9_begins_111 f_X9_begins_154
    refine ok_ob2 (u_X9_isSign h 40) (fun r1 h1 k1 => ?_)
    have e1 : h = h1 := k1.1.symm
    subst e1
    refine ok_if (fun c => ?_) (fun c => ?_)
    · refine ok_ob2 (u_X9_isSign h 45) (fun r2 h2 k2 => ?_)
      have e2 : h = h2 := k2.1.symm
      subst e2
      refine ok_if (fun c => ok_ob1 (err_ok 1 (by decide) b) (fun a ka => ok_some ka)) (fun c2 => ?_)
      have s := (k2.2.2 c2).1
      refine ok_ob2 (u_opensSign h 7 b (by rw [s]; decide) (by omega) (by omega)) (fun r3 a ka => ok_some ?_)
      rcases ka with ka | ⟨x1, x2, x3, x4⟩
      · exact ⟨ka.1, Or.inl ka.2⟩
      · exact opened1 (Or.inr rfl) b p s1 x1 x2 x3 x4
    · have s := (k1.2.2 c).1
      refine ok_ob2 (u_opensSign h 6 b (by rw [s]; decide) (by omega) (by omega)) (fun r3 a ka => ok_some ?_)
      rcases ka with ka | ⟨x1, x2, x3, x4⟩
      · exact ⟨ka.1, Or.inl ka.2⟩
      · exact opened1 (Or.inl rfl) b p s1 x1 x2 x3 x4
  unfold f_X9_begins
  refine ok_if (fun c => ok_if (fun c2 => ?_) (fun c2 => ok_ob1 (err_ok 2 (by decide) b) (fun a ka => ok_some ka))) (fun c => ?_)
  · exact em 400 _ (by rw [c]; decide) (Or.inl ⟨Or.inl rfl, by omega, by omega, by omega⟩)
  refine ok_if (fun c1 => ok_if (fun c2 => sg) (fun c2 => ?_)) (fun c1 => sg)
  have d2 := gi_of_nle c2
  have lt := l.2.2.2.2.2 c1
  have z12 : (12 : Int32).toInt = 12 := rfl; have z1 : (1 : Int32).toInt = 1 := rfl
  have e1 : (eI h 0 18 - 12).toInt = (eI h 0 18).toInt - 12 := by rw [fb_subI (by omega) (by omega), z12]
  have e2 : (eI h 0 18 - 12 - 1).toInt = (eI h 0 18).toInt - 13 := by rw [fb_subI (by omega) (by omega), z1]; omega
  generalize eI h 0 18 - 12 - 1 = y at *
  have go : ok (f_X9_begins_92 h y) (fun a => PQ h a) := by
    unfold f_X9_begins_92
    exact em 401 y (by rw [c1]; decide) (Or.inl ⟨Or.inr ⟨rfl, by omega, by omega⟩, by omega, by omega, by omega⟩)
  exact ok_if (fun c => go) (fun c => ok_if (fun c => go) (fun c => ok_ob1 (err_ok 5 (by decide) b) (fun a ka => ok_some ka)))
/-! asks -/
theorem u_asks (h : HS) (b : HB h) (p : P0 h) : ok (f_X9_asks h) (fun a => PQ h a) := by
  unfold f_X9_asks f_X9_asks_28
  obtain ⟨s0, n, k, c, n23⟩ := p
  obtain ⟨n1, n2, n3, n4⟩ := n
  have hb := b.2.2.1
  have z1 : (1 : Int32).toInt = 1 := rfl
  refine ok_ob2 (u_X9_isWord h 12) (fun r1 h1 k1 => ?_)
  have e1 : h = h1 := k1.1.symm
  subst e1
  refine ok_if (fun c1 => ?_) (fun c1 => ?_)
  · rw [of_eq (h := h) (f := 4) (by omega) (by omega)]
    show ok (some (sI (OF h 4) 0 28 1)) _
    have e2 := of_no (h := h) (by omega) (by omega)
    refine ok_some ⟨PF_sI (PF_OF (PF_refl h)) (by omega), Or.inr ⟨⟨⟨b.1, b.2.1, b.2.2.1, b.2.2.2⟩, Or.inr (Or.inl ⟨rfl, 0, ?_, ?_, c, n23⟩)⟩, ?_⟩⟩
    · show OPS (eI h 0 22 + 1).toInt (eI h 0 21).toInt 0 (upd (eA h 0 23) (eI h 0 22).toInt.toNat 4) (eA h 0 24)
      rw [e2]
      refine ⟨(eI h 0 22).toInt.toNat, by omega, fun i hi hi2 => absurd hi (by omega), Or.inr ⟨by omega, ?_, fun i hi hi2 => ?_, by omega, Or.inl ⟨upd_at, rfl⟩⟩⟩
      · rw [upd_no (by omega)]; exact n3
      · rw [upd_no (by omega)]; exact n4 i hi (by omega)
    · have := HK_OF (f := 4) k (by omega) (by omega)
      show HK (OF h 4) ((eI h 0 21).toInt + 0)
      rw [Int.add_zero]; exact this
    · show MS (sI (OF h 4) 0 28 1) < MS h
      show 2 * (300 - (eI h 0 16).toInt) + (if (1 : Int32) = 0 ∨ (1 : Int32) = 2 then 1 else 0) < 2 * (300 - (eI h 0 16).toInt) + (if eI h 0 28 = 0 ∨ eI h 0 28 = 2 then 1 else 0)
      rw [if_pos (Or.inl s0), if_neg (by decide)]; omega
  · have s := (k1.2.2 c1).1
    refine ok_ob2 (u_opensSign h 3 b (by rw [s]; decide) (by omega) (by omega)) (fun r3 a ka => ok_some ?_)
    rcases ka with ka | ⟨o7, n, ba, t⟩
    · exact ⟨ka.1, Or.inl ka.2⟩
    · have n : NX (OF (sI h 0 21 (eI h 0 21 + 1)) 3) a := n
      have ba : HB a := ba
      have t : (eI h 0 16).toInt + 1 ≤ (eI a 0 16).toInt := t
      have e1 : (eI h 0 21 + 1).toInt = (eI h 0 21).toInt + 1 := by rw [fb_addI (by omega) (by omega), z1]
      have e2 := of_no (h := h) (by omega) (by omega)
      have f21 : (eI a 0 21).toInt = (eI h 0 21).toInt + 1 := by rw [n.1 21 (by omega)]; exact e1
      have f22 : (eI a 0 22).toInt = (eI h 0 22).toInt + 1 := by rw [n.1 22 (by omega)]; exact e2
      have f23 : eA a 0 23 = upd (eA h 0 23) (eI h 0 22).toInt.toNat 3 := n.2 23
      have f28 : eI a 0 28 = 0 := (n.1 28 (by omega)).trans s0
      have ⟨_, m2, m3, m4, _⟩ := ba.2.1
      refine ⟨PF_open n, Or.inr ⟨⟨ba, Or.inl ⟨f28, ?_, ?_, ?_, ?_⟩⟩, ms_lt (Or.inr (Or.inr (Or.inr trivial))) t⟩⟩
      · unfold HN
        rw [f21, f22, f23]
        refine ⟨by omega, by omega, ?_, fun i hi hi2 => ?_⟩
        · rw [upd_no (by omega)]; exact n3
        · by_cases e : i = (eI h 0 22).toInt.toNat
          · rw [e, upd_at]
          · rw [upd_no e]; exact n4 i hi (by omega)
      · rw [f21]
        have k2 : HK (OF (sI h 0 21 (eI h 0 21 + 1)) 3) (eI h 0 21).toInt := HK_OF (h := sI h 0 21 (eI h 0 21 + 1)) k (show 0 ≤ (eI h 0 22).toInt by omega) (show (eI h 0 22).toInt ≤ 9 by omega)
        refine HK_NX k2 n ?_ (by omega)
        show (eI h 0 16).toInt + _ ≤ _
        omega
      · exact HC_NX (h := OF (sI h 0 21 (eI h 0 21 + 1)) 3) c n
      · rw [n.1 29 (by omega)]; exact n23
/-! waitsFor -/
theorem u_waitsFor (h : HS) (o : Int32) {d b : Int} (bh : HB h) (s : ¬ eI h 0 17 = 0) (hd : 0 ≤ d ∧ d ≤ 2) (hb : 0 ≤ b) (k : HK h b) (c : HC h (d + 1)) (bn : BN o) (hF : 1 ≤ (eI h 0 22).toInt) (h1 : 3 ≤ rk o ∨ eA h 0 23 ((eI h 0 22).toInt.toNat - 1) = 2) (h3 : ¬ eA h 0 23 ((eI h 0 22).toInt.toNat - 1) = 3) (h7 : ¬ eA h 0 23 ((eI h 0 22).toInt.toNat - 1) = 7) : ok (f_X9_waitsFor h o) (fun a => PF h a ∧ HB a ∧ HK a b ∧ HC a d ∧ (eI h 0 16).toInt + 1 ≤ (eI a 0 16).toInt ∧ eI a 0 21 = eI h 0 21 ∧ eI a 0 22 = eI h 0 22 ∧ eI a 0 29 = eI h 0 29 ∧ eA a 0 23 = eA h 0 23 ∧ eA a 0 24 = eA h 0 24) := by
  unfold f_X9_waitsFor
  refine ok_ob1 (u_rank o) (fun r1 k1 => ?_)
  refine ok_ob1 (u_works r1 (by omega) hb k c) (fun h2 k2 => ?_)
  obtain ⟨fe, hk, hc, tp⟩ := k2
  obtain ⟨q1, q2, q3, q4, q5, q6, q7⟩ := hk
  have w40 := WT_le q2 q7
  have z1 : (1 : Int32).toInt = 1 := rfl
  have f16 : eI h2 0 16 = eI h 0 16 := fe.1 16 (by omega) (by omega)
  have f22 : eI h2 0 22 = eI h 0 22 := fe.1 22 (by omega) (by omega)
  have f23 : eA h2 0 23 = eA h 0 23 := fe.2 23 (by omega) (by omega)
  have b25 : (eI h2 0 25).toNatClampNeg = (eI h2 0 25).toInt.toNat := by rw [Int32.toNatClampNeg]
  have a25 : (eI h2 0 25 + 1).toInt = (eI h2 0 25).toInt + 1 := by rw [fb_addI (by omega) (by omega), z1]
  refine ok_chk (by omega) (ok_chk (by omega) ?_)
  rw [b25]
  rw [k1] at tp
  have b2 : HB h2 := by
    unfold HB LX
    rw [fe.1 19 (by omega) (by omega), fe.1 16 (by omega) (by omega), fe.1 15 (by omega) (by omega), fe.1 14 (by omega) (by omega), fe.1 17 (by omega) (by omega), fe.1 18 (by omega) (by omega), fe.1 21 (by omega) (by omega), fe.1 29 (by omega) (by omega)]
    exact bh
  have k3 : HK (sI (sA (sA h2 0 26 (upd (eA h2 0 26) (eI h2 0 25).toInt.toNat o)) 0 27 (upd (eA h2 0 27) (eI h2 0 25).toInt.toNat (eI h2 0 22))) 0 25 (eI h2 0 25 + 1)) (b - 1) := by
    show K0 (eI h2 0 16).toInt (eI h2 0 25 + 1).toInt (eI h2 0 36).toInt (eI h2 0 29).toInt (eI h2 0 22).toInt (b - 1) (eA h2 0 23) (upd (eA h2 0 26) (eI h2 0 25).toInt.toNat o) (upd (eA h2 0 27) (eI h2 0 25).toInt.toNat (eI h2 0 22)) (eA h2 0 31) (eA h2 0 32) (eA h2 0 37) (eA h2 0 38)
    rw [a25]
    refine ⟨by omega, WT_push q2 q1 rfl (by rw [f22]; exact hF) bn (by rw [f22, f23]; exact h1) (by rw [f22, f23]; exact h3) (by rw [f22, f23]; exact h7) tp, q3, by omega, q5, q6, q7⟩
  have c3 : HC (sI (sA (sA h2 0 26 (upd (eA h2 0 26) (eI h2 0 25).toInt.toNat o)) 0 27 (upd (eA h2 0 27) (eI h2 0 25).toInt.toNat (eI h2 0 22))) 0 25 (eI h2 0 25 + 1)) d := by
    show CUR (eI h2 0 36).toInt ((eI h2 0 25 + 1).toInt + d) (eA h2 0 32 (eI h2 0 29).toInt.toNat).toInt (eA h2 0 37) (eA h2 0 38)
    have e : (eI h2 0 25 + 1).toInt + d = (eI h2 0 25).toInt + (d + 1) := by omega
    rw [e]; exact hc
  have b3 : HB (sI (sA (sA h2 0 26 (upd (eA h2 0 26) (eI h2 0 25).toInt.toNat o)) 0 27 (upd (eA h2 0 27) (eI h2 0 25).toInt.toNat (eI h2 0 22))) 0 25 (eI h2 0 25 + 1)) := b2
  refine ok_ob1 (u_nextB _ b3) (fun h5 k5 => ok_some ?_)
  have s2 : ¬ eI h2 0 17 = 0 := by rw [fe.1 17 (by omega) (by omega)]; exact s
  have nx := HK_next k3 b3 k5.1 k5.2.1 k5.2.2 s2
  have e1 : b - 1 + 1 = b := by omega
  rw [e1] at nx
  refine ⟨PF_NX (PF_sI (PF_sA (PF_sA (PF_FE fe) (by omega)) (by omega)) (by omega)) k5.1, k5.2.1, nx.1, HC_NX c3 k5.1, ?_, ?_, ?_, ?_, ?_, ?_⟩
  · have : (eI h2 0 16).toInt + 1 ≤ (eI h5 0 16).toInt := nx.2
    rw [f16] at this; exact this
  · exact (k5.1.1 21 (by omega)).trans (fe.1 21 (by omega) (by omega))
  · exact (k5.1.1 22 (by omega)).trans f22
  · exact (k5.1.1 29 (by omega)).trans (fe.1 29 (by omega) (by omega))
  · exact (k5.1.2 23).trans f23
  · exact (k5.1.2 24).trans (fe.2 24 (by omega) (by omega))
/-! a clause is over -/
theorem over_tail {h c : HS} (f : PF h c) (b : HB c) (s : ¬ eI c 0 17 = 0) (k : HK c 0) (w : (eI c 0 25).toInt = 0) (hF : (eI c 0 22).toInt = 0) (hO : (eI c 0 21).toInt = 0) (n23 : (eI c 0 29).toInt ≤ 23) (cu : 4 ≤ (eA c 0 31 (eI c 0 29).toInt.toNat).toInt ∨ ∃ d, CUR (eI c 0 36).toInt d (eA c 0 32 (eI c 0 29).toInt.toNat).toInt (eA c 0 37) (eA c 0 38)) : ok (ob1 (f_X9_emits c 408 0) (fun h_2 => ob1 (f_X9_next (sI h_2 0 29 ((eI h_2 0 29) + 1))) (fun h_3 => some (sI h_3 0 28 4)))) (fun a => PF h a ∧ PI a ∧ (eI c 0 16).toInt + 1 ≤ (eI a 0 16).toInt) := by
  have z1 : (1 : Int32).toInt = 1 := rfl
  have nb := b.2.2.2
  have a29 : (eI c 0 29 + 1).toInt = (eI c 0 29).toInt + 1 := by rw [fb_addI (by omega) (by omega), z1]
  rw [em_eq (h := c) (o := 408) (v := 0) k.2.2.1 (by have := k.2.2.2; omega)]
  show ok (ob1 (f_X9_next (sI (EM c 408 0) 0 29 (eI c 0 29 + 1))) _) _
  have k2 : HK (EM c 408 0) (-1) := HK_em k (by omega)
  have kn := k.2.2.1; have kt := k.2.2.2.1; have kt2 := k.2.2.2.2.1
  have en := em_no (h := c) kn (by omega)
  have k3 : HK (sI (EM c 408 0) 0 29 (eI c 0 29 + 1)) (-1) := by
    obtain ⟨k1, k2, k3, k4, k5, k6, k7⟩ := k2
    show K0 (eI c 0 16).toInt (eI c 0 25).toInt (eI c 0 36 + 1).toInt (eI c 0 29 + 1).toInt (eI c 0 22).toInt (-1) (eA c 0 23) (eA c 0 26) (eA c 0 27) (eA c 0 31) (eA c 0 32) (upd (eA c 0 37) (eI c 0 36).toInt.toNat 408) (upd (eA c 0 38) (eI c 0 36).toInt.toNat 0)
    refine ⟨k1, k2, k3, k4, k5, ?_, k7⟩
    rw [a29]
    intro j hj hw
    by_cases e : (j : Int) < (eI c 0 29).toInt
    · exact k6 j e hw
    · have ej : j = (eI c 0 29).toInt.toNat := by omega
      subst ej
      rcases cu with cu | ⟨d, c0, c1, c2⟩
      · omega
      · refine ⟨c0, ((eI c 0 36).toInt - (eA c 0 32 (eI c 0 29).toInt.toNat).toInt).toNat, d, ?_, ?_, PO_keep c2 (fun i hi => upd_no (by omega)) (fun i hi => upd_no (by omega))⟩
        · rw [en]; omega
        · have e3 : (eA c 0 32 (eI c 0 29).toInt.toNat).toInt.toNat + ((eI c 0 36).toInt - (eA c 0 32 (eI c 0 29).toInt.toNat).toInt).toNat = (eI c 0 36).toInt.toNat := by omega
          rw [e3, upd_at]
  have b3 : HB (sI (EM c 408 0) 0 29 (eI c 0 29 + 1)) := ⟨b.1, b.2.1, b.2.2.1, by show 0 ≤ (eI c 0 29 + 1).toInt ∧ (eI c 0 29 + 1).toInt ≤ 24; omega⟩
  refine ok_ob1 (u_nextB _ b3) (fun h5 k5 => ok_some ?_)
  have nx := HK_next k3 b3 k5.1 k5.2.1 k5.2.2 (show ¬ eI c 0 17 = 0 from s)
  refine ⟨PF_sI (PF_NX (PF_sI (PF_EM f) (by omega)) k5.1) (by omega), ⟨⟨k5.2.1.1, k5.2.1.2.1, k5.2.1.2.2.1, k5.2.1.2.2.2⟩, Or.inr (Or.inr (Or.inr (Or.inr ⟨rfl, ?_, ?_, ?_, nx.1⟩)))⟩, nx.2⟩
  · show (eI h5 0 22).toInt = 0
    rw [k5.1.1 22 (by omega)]; exact hF
  · show (eI h5 0 21).toInt = 0
    rw [k5.1.1 21 (by omega)]; exact hO
  · show (eI h5 0 25).toInt = 0
    rw [k5.1.1 25 (by omega)]; exact w
theorem u_clauseIsOver (h : HS) (b : HB h) (s : ¬ eI h 0 17 = 0) (hF : (eI h 0 22).toInt = 1) (hO : (eI h 0 21).toInt = 0) (k : HK h 0) (c : HC h 1) (n23 : (eI h 0 29).toInt ≤ 23) : ok (f_X9_clauseIsOver h) (fun a => PF h a ∧ PI a ∧ (eI h 0 16).toInt + 1 ≤ (eI a 0 16).toInt) := by
  unfold f_X9_clauseIsOver
  refine ok_ob1 (u_works 1 (by omega) (by omega) k c) (fun h1 k1 => ?_)
  obtain ⟨fe, hk, hc, tp⟩ := k1
  have f22 : eI h1 0 22 = eI h 0 22 := fe.1 22 (by omega) (by omega)
  have f29 : eI h1 0 29 = eI h 0 29 := fe.1 29 (by omega) (by omega)
  have f16 : eI h1 0 16 = eI h 0 16 := fe.1 16 (by omega) (by omega)
  have z1 : (1 : Int32).toInt = 1 := rfl
  have w0 : (eI h1 0 25).toInt = 0 := by
    rcases tp with tp | tp
    · exact tp
    · apply Classical.byContradiction
      intro ne
      have q := hk.2.1 ((eI h1 0 25).toInt.toNat - 1) (by have := hk.1; omega)
      have r := rk_lo (eA h1 0 26 ((eI h1 0 25).toInt.toNat - 1))
      apply tp
      rw [f22, hF]
      have q2 := q.2.1
      rw [f22, hF] at q2
      have q3 := q.2.2.1
      exact ⟨by omega, by omega⟩
  have b2 : HB (sI h1 0 22 0) := by
    show eI h1 0 19 = 0 ∧ LX h1 ∧ (0 ≤ (eI h1 0 21).toInt ∧ (eI h1 0 21).toInt ≤ 8) ∧ (0 ≤ (eI h1 0 29).toInt ∧ (eI h1 0 29).toInt ≤ 24)
    unfold LX
    rw [fe.1 19 (by omega) (by omega), fe.1 16 (by omega) (by omega), fe.1 15 (by omega) (by omega), fe.1 14 (by omega) (by omega), fe.1 17 (by omega) (by omega), fe.1 18 (by omega) (by omega), fe.1 21 (by omega) (by omega), fe.1 29 (by omega) (by omega)]
    exact b
  have k2 : HK (sI h1 0 22 0) 0 := by
    obtain ⟨q1, q2, q3, q4, q5, q6, q7⟩ := hk
    show K0 (eI h1 0 16).toInt (eI h1 0 25).toInt (eI h1 0 36).toInt (eI h1 0 29).toInt (0 : Int32).toInt 0 (eA h1 0 23) (eA h1 0 26) (eA h1 0 27) (eA h1 0 31) (eA h1 0 32) (eA h1 0 37) (eA h1 0 38)
    refine ⟨q1, ?_, q3, q4, q5, q6, by decide⟩
    intro i hi
    exact absurd hi (by omega)
  refine ok_mono (over_tail (h := h) (c := sI h1 0 22 0) (PF_sI (PF_FE fe) (by omega)) b2 (by show ¬ eI h1 0 17 = 0; rw [fe.1 17 (by omega) (by omega)]; exact s) k2 w0 rfl (by show (eI h1 0 21).toInt = 0; rw [fe.1 21 (by omega) (by omega)]; exact hO) (by show (eI h1 0 29).toInt ≤ 23; rw [f29]; exact n23) (Or.inr ⟨_, hc⟩)) (fun a ka => ⟨ka.1, ka.2.1, ?_⟩)
  have := ka.2.2
  rw [← f16]; exact this
theorem wt_below {F W : Int} {fr wo wf : Nat → Int32} (h : WT F W fr wo wf) (h0 : 0 ≤ W) (ht : W = 0 ∨ ¬ ((wf (W.toNat - 1)).toInt = F ∧ 3 ≤ rk (wo (W.toNat - 1)))) (n2 : ¬ fr (F.toNat - 1) = 2) : ∀ i : Nat, (i : Int) < W → (wf i).toInt ≤ F - 1 := by
  intro i hi
  apply Int.not_lt.mp
  intro c
  have k := h i hi
  have j := h (W.toNat - 1) (by omega)
  have m := k.2.2.2.2.2.2 (W.toNat - 1) (by omega) (by omega)
  have k2 := k.2.1; have j2 := j.2.1
  have ef : (wf (W.toNat - 1)).toInt = F := by omega
  rcases ht with ht | ht
  · omega
  · rcases j.2.2.2.1 with q | q
    · exact ht ⟨ef, q⟩
    · rw [ef] at q; exact n2 q
theorem HB_FE {h c : HS} (fe : FE h c) (b : HB h) : HB c := by
  unfold HB LX
  rw [fe.1 19 (by omega) (by omega), fe.1 16 (by omega) (by omega), fe.1 15 (by omega) (by omega), fe.1 14 (by omega) (by omega), fe.1 17 (by omega) (by omega), fe.1 18 (by omega) (by omega), fe.1 21 (by omega) (by omega), fe.1 29 (by omega) (by omega)]
  exact b
theorem OPS_at {F O r : Int} {fr cm : Nat → Int32} (h : OPS F O r fr cm) : (¬ fr (F.toNat - 1) = 2 ∧ ¬ fr (F.toNat - 1) = 3) ∧ ((fr (F.toNat - 1) = 6 ∨ fr (F.toNat - 1) = 7) → OPS (F - 1) (O - 1) r fr cm) ∧ (fr (F.toNat - 1) = 4 → 2 ≤ F ∧ fr 0 = 2 ∧ (∀ i : Nat, 1 ≤ i → (i : Int) < F - 1 → fr i = 3) ∧ O = F - 2 ∧ r = 0) ∧ (fr (F.toNat - 1) = 5 → 2 ≤ F ∧ fr 0 = 2 ∧ (∀ i : Nat, 1 ≤ i → (i : Int) < F - 1 → fr i = 3) ∧ O = F - 2 ∧ r = 1 ∧ BN (cm F.toNat)) ∧ (fr (F.toNat - 1) = 1 → F = 1 ∧ O = 0 ∧ r = 0) := by
  obtain ⟨c, h1, h2, h3⟩ := h
  by_cases e : c = F.toNat - 1
  · have eF : c + 1 = F.toNat := by omega
    rw [← e]
    rcases h3 with ⟨a, b, d, g⟩ | ⟨a, b, d, g, x⟩
    · subst a
      rw [b]
      exact ⟨⟨by decide, by decide⟩, fun q => by rcases q with q | q <;> exact absurd q (by decide), fun q => absurd q (by decide), fun q => absurd q (by decide), fun _ => by omega⟩
    · rcases x with ⟨x, y⟩ | ⟨x, y, z⟩
      · rw [x]
        exact ⟨⟨by decide, by decide⟩, fun q => by rcases q with q | q <;> exact absurd q (by decide), fun _ => ⟨by omega, b, fun i h1 h2 => d i h1 (by omega), g, y⟩, fun q => absurd q (by decide), fun q => absurd q (by decide)⟩
      · rw [x]
        rw [eF] at z
        exact ⟨⟨by decide, by decide⟩, fun q => by rcases q with q | q <;> exact absurd q (by decide), fun q => absurd q (by decide), fun _ => ⟨by omega, b, fun i h1 h2 => d i h1 (by omega), g, y, z⟩, fun q => absurd q (by decide)⟩
  · have t := h2 (F.toNat - 1) (by omega) (by omega)
    refine ⟨?_, fun _ => ⟨c, by omega, fun i hi hi2 => h2 i hi (by omega), ?_⟩, ?_, ?_, ?_⟩
    · rcases t with t | t <;> rw [t] <;> exact ⟨by decide, by decide⟩
    · rcases h3 with ⟨a, b, d, g⟩ | ⟨a, b, d, g, x⟩
      · exact Or.inl ⟨a, b, by omega, g⟩
      · exact Or.inr ⟨a, b, d, by omega, x⟩
    · intro q; rcases t with t | t <;> (rw [t] at q; exact absurd q (by decide))
    · intro q; rcases t with t | t <;> (rw [t] at q; exact absurd q (by decide))
    · intro q; rcases t with t | t <;> (rw [t] at q; exact absurd q (by decide))
theorem u_isAsking (p : Int32) : ok (f_X9_isAsking p) (fun a => ¬ a = 0 → BN p) := by
  unfold f_X9_isAsking f_X9_isAsking_38 f_X9_isAsking_43
  have yes : ∀ q : Int32, BN q → p = q → ok (if (1 : Int32) = 0 ∨ (1 : Int32) = 1 then some (1 : Int32) else none) (fun a => ¬ a = 0 → BN p) := fun q bq e => ok_chk (Or.inr rfl) (ok_some (fun _ => by rw [e]; exact bq))
  refine ok_if (fun c => yes 60 ⟨by decide, by decide, by decide, by decide, by decide⟩ c) (fun _ => ?_)
  refine ok_if (fun c => yes 62 ⟨by decide, by decide, by decide, by decide, by decide⟩ c) (fun _ => ?_)
  refine ok_if (fun c => yes 61 ⟨by decide, by decide, by decide, by decide, by decide⟩ c) (fun _ => ?_)
  refine ok_if (fun c => yes 35 ⟨by decide, by decide, by decide, by decide, by decide⟩ c) (fun _ => ?_)
  refine ok_if (fun c => yes 300 ⟨by decide, by decide, by decide, by decide, by decide⟩ c) (fun _ => ?_)
  refine ok_if (fun c => yes 301 ⟨by decide, by decide, by decide, by decide, by decide⟩ c) (fun _ => ?_)
  exact ok_chk (Or.inl rfl) (ok_some (fun e => absurd rfl e))
/-! goesOn -/
theorem ms_two {h a : HS} (s : eI h 0 28 = 2) (t : eI a 0 28 = 3) (e : eI a 0 16 = eI h 0 16) : MS a < MS h := by
  unfold MS
  rw [s, t, e, if_neg (by decide), if_pos (by decide)]; omega
theorem u_goesOn_49 (h : HS) (b : HB h) (n7 : ¬ eA h 0 23 ((eI h 0 22).toInt.toNat - 1) = 7) {r : Int} (p : P2 h r) (c3 : eI h 0 17 = 3) (bn : BN (eI h 0 18)) (r3 : 3 ≤ rk (eI h 0 18)) : ok (f_X9_goesOn_49 h) (fun a => PQ h a) := by
  unfold f_X9_goesOn_49 f_X9_goesOn_250
  obtain ⟨q, k, c, n23⟩ := p
  have o := OPS_r q
  have t := OPS_at q
  refine ok_ob1 (u_waitsFor h _ (d := r) (b := (eI h 0 21).toInt + r) b (by rw [c3]; decide) (by omega) (by omega) k c bn (by omega) (Or.inl r3) t.1.2 n7) (fun a ka => ok_some ?_)
  obtain ⟨a1, a2, a3, a4, a5, a6, a7, a8, a9, a10⟩ := ka
  refine ⟨PF_sI a1 (by omega), Or.inr ⟨⟨⟨a2.1, a2.2.1, a2.2.2.1, a2.2.2.2⟩, Or.inr (Or.inl ⟨rfl, r, ?_, ?_, a4, ?_⟩)⟩, ms_lt (Or.inr (Or.inr (Or.inr trivial))) a5⟩⟩
  · show OPS (eI a 0 22).toInt (eI a 0 21).toInt r (eA a 0 23) (eA a 0 24)
    rw [a6, a7, a9, a10]; exact q
  · show HK a ((eI a 0 21).toInt + r)
    rw [a6]; exact a3
  · show (eI a 0 29).toInt ≤ 23
    rw [a8]; exact n23
theorem u_goesOn_181 (h : HS) (b : HB h) (s2 : eI h 0 28 = 2) {r : Int} (p : P2 h r) : ok (f_X9_goesOn_181 h (eA h 0 23 ((eI h 0 22).toInt.toNat - 1))) (fun a => PQ h a) := by
  unfold f_X9_goesOn_181 f_X9_goesOn_245 f_X9_goesOn_250
  obtain ⟨q, k, c, n23⟩ := p
  have o := OPS_r q
  have t := OPS_at q
  have hb := b.2.2.1
  have er : ok (ob1 (f_X9_errs h 1) (fun h_31 => some h_31)) (fun a => PQ h a) := ok_ob1 (err_ok 1 (by decide) b) (fun a ka => ok_some ka)
  have z1 : (1 : Int32).toInt = 1 := rfl; have z3 : (3 : Int32).toInt = 3 := rfl
  refine ok_if (fun c5 => ?_) (fun _ => ok_if (fun c1 => ?_) (fun _ => er))
  · obtain ⟨x1, x2, x3, x4, x5, x6⟩ := t.2.2.2.1 c5
    subst x5
    refine ok_ob1 (u_works 3 (by omega) (by omega) k c) (fun h1 k1 => ?_)
    obtain ⟨fe, hk, hc, tp⟩ := k1
    have f22 : eI h1 0 22 = eI h 0 22 := fe.1 22 (by omega) (by omega)
    have f21 : eI h1 0 21 = eI h 0 21 := fe.1 21 (by omega) (by omega)
    have f23 : eA h1 0 23 = eA h 0 23 := fe.2 23 (by omega) (by omega)
    have f24 : eA h1 0 24 = eA h 0 24 := fe.2 24 (by omega) (by omega)
    have f16 : eI h1 0 16 = eI h 0 16 := fe.1 16 (by omega) (by omega)
    have f29 : eI h1 0 29 = eI h 0 29 := fe.1 29 (by omega) (by omega)
    refine ok_chk (by rw [f22]; omega) ?_
    have b22 : (eI h1 0 22).toNatClampNeg = (eI h 0 22).toInt.toNat := by rw [Int32.toNatClampNeg, f22]
    rw [b22, f24]
    have a22 : (eI h1 0 22 - 1).toInt = (eI h 0 22).toInt - 1 := by rw [f22, fb_subI (by omega) (by omega), z1]
    have w40 := WT_le hk.2.1 hk.2.2.2.2.2.2
    have w0 := hk.1
    have be := wt_below hk.2.1 hk.1 tp (by rw [f22, f23]; exact t.1.1)
    have k2 : HK (sI h1 0 22 (eI h1 0 22 - 1)) ((eI h 0 21).toInt + 1) := by
      obtain ⟨q1, q2, q3, q4, q5, q6, q7⟩ := hk
      show K0 (eI h1 0 16).toInt (eI h1 0 25).toInt (eI h1 0 36).toInt (eI h1 0 29).toInt (eI h1 0 22 - 1).toInt ((eI h 0 21).toInt + 1) (eA h1 0 23) (eA h1 0 26) (eA h1 0 27) (eA h1 0 31) (eA h1 0 32) (eA h1 0 37) (eA h1 0 38)
      rw [a22]
      refine ⟨q1, WT_fr q2 (fun i hi => ?_) (fun i hi => rfl), q3, q4, q5, q6, by omega⟩
      have := be i hi
      rw [f22] at this
      exact this
    have kn := hk.2.2.1; have kt := hk.2.2.2.1; have kt2 := hk.2.2.2.2.1
    rw [em_eq (h := sI h1 0 22 (eI h1 0 22 - 1)) (o := eA h 0 24 (eI h 0 22).toInt.toNat) (v := 0) (show 0 ≤ (eI h1 0 36).toInt from kn) (show (eI h1 0 36).toInt < 400 by omega)]
    show ok (ob1 (f_X9_askIsOver (EM (sI h1 0 22 (eI h1 0 22 - 1)) (eA h 0 24 (eI h 0 22).toInt.toNat) 0)) _) _
    have st : ST (eA h 0 24 (eI h 0 22).toInt.toNat) 0 ((eI h1 0 25).toInt + (1 + 1)) ((eI h1 0 25).toInt + 1) := Or.inr (Or.inr ⟨x6.1, x6.2.1, x6.2.2.1, x6.2.2.2.1, x6.2.2.2.2, by omega, by omega, by omega⟩)
    have b1 := HB_FE fe b
    refine ok_ob1 (u_askIsOver (h := h) (EM (sI h1 0 22 (eI h1 0 22 - 1)) (eA h 0 24 (eI h 0 22).toInt.toNat) 0) (PF_EM (PF_sI (PF_FE fe) (by omega))) ⟨b1.1, b1.2.1, b1.2.2.1, b1.2.2.2⟩ ?_ ?_ ?_ ?_) (fun a ka => ?_)
    · show NOTS (eI h1 0 22 - 1).toInt (eI h1 0 21).toInt (eA h1 0 23)
      rw [a22, f21, f23]
      exact ⟨by omega, by omega, x2, x3⟩
    · have := HK_em (o := eA h 0 24 (eI h 0 22).toInt.toNat) (v := 0) k2 (by omega)
      show HK _ (eI h1 0 21).toInt
      rw [f21]; exact this
    · exact HC_em (h := sI h1 0 22 (eI h1 0 22 - 1)) k2 (by omega) hc st
    · show (eI h1 0 29).toInt ≤ 23
      rw [f29]; exact n23
    · obtain ⟨a1, a2, a3, a4, a5⟩ := ka
      refine ok_some ⟨a1, Or.inr ⟨⟨a2, Or.inr (Or.inr (Or.inr (Or.inl ⟨a3, a4⟩)))⟩, ms_two s2 a3 ?_⟩⟩
      exact a5.trans f16
  · obtain ⟨x1, x2, x3⟩ := t.2.2.2.2 c1
    subst x3
    refine ok_ob2 (u_X9_isSign h 59) (fun r2 h2 k2 => ?_)
    have e2 : h = h2 := k2.1.symm
    subst e2
    refine ok_if (fun _ => er) (fun c2 => ?_)
    have s := (k2.2.2 c2).1
    rw [x2, Int.add_zero] at k
    refine ok_ob1 (u_clauseIsOver h b (by rw [s]; decide) x1 x2 k c n23) (fun a ka => ok_some ?_)
    exact ⟨ka.1, Or.inr ⟨ka.2.1, ms_lt (Or.inr (Or.inr (Or.inr trivial))) ka.2.2⟩⟩
theorem u_goesOn_116 (h : HS) (b : HB h) (s2 : eI h 0 28 = 2) {r : Int} (p : P2 h r) : ok (f_X9_goesOn_116 h (eA h 0 23 ((eI h 0 22).toInt.toNat - 1))) (fun a => PQ h a) := by
  have el := u_goesOn_181 h b s2 p
  unfold f_X9_goesOn_116 f_X9_goesOn_250
  obtain ⟨q, k, c, n23⟩ := p
  have o := OPS_r q
  have t := OPS_at q
  have hb := b.2.2.1
  have z1 : (1 : Int32).toInt = 1 := rfl
  refine ok_if (fun c4 => ok_if (fun c3 => ?_) (fun _ => el)) (fun _ => el)
  refine ok_ob1 (u_isAsking _) (fun r1 k1 => ok_if (fun _ => el) (fun c1 => ?_))
  have bn := k1 c1
  obtain ⟨x1, x2, x3, x4, x5⟩ := t.2.2.1 c4
  subst x5
  refine ok_ob1 (u_works 3 (by omega) (by omega) k c) (fun h1 kk => ?_)
  obtain ⟨fe, hk, hc, tp⟩ := kk
  have f22 : eI h1 0 22 = eI h 0 22 := fe.1 22 (by omega) (by omega)
  have f21 : eI h1 0 21 = eI h 0 21 := fe.1 21 (by omega) (by omega)
  have f18 : eI h1 0 18 = eI h 0 18 := fe.1 18 (by omega) (by omega)
  have f23 : eA h1 0 23 = eA h 0 23 := fe.2 23 (by omega) (by omega)
  have f24 : eA h1 0 24 = eA h 0 24 := fe.2 24 (by omega) (by omega)
  have f16 : eI h1 0 16 = eI h 0 16 := fe.1 16 (by omega) (by omega)
  have f29 : eI h1 0 29 = eI h 0 29 := fe.1 29 (by omega) (by omega)
  have a22 : (eI h1 0 22 - 1).toInt = (eI h 0 22).toInt - 1 := by rw [f22, fb_subI (by omega) (by omega), z1]
  have b22 : (eI h1 0 22).toNatClampNeg = (eI h 0 22).toInt.toNat := by rw [Int32.toNatClampNeg, f22]
  have b23 : (eI h1 0 22 - 1).toNatClampNeg = (eI h 0 22).toInt.toNat - 1 := by rw [Int32.toNatClampNeg, a22]; omega
  refine ok_chk (by rw [f22]; omega) (ok_chk (by rw [a22]; omega) ?_)
  rw [b22, b23]
  have be := wt_below hk.2.1 hk.1 tp (by rw [f22, f23]; exact t.1.1)
  have b1 := HB_FE fe b
  have k2 : HK (sA (sA h1 0 24 (upd (eA h1 0 24) (eI h 0 22).toInt.toNat (eI h1 0 18))) 0 23 (upd (eA h1 0 23) ((eI h 0 22).toInt.toNat - 1) 5)) ((eI h 0 21).toInt + 0) := by
    obtain ⟨q1, q2, q3, q4, q5, q6, q7⟩ := hk
    show K0 (eI h1 0 16).toInt (eI h1 0 25).toInt (eI h1 0 36).toInt (eI h1 0 29).toInt (eI h1 0 22).toInt ((eI h 0 21).toInt + 0) (upd (eA h1 0 23) ((eI h 0 22).toInt.toNat - 1) 5) (eA h1 0 26) (eA h1 0 27) (eA h1 0 31) (eA h1 0 32) (eA h1 0 37) (eA h1 0 38)
    refine ⟨q1, WT_fr q2 (fun i hi => (q2 i hi).2.1) (fun i hi => upd_no ?_), q3, q4, q5, q6, q7⟩
    have z := be i hi
    have y := q2 i hi
    have rr := rk_lo (eA h1 0 26 i)
    rw [f22] at z
    omega
  refine ok_ob1 (u_nextB _ (show HB (sA (sA h1 0 24 (upd (eA h1 0 24) (eI h 0 22).toInt.toNat (eI h1 0 18))) 0 23 (upd (eA h1 0 23) ((eI h 0 22).toInt.toNat - 1) 5)) from b1)) (fun a ka => ok_some ?_)
  have nx := HK_next k2 (show HB (sA (sA h1 0 24 (upd (eA h1 0 24) (eI h 0 22).toInt.toNat (eI h1 0 18))) 0 23 (upd (eA h1 0 23) ((eI h 0 22).toInt.toNat - 1) 5)) from b1) ka.1 ka.2.1 ka.2.2 (show ¬ eI h1 0 17 = 0 by rw [fe.1 17 (by omega) (by omega), c3]; decide)
  have ba := ka.2.1
  have g22 : eI a 0 22 = eI h 0 22 := (ka.1.1 22 (by omega)).trans f22
  have g21 : eI a 0 21 = eI h 0 21 := (ka.1.1 21 (by omega)).trans f21
  have g29 : eI a 0 29 = eI h 0 29 := (ka.1.1 29 (by omega)).trans f29
  have g23 : eA a 0 23 = upd (eA h 0 23) ((eI h 0 22).toInt.toNat - 1) 5 := by
    rw [← f23]; exact ka.1.2 23
  have g24 : eA a 0 24 = upd (eA h 0 24) (eI h 0 22).toInt.toNat (eI h 0 18) := by
    rw [← f24, ← f18]; exact ka.1.2 24
  refine ⟨PF_sI (PF_NX (PF_sA (PF_sA (PF_FE fe) (by omega)) (by omega)) ka.1) (by omega), Or.inr ⟨⟨⟨ba.1, ba.2.1, ba.2.2.1, ba.2.2.2⟩, Or.inr (Or.inl ⟨rfl, 1, ?_, ?_, ?_, ?_⟩)⟩, ms_lt (Or.inr (Or.inr (Or.inr trivial))) ?_⟩⟩
  · show OPS (eI a 0 22).toInt (eI a 0 21).toInt 1 (eA a 0 23) (eA a 0 24)
    rw [g22, g21, g23, g24]
    refine ⟨(eI h 0 22).toInt.toNat - 1, by omega, fun i hi hi2 => absurd hi (by omega), Or.inr ⟨by omega, ?_, fun i h1 h2 => ?_, by omega, Or.inr ⟨upd_at, rfl, ?_⟩⟩⟩
    · rw [upd_no (by omega)]; exact x2
    · rw [upd_no (by omega)]; exact x3 i h1 (by omega)
    · have e : (eI h 0 22).toInt.toNat - 1 + 1 = (eI h 0 22).toInt.toNat := by omega
      rw [e, upd_at]; exact bn
  · show HK a ((eI a 0 21).toInt + 1)
    rw [g21]
    have := nx.1
    rw [Int.add_zero] at this
    exact this
  · show HC a 1
    exact HC_NX (h := sA (sA h1 0 24 (upd (eA h1 0 24) (eI h 0 22).toInt.toNat (eI h1 0 18))) 0 23 (upd (eA h1 0 23) ((eI h 0 22).toInt.toNat - 1) 5)) hc ka.1
  · show (eI a 0 29).toInt ≤ 23
    rw [g29]; exact n23
  · have : (eI h1 0 16).toInt + 1 ≤ (eI a 0 16).toInt := nx.2
    rw [f16] at this; exact this
theorem u_goesOn_65 (h : HS) (b : HB h) (s2 : eI h 0 28 = 2) {r : Int} (p : P2 h r) : ok (f_X9_goesOn_65 h (eA h 0 23 ((eI h 0 22).toInt.toNat - 1))) (fun a => PQ h a) := by
  have el := u_goesOn_116 h b s2 p
  unfold f_X9_goesOn_65 f_X9_goesOn_250
  obtain ⟨q, k, c, n23⟩ := p
  have o := OPS_r q
  have t := OPS_at q
  have hb := b.2.2.1
  have z1 : (1 : Int32).toInt = 1 := rfl
  refine ok_if (fun c6 => ?_) (fun _ => el)
  refine ok_ob2 (u_X9_isSign h 41) (fun r2 h2 k2 => ?_)
  have e2 : h = h2 := k2.1.symm
  subst e2
  refine ok_if (fun _ => el) (fun c2 => ?_)
  have s := (k2.2.2 c2).1
  have nc := t.2.1 (Or.inl c6)
  have o2 := OPS_r nc
  refine ok_ob1 (u_works 3 (by omega) (by omega) k c) (fun h1 kk => ?_)
  obtain ⟨fe, hk, hc, tp⟩ := kk
  have f22 : eI h1 0 22 = eI h 0 22 := fe.1 22 (by omega) (by omega)
  have f21 : eI h1 0 21 = eI h 0 21 := fe.1 21 (by omega) (by omega)
  have f23 : eA h1 0 23 = eA h 0 23 := fe.2 23 (by omega) (by omega)
  have f24 : eA h1 0 24 = eA h 0 24 := fe.2 24 (by omega) (by omega)
  have f16 : eI h1 0 16 = eI h 0 16 := fe.1 16 (by omega) (by omega)
  have f29 : eI h1 0 29 = eI h 0 29 := fe.1 29 (by omega) (by omega)
  have a22 : (eI h1 0 22 - 1).toInt = (eI h 0 22).toInt - 1 := by rw [f22, fb_subI (by omega) (by omega), z1]
  have a21 : (eI h1 0 21 - 1).toInt = (eI h 0 21).toInt - 1 := by rw [f21, fb_subI (by omega) (by omega), z1]
  have be := wt_below hk.2.1 hk.1 tp (by rw [f22, f23]; exact t.1.1)
  have b1 := HB_FE fe b
  have b3 : HB (sI (sI h1 0 22 (eI h1 0 22 - 1)) 0 21 (eI h1 0 21 - 1)) := ⟨b1.1, b1.2.1, by show 0 ≤ (eI h1 0 21 - 1).toInt ∧ (eI h1 0 21 - 1).toInt ≤ 8; rw [a21]; omega, b1.2.2.2⟩
  have k3 : HK (sI (sI h1 0 22 (eI h1 0 22 - 1)) 0 21 (eI h1 0 21 - 1)) ((eI h 0 21).toInt - 1 + r) := by
    obtain ⟨q1, q2, q3, q4, q5, q6, q7⟩ := hk
    show K0 (eI h1 0 16).toInt (eI h1 0 25).toInt (eI h1 0 36).toInt (eI h1 0 29).toInt (eI h1 0 22 - 1).toInt ((eI h 0 21).toInt - 1 + r) (eA h1 0 23) (eA h1 0 26) (eA h1 0 27) (eA h1 0 31) (eA h1 0 32) (eA h1 0 37) (eA h1 0 38)
    rw [a22]
    refine ⟨q1, WT_fr q2 (fun i hi => ?_) (fun i hi => rfl), q3, by omega, q5, q6, by omega⟩
    have := be i hi
    rw [f22] at this
    exact this
  refine ok_ob1 (u_nextB _ b3) (fun h9 k9 => ?_)
  have nx := HK_next k3 b3 k9.1 k9.2.1 k9.2.2 (show ¬ eI h1 0 17 = 0 by rw [fe.1 17 (by omega) (by omega), s]; decide)
  have g22 : (eI h9 0 22).toInt = (eI h 0 22).toInt - 1 := by rw [k9.1.1 22 (by omega)]; exact a22
  have g21 : (eI h9 0 21).toInt = (eI h 0 21).toInt - 1 := by rw [k9.1.1 21 (by omega)]; exact a21
  have g29 : eI h9 0 29 = eI h 0 29 := (k9.1.1 29 (by omega)).trans f29
  have g23 : eA h9 0 23 = eA h 0 23 := (k9.1.2 23).trans f23
  have g24 : eA h9 0 24 = eA h 0 24 := (k9.1.2 24).trans f24
  have p9 : P2 h9 r := by
    refine ⟨?_, ?_, HC_NX (h := sI (sI h1 0 22 (eI h1 0 22 - 1)) 0 21 (eI h1 0 21 - 1)) hc k9.1, ?_⟩
    · unfold HF; rw [g21, g22, g23, g24]; exact nc
    · rw [g21]
      obtain ⟨y1, y2, y3, y4, y5, y6, y7⟩ := nx.1
      exact ⟨y1, y2, y3, by omega, y5, y6, y7⟩
    · rw [g29]; exact n23
  refine ok_ob1 (u_oneIsOver (h := h) h9 r (PF_NX (PF_sI (PF_sI (PF_FE fe) (by omega)) (by omega)) k9.1) k9.2.1 p9) (fun a ka => ok_some ?_)
  obtain ⟨a1, a2, a3, a4, a5, a6⟩ := ka
  refine ⟨a1, Or.inr ⟨⟨a2, Or.inr (Or.inr (Or.inl ⟨a3, a4, a5⟩))⟩, ms_lt (Or.inr (Or.inr (Or.inr trivial))) ?_⟩⟩
  have : (eI h1 0 16).toInt + 1 ≤ (eI h9 0 16).toInt := nx.2
  rw [f16] at this
  rw [a6]; exact this
theorem u_goesOn (h : HS) (b : HB h) (s2 : eI h 0 28 = 2) (n7 : ¬ eA h 0 23 ((eI h 0 22).toInt.toNat - 1) = 7) {r : Int} (p : P2 h r) : ok (f_X9_goesOn h) (fun a => PQ h a) := by
  unfold f_X9_goesOn
  have o := OPS_r p.1
  have hb := b.2.2.1
  rw [top_eq (h := h) (by omega) (by omega)]
  show ok (if eI h 0 17 = 3 then _ else _) _
  have el := u_goesOn_65 h b s2 p
  refine ok_if (fun c3 => ?_) (fun _ => el)
  have go : ∀ x : Int32, BN x → 3 ≤ rk x → eI h 0 18 = x → ok (f_X9_goesOn_49 h) (fun a => PQ h a) := fun x bx rx e => u_goesOn_49 h b n7 p c3 (by rw [e]; exact bx) (by rw [e]; exact rx)
  refine ok_if (fun c => go 43 ⟨by decide, by decide, by decide, by decide, by decide⟩ (by decide) c) (fun _ => ?_)
  refine ok_if (fun c => go 45 ⟨by decide, by decide, by decide, by decide, by decide⟩ (by decide) c) (fun _ => ?_)
  refine ok_if (fun c => go 42 ⟨by decide, by decide, by decide, by decide, by decide⟩ (by decide) c) (fun _ => ?_)
  exact ok_if (fun c => go 47 ⟨by decide, by decide, by decide, by decide, by decide⟩ (by decide) c) (fun _ => el)
/-! asksOn -/
theorem u_asksOn (h : HS) (b : HB h) (s3 : eI h 0 28 = 3) (p : P3 h) : ok (f_X9_asksOn h) (fun a => PQ h a) := by
  obtain ⟨x1, x2, x3, k, c, n23⟩ := p
  have t0 : eA h 0 23 ((eI h 0 22).toInt.toNat - 1) = 2 := by rw [x1]; exact x3
  have go : ∀ o : Int32, BN o → eI h 0 17 = 1 → ok (f_X9_asksOn_37 h o) (fun a => PQ h a) := by
    intro o bn s
    unfold f_X9_asksOn_37 f_X9_asksOn_77
    refine ok_ob1 (u_waitsFor h o (d := 0) (b := 0) b (by rw [s]; decide) (by omega) (by omega) k c bn (by omega) (Or.inr t0) (by rw [t0]; decide) (by rw [t0]; decide)) (fun a ka => ok_some ?_)
    obtain ⟨a1, a2, a3, a4, a5, a6, a7, a8, a9, a10⟩ := ka
    refine ⟨PF_sI a1 (by omega), Or.inr ⟨⟨⟨a2.1, a2.2.1, a2.2.2.1, a2.2.2.2⟩, Or.inl ⟨rfl, ?_, ?_, a4, ?_⟩⟩, ms_lt (Or.inr (Or.inr (Or.inr trivial))) a5⟩⟩
    · show NOTS (eI a 0 22).toInt (eI a 0 21).toInt (eA a 0 23)
      rw [a6, a7, a9]
      exact ⟨by omega, by omega, x3, fun i h1 h2 => absurd h2 (by omega)⟩
    · show HK a (eI a 0 21).toInt
      rw [a6, x2]; exact a3
    · show (eI a 0 29).toInt ≤ 23
      rw [a8]; exact n23
  have g18 : eI h 0 17 = 1 → ok (f_X9_asksOn_18 h) (fun a => PQ h a) := by
    intro s
    unfold f_X9_asksOn_18
    refine ok_ob2 (u_X9_isWord h 10) (fun r2 h2 k2 => ?_)
    have e2 : h = h2 := k2.1.symm
    subst e2
    exact ok_if (fun _ => go 406 ⟨by decide, by decide, by decide, by decide, by decide⟩ s) (fun _ => go 407 ⟨by decide, by decide, by decide, by decide, by decide⟩ s)
  have er : ok (f_X9_asksOn_72 h) (fun a => PQ h a) := by
    unfold f_X9_asksOn_72 f_X9_asksOn_77
    exact ok_ob1 (err_ok 1 (by decide) b) (fun a ka => ok_some ka)
  unfold f_X9_asksOn
  refine ok_ob2 (u_X9_isWord h 10) (fun r1 h1 k1 => ?_)
  have e1 : h = h1 := k1.1.symm
  subst e1
  refine ok_if (fun _ => ?_) (fun c1 => g18 (k1.2.2 c1).1)
  refine ok_ob2 (u_X9_isWord h 11) (fun r2 h2 k2 => ?_)
  have e2 : h = h2 := k2.1.symm
  subst e2
  refine ok_if (fun _ => ?_) (fun c1 => g18 (k2.2.2 c1).1)
  rw [top_eq (h := h) (by omega) (by omega)]
  show ok (if eA h 0 23 ((eI h 0 22).toInt.toNat - 1) = 2 then _ else _) _
  refine ok_if (fun _ => ?_) (fun _ => er)
  refine ok_ob2 (u_X9_isSign h 59) (fun r3 h3 k3 => ?_)
  have e3 : h = h3 := k3.1.symm
  subst e3
  refine ok_if (fun _ => er) (fun c2 => ?_)
  have s := (k3.2.2 c2).1
  unfold f_X9_asksOn_77
  refine ok_ob1 (u_clauseIsOver h b (by rw [s]; decide) x1 x2 k c n23) (fun a ka => ok_some ?_)
  exact ⟨ka.1, Or.inr ⟨ka.2.1, ms_lt (Or.inr (Or.inr (Or.inr trivial))) ka.2.2⟩⟩
/-! clauses that do something -/
theorem u_errs2 {h : HS} (p : Int32) (hp : 0 < p.toInt) (h0 : 0 ≤ (eI h 0 19).toInt) : ok (f_X9_errs h p) (fun a => (∀ k : Nat, ¬ k = 19 → ¬ k = 20 → eI a 0 k = eI h 0 k) ∧ (∀ k : Nat, eA a 0 k = eA h 0 k) ∧ 0 < (eI a 0 19).toInt) := by
  unfold f_X9_errs f_X9_errs_20
  refine ok_if (fun c => ok_some ⟨fun k h1 h2 => (eI_ne h2).trans (eI_ne h1), fun k => rfl, hp⟩) (fun c => ok_some ⟨fun k _ _ => rfl, fun k => rfl, ?_⟩)
  have := gi_of_ne c
  have z0 : (0 : Int32).toInt = 0 := rfl
  omega
def D4 (c : HS) : Prop := (eI c 0 22).toInt = 0 ∧ (eI c 0 21).toInt = 0 ∧ (eI c 0 25).toInt = 0 ∧ HK c 0 ∧ 4 ≤ (eA c 0 31 (eI c 0 29).toInt.toNat).toInt
def DD (T : Int) (h c : HS) : Prop := PF h c ∧ (0 ≤ (eI c 0 29).toInt ∧ (eI c 0 29).toInt ≤ 23) ∧ (0 < (eI c 0 19).toInt ∨ (HB c ∧ D4 c ∧ T + 1 ≤ (eI c 0 16).toInt))
theorem DD_w {T : Int} {h c : HS} (d : DD T h c) : 0 ≤ (eI c 0 19).toInt := by
  rcases d.2.2 with q | q
  · omega
  · rw [q.1.1]; decide
theorem DD_err {T : Int} {h c : HS} (d : DD T h c) (p : Int32) (hp : 0 < p.toInt) : ok (f_X9_errs c p) (fun a => DD T h a) := by
  refine ok_mono (u_errs2 p hp (DD_w d)) (fun a k => ⟨⟨fun j hj => (k.1 j (by omega) (by omega)).trans (d.1.1 j hj), fun j hj => (k.2.1 j).trans (d.1.2 j hj)⟩, ?_, Or.inl k.2.2⟩)
  rw [k.1 29 (by omega) (by omega)]; exact d.2.1
theorem DD_next {T : Int} {h c : HS} (d : DD T h c) (w : eI c 0 19 = 0) : ok (f_X9_next c) (fun a => DD T h a) := by
  rcases d.2.2 with q | ⟨b, d4, t⟩
  · rw [w] at q; exact absurd q (by decide)
  refine ok_mono (u_nextB c b) (fun a k => ⟨PF_NX d.1 k.1, ?_, Or.inr ⟨k.2.1, ⟨?_, ?_, ?_, ?_, ?_⟩, ?_⟩⟩)
  · rw [k.1.1 29 (by omega)]; exact d.2.1
  · rw [k.1.1 22 (by omega)]; exact d4.1
  · rw [k.1.1 21 (by omega)]; exact d4.2.1
  · rw [k.1.1 25 (by omega)]; exact d4.2.2.1
  · have ⟨_, m2, m3, m4, _⟩ := k.2.1.2.1
    have ⟨l1, l2, _⟩ := b.2.1
    have := k.2.2
    exact HK_NX d4.2.2.2.1 k.1 (by omega) (by omega)
  · rw [k.1.1 29 (by omega), k.1.2 31]; exact d4.2.2.2.2
  · have ⟨l1, l2, _⟩ := b.2.1
    have := k.2.2
    omega
theorem DD_row {T : Int} {h c : HS} {a : Nat} {x : Nat → Int32} (d : DD T h c) (ha : 33 ≤ a ∧ a ≤ 35) : DD T h (sA c 0 a x) := by
  refine ⟨PF_sA d.1 (by omega), d.2.1, ?_⟩
  rcases d.2.2 with q | ⟨b, d4, t⟩
  · exact Or.inl q
  · refine Or.inr ⟨b, ⟨d4.1, d4.2.1, d4.2.2.1, ?_, ?_⟩, t⟩
    · obtain ⟨k1, k2, k3, k4, k5, k6, k7⟩ := d4.2.2.2.1
      show K0 (eI c 0 16).toInt (eI c 0 25).toInt (eI c 0 36).toInt (eI c 0 29).toInt (eI c 0 22).toInt 0 _ _ _ _ _ _ _
      rw [eA_ne (h := c) (a := a) (x := x) (k := 23) (by omega), eA_ne (h := c) (a := a) (x := x) (k := 26) (by omega), eA_ne (h := c) (a := a) (x := x) (k := 27) (by omega), eA_ne (h := c) (a := a) (x := x) (k := 31) (by omega), eA_ne (h := c) (a := a) (x := x) (k := 32) (by omega), eA_ne (h := c) (a := a) (x := x) (k := 37) (by omega), eA_ne (h := c) (a := a) (x := x) (k := 38) (by omega)]
      exact ⟨k1, k2, k3, k4, k5, k6, k7⟩
    · rw [eA_ne (h := c) (a := a) (x := x) (k := 31) (by omega)]; exact d4.2.2.2.2
theorem u_number {T : Int} {h c : HS} (d : DD T h c) (p q : Int32) : ok (f_X9_number c p q) (fun a => DD T h a.2) := by
  unfold f_X9_number f_X9_number_15
  have z0 : (0 : Int32).toInt = 0 := rfl
  refine ok_if (fun c1 => ok_ob1 (DD_err d 1 (by decide)) (fun a ka => ok_some ka)) (fun c1 => ?_)
  have d1 := gi_of_nlt c1
  have w : eI c 0 19 = 0 := gi_eq (by have := DD_w d; omega)
  refine ok_if (fun c2 => ?_) (fun c2 => ok_ob1 (DD_err d 1 (by decide)) (fun a ka => ok_some ka))
  refine ok_ob1 (u_X9_in _ p q) (fun r k => ok_if (fun _ => ok_ob1 (DD_err d 2 (by decide)) (fun a ka => ok_some ka)) (fun _ => ?_))
  exact ok_ob1 (DD_next d w) (fun a ka => ok_some ka)
theorem u_wants {T : Int} {h c : HS} (d : DD T h c) (p : Int32) : ok (f_X9_wants c p) (fun a => DD T h a) := by
  have w20 : ∀ c : HS, DD T h c → ok (f_X9_wants_20 c) (fun a => DD T h a) := by
    intro c d
    unfold f_X9_wants_20 f_X9_wants_31
    exact ok_if (fun w => ok_ob1 (DD_next d w) (fun a ka => ok_some ka)) (fun _ => ok_some d)
  unfold f_X9_wants
  refine ok_if (fun w => ?_) (fun _ => w20 c d)
  refine ok_ob2 (u_X9_isWord c p) (fun r2 h2 k2 => ?_)
  have e2 : c = h2 := k2.1.symm
  subst e2
  exact ok_if (fun _ => ok_ob1 (DD_err d 1 (by decide)) (fun a ka => w20 a ka)) (fun _ => w20 c d)
theorem u_wasTold_4 (h : HS) (w : (eI h 0 29).toInt ≤ 24) (x1 : Int32) : ∀ (n : Nat) (x2 x3 : Int32), (x2 = 0 ∨ x2 = 1) → 0 ≤ x3.toInt → 0 < n → (24 - x3.toInt : Int) < n → ok (f_X9_wasTold_4 n h x1 x2 x3) (fun a => a.2 = h) := by
  intro n
  induction n with
  | zero => intro x2 x3 hx i0 hn hm; exact absurd hn (by decide)
  | succ n ih =>
    intro x2 x3 hx i0 hn hm
    rw [f_X9_wasTold_4_s]
    unfold f_X9_wasTold_26 f_X9_wasTold_31
    refine ok_if (fun c => ok_chk hx (ok_some rfl)) (fun c => ?_)
    have d := gi_of_nle c
    have z1 : (1 : Int32).toInt = 1 := rfl
    have a := fb_addI (x := x3) (y := 1) (by omega) (by omega)
    refine ok_if (fun _ => ok_chk (by omega) (ok_if (fun _ => ?_) (fun _ => ?_))) (fun _ => ?_)
    · exact ih 1 (x3 + 1) (Or.inr rfl) (by omega) (by omega) (by omega)
    · exact ih 0 (x3 + 1) (Or.inl rfl) (by omega) (by omega) (by omega)
    · exact ih 1 (x3 + 1) (Or.inr rfl) (by omega) (by omega) (by omega)
theorem u_wasTold (h : HS) (w : (eI h 0 29).toInt ≤ 24) (x1 : Int32) : ok (f_X9_wasTold h x1) (fun a => a.2 = h) := by
  unfold f_X9_wasTold
  exact u_wasTold_4 h w x1 _ 0 0 (Or.inl rfl) (by decide) (by decide) (by have : (0 : Int32).toInt = 0 := rfl; omega)
def CQ (T : Int) (h a : HS) : Prop := PF h a ∧ (0 < (eI a 0 19).toInt ∨ (PI a ∧ T + 1 ≤ (eI a 0 16).toInt))
theorem u_clause_322 {T : Int} {h c : HS} (d : DD T h c) (g : 0 < (eI c 0 19).toInt ∨ ¬ eI c 0 17 = 0) : ok (f_X9_clause_322 c) (fun a => CQ T h a) := by
  unfold f_X9_clause_322 f_X9_clause_333
  refine ok_if (fun w => ?_) (fun w => ok_some ⟨d.1, Or.inl ?_⟩)
  · rcases d.2.2 with q | ⟨b, d4, t⟩
    · rw [w] at q; exact absurd q (by decide)
    have s : ¬ eI c 0 17 = 0 := by
      rcases g with g | g
      · rw [w] at g; exact absurd g (by decide)
      · exact g
    unfold f_X9_clauseIsOver
    rw [works_zero (h := c) (x1 := 1) d4.2.2.1]
    show ok (ob1 (ob1 (f_X9_emits (sI c 0 22 0) 408 0) _) _) _
    have k2 : HK (sI c 0 22 0) 0 := by
      obtain ⟨q1, q2, q3, q4, q5, q6, q7⟩ := d4.2.2.2.1
      show K0 (eI c 0 16).toInt (eI c 0 25).toInt (eI c 0 36).toInt (eI c 0 29).toInt (0 : Int32).toInt 0 (eA c 0 23) (eA c 0 26) (eA c 0 27) (eA c 0 31) (eA c 0 32) (eA c 0 37) (eA c 0 38)
      have w0 := d4.2.2.1
      refine ⟨q1, fun i hi => absurd hi (by omega), q3, q4, q5, q6, by decide⟩
    refine ok_ob1 (over_tail (h := h) (c := sI c 0 22 0) (PF_sI d.1 (by omega)) b s k2 d4.2.2.1 rfl d4.2.1 d.2.1.2 (Or.inl d4.2.2.2.2)) (fun a ka => ok_some ⟨ka.1, Or.inr ⟨ka.2.1, ?_⟩⟩)
    have : (eI c 0 16).toInt + 1 ≤ (eI a 0 16).toInt := ka.2.2
    omega
  · have := gi_of_ne w; have := DD_w d; have z0 : (0 : Int32).toInt = 0 := rfl; omega
theorem u_clause_301 {T : Int} {h c : HS} (d : DD T h c) : ok (f_X9_clause_301 c) (fun a => CQ T h a) := by
  unfold f_X9_clause_301
  refine ok_if (fun w => ?_) (fun w => u_clause_322 d (Or.inl ?_))
  · refine ok_ob2 (u_X9_isSign c 59) (fun r2 h2 k2 => ?_)
    have e2 : c = h2 := k2.1.symm
    subst e2
    refine ok_if (fun _ => ?_) (fun c2 => u_clause_322 d (Or.inr (by rw [(k2.2.2 c2).1]; decide)))
    refine ok_ob1 (u_errs2 1 (by decide) (DD_w d)) (fun a k => ?_)
    refine u_clause_322 (c := a) ⟨⟨fun j hj => (k.1 j (by omega) (by omega)).trans (d.1.1 j hj), fun j hj => (k.2.1 j).trans (d.1.2 j hj)⟩, ?_, Or.inl k.2.2⟩ (Or.inl k.2.2)
    rw [k.1 29 (by omega) (by omega)]; exact d.2.1
  · have := gi_of_ne w; have := DD_w d; have z0 : (0 : Int32).toInt = 0 := rfl; omega
theorem u_clause_218 {T : Int} {h c : HS} (d : DD T h c) (y0 y1 : Int32) (hy : 0 ≤ y1.toInt ∧ y1.toInt < 24) : ok (f_X9_clause_218 c y0 y1) (fun a => CQ T h a) := by
  unfold f_X9_clause_218
  refine ok_chk hy ?_
  have d1 := DD_row (x := upd (eA c 0 33) y1.toNatClampNeg y0) d (a := 33) (by omega)
  refine ok_if (fun _ => ?_) (fun _ => ok_if (fun _ => ?_) (fun _ => u_clause_301 d1))
  · refine ok_ob1 (u_wants d1 8) (fun h28 k28 => ?_)
    refine ok_ob2 (u_number k28 0 5) (fun r29 h29 k29 => ?_)
    refine ok_chk (by have := k28.2.1; omega) ?_
    refine ok_ob1 (u_wants (DD_row (a := 34) (show DD T h h29 from k29) (by omega)) 17) (fun h31 k31 => ?_)
    refine ok_ob2 (u_number k31 0 2) (fun r32 h32 k32 => ?_)
    refine ok_chk (by have := k31.2.1; omega) ?_
    exact u_clause_301 (DD_row (a := 35) (show DD T h h32 from k32) (by omega))
  · refine ok_ob1 (u_wants d1 9) (fun h25 k25 => ?_)
    refine ok_ob2 (u_number k25 0 3) (fun r26 h26 k26 => ?_)
    refine ok_chk (by have := k25.2.1; omega) ?_
    exact u_clause_301 (DD_row (a := 34) (show DD T h h26 from k26) (by omega))
theorem PO_nil (o v : Nat → Int32) (p : Nat) : PO o v p 0 0 := ⟨fun _ => 0, rfl, rfl, fun j hj => absurd hj (by omega)⟩
theorem u_clause_73 (c : HS) (b : HB c) (s4 : eI c 0 28 = 4) (p : P4 c) (n23 : (eI c 0 29).toInt ≤ 23) (hs : ¬ eI c 0 17 = 0) : ok (f_X9_clause_73 c) (fun a => CQ (eI c 0 16).toInt c a) := by
  unfold f_X9_clause_73
  have nb := b.2.2.2
  obtain ⟨p1, p2, p3, k⟩ := p
  have ck : 0 ≤ (eI c 0 29).toInt ∧ (eI c 0 29).toInt < 24 := by omega
  refine ok_if (fun _ => ?_) (fun w => absurd (by rw [b.1]; decide) w)
  refine ok_chk ck (ok_chk ck (ok_chk ck (ok_chk ck (ok_chk ck ?_))))
  have b29 : (eI c 0 29).toNatClampNeg = (eI c 0 29).toInt.toNat := by rw [Int32.toNatClampNeg]
  rw [b29]
  have kn := k.2.2.1
  have k2 : HK (sA (sA (sA (sA (sA c 0 31 (upd (eA c 0 31) (eI c 0 29).toInt.toNat (eI c 0 30))) 0 32 (upd (eA c 0 32) (eI c 0 29).toInt.toNat (eI c 0 36))) 0 33 (upd (eA c 0 33) (eI c 0 29).toInt.toNat (-1))) 0 34 (upd (eA c 0 34) (eI c 0 29).toInt.toNat (-1))) 0 35 (upd (eA c 0 35) (eI c 0 29).toInt.toNat (-1))) 0 := by
    obtain ⟨q1, q2, q3, q4, q5, q6, q7⟩ := k
    show K0 (eI c 0 16).toInt (eI c 0 25).toInt (eI c 0 36).toInt (eI c 0 29).toInt (eI c 0 22).toInt 0 (eA c 0 23) (eA c 0 26) (eA c 0 27) (upd (eA c 0 31) (eI c 0 29).toInt.toNat (eI c 0 30)) (upd (eA c 0 32) (eI c 0 29).toInt.toNat (eI c 0 36)) (eA c 0 37) (eA c 0 38)
    refine ⟨q1, q2, q3, q4, q5, ?_, q7⟩
    intro j hj
    rw [upd_no (by omega), upd_no (by omega)]
    exact q6 j hj
  have b2 : HB (sA (sA (sA (sA (sA c 0 31 (upd (eA c 0 31) (eI c 0 29).toInt.toNat (eI c 0 30))) 0 32 (upd (eA c 0 32) (eI c 0 29).toInt.toNat (eI c 0 36))) 0 33 (upd (eA c 0 33) (eI c 0 29).toInt.toNat (-1))) 0 34 (upd (eA c 0 34) (eI c 0 29).toInt.toNat (-1))) 0 35 (upd (eA c 0 35) (eI c 0 29).toInt.toNat (-1))) := b
  refine ok_ob1 (u_nextB _ b2) (fun a ka => ?_)
  have nx := HK_next k2 b2 ka.1 ka.2.1 ka.2.2 (show ¬ eI c 0 17 = 0 from hs)
  have t1 : (eI c 0 16).toInt + 1 ≤ (eI a 0 16).toInt := nx.2
  have pf : PF c a := PF_NX (PF_sA (PF_sA (PF_sA (PF_sA (PF_sA (PF_refl c) (by omega)) (by omega)) (by omega)) (by omega)) (by omega)) ka.1
  have f22 : eI a 0 22 = eI c 0 22 := ka.1.1 22 (by omega)
  have f21 : eI a 0 21 = eI c 0 21 := ka.1.1 21 (by omega)
  have f25 : eI a 0 25 = eI c 0 25 := ka.1.1 25 (by omega)
  have f29 : eI a 0 29 = eI c 0 29 := ka.1.1 29 (by omega)
  have f30 : eI a 0 30 = eI c 0 30 := ka.1.1 30 (by omega)
  have f36 : eI a 0 36 = eI c 0 36 := ka.1.1 36 (by omega)
  have f31 : eA a 0 31 = upd (eA c 0 31) (eI c 0 29).toInt.toNat (eI c 0 30) := ka.1.2 31
  have f32 : eA a 0 32 = upd (eA c 0 32) (eI c 0 29).toInt.toNat (eI c 0 36) := ka.1.2 32
  have ba := ka.2.1
  have k0 : HK a 0 := by
    obtain ⟨y1, y2, y3, y4, y5, y6, y7⟩ := nx.1
    exact ⟨y1, y2, y3, by omega, y5, y6, y7⟩
  have z3 : (3 : Int32).toInt = 3 := rfl; have z1 : (1 : Int32).toInt = 1 := rfl
  refine ok_if (fun c3 => ?_) (fun c3 => ?_)
  · have d3 := gi_of_lt c3
    have dd : DD (eI c 0 16).toInt c a := by
      refine ⟨pf, by rw [f29]; omega, Or.inr ⟨ba, ⟨by rw [f22]; exact p1, by rw [f21]; exact p2, by rw [f25]; exact p3, k0, ?_⟩, t1⟩⟩
      rw [f29, f31, upd_at, ← f30]; omega
    have hy : 0 ≤ (eI a 0 29).toInt ∧ (eI a 0 29).toInt < 24 := by rw [f29]; omega
    refine ok_if (fun _ => ?_) (fun _ => ?_)
    · exact ok_ob2 (u_number dd 1 99) (fun r h2 k2 => u_clause_218 (show DD _ c h2 from k2) r _ hy)
    · exact ok_ob2 (u_number dd 0 9) (fun r h2 k2 => u_clause_218 (show DD _ c h2 from k2) r _ hy)
  · have f0 : (eI a 0 22).toInt = 0 := by rw [f22]; exact p1
    have cu : ∀ f : Int32, HC (OF a f) 0 := by
      intro f
      show CUR (eI a 0 36).toInt ((eI a 0 25).toInt + 0) (eA a 0 32 (eI a 0 29).toInt.toNat).toInt (eA a 0 37) (eA a 0 38)
      rw [f29, f32, upd_at, ← f36, f25, p3]
      refine ⟨nx.1.2.2.1, by omega, ?_⟩
      rw [Int.sub_self]
      exact PO_nil _ _ _
    have en := of_no (h := a) (by omega) (by omega)
    have go : ∀ f : Int32, (f = 2 ∧ eI a 0 30 = 3) ∨ (f = 1 ∧ ¬ eI a 0 30 = 3) → ok (f_X9_clause_163 a f) (fun x => CQ (eI c 0 16).toInt c x) := by
      intro f hf
      unfold f_X9_clause_163 f_X9_clause_180
      rw [of_eq (h := a) (f := f) (by omega) (by omega)]
      show ok (if eI a 0 30 = 3 then some (sI (OF a f) 0 28 0) else some (sI (OF a f) 0 28 1)) _
      have hk := HK_OF (f := f) k0 (by omega) (by omega)
      have o0 : (eI a 0 21).toInt = 0 := by rw [f21]; exact p2
      rcases hf with ⟨hf, e3⟩ | ⟨hf, e3⟩
      · rw [if_pos e3]
        subst hf
        refine ok_some ⟨PF_sI (PF_OF pf) (by omega), Or.inr ⟨⟨⟨ba.1, ba.2.1, ba.2.2.1, ba.2.2.2⟩, Or.inl ⟨rfl, ?_, ?_, cu 2, ?_⟩⟩, t1⟩⟩
        · show NOTS (eI a 0 22 + 1).toInt (eI a 0 21).toInt (upd (eA a 0 23) (eI a 0 22).toInt.toNat 2)
          rw [en, f0]
          exact ⟨by omega, by omega, upd_at, fun i h1 h2 => absurd h2 (by omega)⟩
        · show HK (OF a 2) (eI a 0 21).toInt
          rw [o0]; exact hk
        · show (eI a 0 29).toInt ≤ 23
          rw [f29]; exact n23
      · rw [if_neg e3]
        subst hf
        refine ok_some ⟨PF_sI (PF_OF pf) (by omega), Or.inr ⟨⟨⟨ba.1, ba.2.1, ba.2.2.1, ba.2.2.2⟩, Or.inr (Or.inl ⟨rfl, 0, ?_, ?_, cu 1, ?_⟩)⟩, t1⟩⟩
        · show OPS (eI a 0 22 + 1).toInt (eI a 0 21).toInt 0 (upd (eA a 0 23) (eI a 0 22).toInt.toNat 1) (eA a 0 24)
          rw [en, f0]
          exact ⟨0, by omega, fun i h1 h2 => absurd h2 (by omega), Or.inl ⟨rfl, upd_at, by omega, rfl⟩⟩
        · show HK (OF a 1) ((eI a 0 21).toInt + 0)
          rw [o0]; exact hk
        · show (eI a 0 29).toInt ≤ 23
          rw [f29]; exact n23
    exact ok_if (fun e => go 2 (Or.inl ⟨rfl, e⟩)) (fun e => go 1 (Or.inr ⟨rfl, e⟩))
theorem clause_73_err {c : HS} (w : 0 < (eI c 0 19).toInt) : f_X9_clause_73 c = some c := by
  unfold f_X9_clause_73
  rw [if_neg (gi_nle (by have : (0 : Int32).toInt = 0 := rfl; omega))]
theorem u_clause (h : HS) (b : HB h) (s4 : eI h 0 28 = 4) (p : P4 h) : ok (f_X9_clause h) (fun a => PQ h a) := by
  unfold f_X9_clause f_X9_clause_17
  have er : ok (ob1 (f_X9_errs h 1) (fun h_7 => some h_7)) (fun a => PQ h a) := ok_ob1 (err_ok 1 (by decide) b) (fun a ka => ok_some ka)
  refine ok_if (fun c1 => ok_if (fun c2 => ?_) (fun _ => er)) (fun _ => er)
  have b0 : HB (sI h 0 30 (eI h 0 18)) := b
  have p0 : P4 (sI h 0 30 (eI h 0 18)) := p
  have f0 : PF h (sI h 0 30 (eI h 0 18)) := PF_sI (PF_refl h) (by omega)
  have c58 : ok (f_X9_clause_58 (sI h 0 30 (eI h 0 18))) (fun a => PQ h a) := by
    unfold f_X9_clause_58
    refine ok_if (fun _ => ?_) (fun c => ?_)
    · refine ok_ob1 (u_errs 6 (by decide) (show 0 ≤ (eI h 0 19).toInt by rw [b.1]; decide)) (fun a ka => ?_)
      rw [clause_73_err ka.2]
      exact ok_some ⟨PF_trans f0 ka.1, Or.inl ka.2⟩
    · have d := gi_of_ne c
      have z24 : (24 : Int32).toInt = 24 := rfl
      have nb : 0 ≤ (eI (sI h 0 30 (eI h 0 18)) 0 29).toInt ∧ (eI (sI h 0 30 (eI h 0 18)) 0 29).toInt ≤ 24 := b0.2.2.2
      refine ok_mono (u_clause_73 _ b0 s4 p0 (by omega) (show ¬ eI h 0 17 = 0 by rw [c1]; decide)) (fun a ka => ⟨PF_trans f0 ka.1, ?_⟩)
      rcases ka.2 with q | q
      · exact Or.inl q
      · exact Or.inr ⟨q.1, ms_lt (Or.inr (Or.inr (Or.inr trivial))) q.2⟩
  refine ok_if (fun _ => c58) (fun _ => ?_)
  refine ok_ob2 (u_wasTold (sI h 0 30 (eI h 0 18)) b.2.2.2.2 _) (fun r4 h4 k4 => ?_)
  have e4 : sI h 0 30 (eI h 0 18) = h4 := k4.symm
  subst e4
  refine ok_if (fun _ => c58) (fun _ => ?_)
  refine ok_ob1 (u_errs 4 (by decide) (show 0 ≤ (eI h 0 19).toInt by rw [b.1]; decide)) (fun a ka => ?_)
  rw [clause_73_err ka.2]
  exact ok_some ⟨PF_trans f0 ka.1, Or.inl ka.2⟩
/-! text: what was read is laid into its stretch -/
theorem PG_keep2 {o v o2 v2 : Nat → Int32} {p m : Nat} (h : PG o v p m) (e1 : ∀ j : Nat, p ≤ j → j < m → o2 j = o j) (e2 : ∀ j : Nat, p ≤ j → j < m → v2 j = v j) : PG o2 v2 p m := by
  obtain ⟨n, d, hn, he, hp⟩ := h
  exact ⟨n, d, hn, (e1 _ (by omega) hn).trans he, PO_keep hp (fun j hj => e1 _ (by omega) (by omega)) (fun j hj => e2 _ (by omega) (by omega))⟩
theorem PG_shift {o v o2 v2 : Nat → Int32} {p m b : Nat} (h : PG o v p m) (hm : m ≤ 400) (e1 : ∀ j : Nat, j < m → o2 (b + j) = o j) (e2 : ∀ j : Nat, j < m → v2 (b + j) = v j) : PG o2 v2 (b + p) (b + 400) := by
  obtain ⟨n, d, hn, he, dep, d0, dn, hs⟩ := h
  refine ⟨n, d, by omega, ?_, dep, d0, dn, fun j hj => ?_⟩
  · rw [Nat.add_assoc, e1 _ hn]; exact he
  · rw [Nat.add_assoc, e1 _ (by omega), e2 _ (by omega)]; exact hs j hj
def XQ (h0 a : HS) : Prop := IM a ∧ eA a 0 0 0 = eA h0 0 0 0 ∧ eA a 0 0 1 = eA h0 0 0 1
theorem u_text_318 {d : HS} (x1 : Int32) (t : Nat) (ht : x1.toInt = t) (t4 : t < 4) {Q : Int32 × HS → Prop} (n4 : (eI d 0 36).toInt ≤ 400) (hq : ∀ h : HS, (∀ k : Nat, eI h 0 k = eI d 0 k) → (∀ k : Nat, ¬ k = 12 → ¬ k = 13 → eA h 0 k = eA d 0 k) → (∀ j : Nat, (j : Int) < (eI d 0 36).toInt → eA h 0 12 (400 * t + j) = eA d 0 37 j ∧ eA h 0 13 (400 * t + j) = eA d 0 38 j) → (∀ j : Nat, (j < 400 * t ∨ 400 * t + 400 ≤ j) → eA h 0 12 j = eA d 0 12 j ∧ eA h 0 13 j = eA d 0 13 j) → Q (x1, sA h 0 0 (upd (eA h 0 0) 3 (eA h 0 0 3 + 1)))) : ∀ (n : Nat) (h : HS) (x2 : Int32), 0 ≤ x2.toInt → (∀ k : Nat, eI h 0 k = eI d 0 k) → (∀ k : Nat, ¬ k = 12 → ¬ k = 13 → eA h 0 k = eA d 0 k) → (∀ j : Nat, (j : Int) < x2.toInt → eA h 0 12 (400 * t + j) = eA d 0 37 j ∧ eA h 0 13 (400 * t + j) = eA d 0 38 j) → (∀ j : Nat, (j < 400 * t ∨ 400 * t + 400 ≤ j) → eA h 0 12 j = eA d 0 12 j ∧ eA h 0 13 j = eA d 0 13 j) → 0 < n → (400 - x2.toInt : Int) < n → ok (f_X9_text_318 n h x1 x2) Q := by
  intro n
  induction n with
  | zero => intro h x2 i0 e1 e2 e3 e4 hn hm; exact absurd hn (by decide)
  | succ n ih =>
    intro h x2 i0 e1 e2 e3 e4 hn hm
    rw [f_X9_text_318_s]
    refine ok_if (fun c => ok_some (hq h e1 e2 (fun j hj => e3 j ?_) e4)) (fun c => ?_)
    · have := gi_of_le c; rw [e1 36] at this; omega
    have dd := gi_of_nle c
    rw [e1 36] at dd
    have z1 : (1 : Int32).toInt = 1 := rfl
    have a2 : (x2 + 1).toInt = x2.toInt + 1 := by rw [fb_addI (by omega) (by omega), z1]
    have m1 : (400 * x1).toInt = 400 * x1.toInt := fb_mulJ rfl (by omega) (by omega)
    have m2 : (400 * x1 + x2).toInt = 400 * x1.toInt + x2.toInt := by rw [fb_addI (by omega) (by omega)]; omega
    have b1 : (400 * x1 + x2).toNatClampNeg = 400 * t + x2.toInt.toNat := by rw [Int32.toNatClampNeg, m2]; omega
    have b2 : x2.toNatClampNeg = x2.toInt.toNat := by rw [Int32.toNatClampNeg]
    have ck : 0 ≤ x2.toInt ∧ x2.toInt < 400 := by omega
    have ck2 : 0 ≤ (400 * x1 + x2).toInt ∧ (400 * x1 + x2).toInt < 1600 := by omega
    refine ok_chk ck (ok_chk ck2 (ok_chk ck (ok_chk ck2 ?_)))
    rw [b1, b2]
    refine ih _ (x2 + 1) (by omega) e1 (fun k h1 h2 => ?_) (fun j hj => ?_) (fun j hj => ?_) (by omega) (by omega)
    · exact (eA_ne (h := sA h 0 12 _) h2).trans ((eA_ne h1).trans (e2 k h1 h2))
    · show upd (eA h 0 12) (400 * t + x2.toInt.toNat) (eA h 0 37 x2.toInt.toNat) (400 * t + j) = _ ∧ upd (eA h 0 13) (400 * t + x2.toInt.toNat) (eA h 0 38 x2.toInt.toNat) (400 * t + j) = _
      by_cases ej : j = x2.toInt.toNat
      · subst ej
        rw [upd_at, upd_at, e2 37 (by omega) (by omega), e2 38 (by omega) (by omega)]
        exact ⟨rfl, rfl⟩
      · rw [upd_no (by omega), upd_no (by omega)]
        exact e3 j (by omega)
    · show upd (eA h 0 12) (400 * t + x2.toInt.toNat) (eA h 0 37 x2.toInt.toNat) j = _ ∧ upd (eA h 0 13) (400 * t + x2.toInt.toNat) (eA h 0 38 x2.toInt.toNat) j = _
      rw [upd_no (by omega), upd_no (by omega)]
      exact e4 j hj
theorem u_text_211 {d : HS} (x1 : Int32) (t : Nat) (ht : x1.toInt = t) (t4 : t < 4) {Q : Int32 × HS → Prop} (n4 : (eI d 0 29).toInt ≤ 24) (hq : ∀ h : HS, (∀ k : Nat, eI h 0 k = eI d 0 k) → (∀ k : Nat, (k < 7 ∨ 11 < k) → eA h 0 k = eA d 0 k) → (∀ j : Nat, (j : Int) < (eI d 0 29).toInt → eA h 0 7 (24 * t + j) = eA d 0 31 j ∧ eA h 0 8 (24 * t + j) = 400 * x1 + eA d 0 32 j) → (∀ j : Nat, (j < 24 * t ∨ 24 * t + 24 ≤ j) → eA h 0 7 j = eA d 0 7 j ∧ eA h 0 8 j = eA d 0 8 j) → ok (f_X9_text_318 8589934592 h x1 0) Q) : ∀ (n : Nat) (h : HS) (x2 : Int32), 0 ≤ x2.toInt → (∀ k : Nat, eI h 0 k = eI d 0 k) → (∀ k : Nat, (k < 7 ∨ 11 < k) → eA h 0 k = eA d 0 k) → (∀ j : Nat, (j : Int) < x2.toInt → eA h 0 7 (24 * t + j) = eA d 0 31 j ∧ eA h 0 8 (24 * t + j) = 400 * x1 + eA d 0 32 j) → (∀ j : Nat, (j < 24 * t ∨ 24 * t + 24 ≤ j) → eA h 0 7 j = eA d 0 7 j ∧ eA h 0 8 j = eA d 0 8 j) → 0 < n → (24 - x2.toInt : Int) < n → ok (f_X9_text_211 n h x1 x2) Q := by
  intro n
  induction n with
  | zero => intro h x2 i0 e1 e2 e3 e4 hn hm; exact absurd hn (by decide)
  | succ n ih =>
    intro h x2 i0 e1 e2 e3 e4 hn hm
    rw [f_X9_text_211_s]
    refine ok_if (fun c => hq h e1 e2 (fun j hj => e3 j ?_) e4) (fun c => ?_)
    · have := gi_of_le c; rw [e1 29] at this; omega
    have dd := gi_of_nle c
    rw [e1 29] at dd
    have z1 : (1 : Int32).toInt = 1 := rfl
    have a2 : (x2 + 1).toInt = x2.toInt + 1 := by rw [fb_addI (by omega) (by omega), z1]
    have m1 : (24 * x1).toInt = 24 * x1.toInt := fb_mulJ rfl (by omega) (by omega)
    have m2 : (24 * x1 + x2).toInt = 24 * x1.toInt + x2.toInt := by rw [fb_addI (by omega) (by omega)]; omega
    have b1 : (24 * x1 + x2).toNatClampNeg = 24 * t + x2.toInt.toNat := by rw [Int32.toNatClampNeg, m2]; omega
    have b2 : x2.toNatClampNeg = x2.toInt.toNat := by rw [Int32.toNatClampNeg]
    have ck : 0 ≤ x2.toInt ∧ x2.toInt < 24 := by omega
    have ck2 : 0 ≤ (24 * x1 + x2).toInt ∧ (24 * x1 + x2).toInt < 96 := by omega
    refine ok_chk ck (ok_chk ck2 (ok_chk ck (ok_chk ck2 (ok_chk ck (ok_chk ck2 (ok_chk ck (ok_chk ck2 (ok_chk ck (ok_chk ck2 ?_)))))))))
    rw [b1, b2]
    refine ih _ (x2 + 1) (by omega) e1 (fun k h1 => ?_) (fun j hj => ?_) (fun j hj => ?_) (by omega) (by omega)
    · exact (eA_ne (h := sA (sA (sA (sA h 0 7 _) 0 8 _) 0 9 _) 0 10 _) (by omega)).trans ((eA_ne (h := sA (sA (sA h 0 7 _) 0 8 _) 0 9 _) (by omega)).trans ((eA_ne (h := sA (sA h 0 7 _) 0 8 _) (by omega)).trans ((eA_ne (h := sA h 0 7 _) (by omega)).trans ((eA_ne (by omega)).trans (e2 k h1)))))
    · show upd (eA h 0 7) (24 * t + x2.toInt.toNat) (eA h 0 31 x2.toInt.toNat) (24 * t + j) = _ ∧ upd (eA h 0 8) (24 * t + x2.toInt.toNat) (400 * x1 + eA h 0 32 x2.toInt.toNat) (24 * t + j) = _
      by_cases ej : j = x2.toInt.toNat
      · subst ej
        rw [upd_at, upd_at, e2 31 (by omega), e2 32 (by omega)]
        exact ⟨rfl, rfl⟩
      · rw [upd_no (by omega), upd_no (by omega)]
        exact e3 j (by omega)
    · show upd (eA h 0 7) (24 * t + x2.toInt.toNat) (eA h 0 31 x2.toInt.toNat) j = _ ∧ upd (eA h 0 8) (24 * t + x2.toInt.toNat) (400 * x1 + eA h 0 32 x2.toInt.toNat) j = _
      rw [upd_no (by omega), upd_no (by omega)]
      exact e4 j hj
theorem u_text_167 {h0 : HS} (c : HS) (s : SM h0 c) (w3 : (eA h0 0 0 3).toInt ≤ 3) (g : 0 < (eI c 0 19).toInt ∨ (HB c ∧ P4 c)) : ok (f_X9_text_167 c) (fun a => XQ h0 a.2) := by
  unfold f_X9_text_167
  have z0 : (0 : Int32).toInt = 0 := rfl; have z1 : (1 : Int32).toInt = 1 := rfl
  have r0 := s.2.1
  refine ok_if (fun cw => ?_) (fun cw => ok_some ⟨s.1, by show eA c 0 0 0 = _; rw [r0], by show eA c 0 0 1 = _; rw [r0]⟩)
  have dw := gi_of_le cw
  have g : HB c ∧ P4 c := by
    rcases g with g | g
    · omega
    · exact g
  obtain ⟨b, p1, p2, p3, k⟩ := g
  obtain ⟨q1, q2, q3, q4, q5, q6, q7⟩ := k
  have hn := IM_n s.1
  have w3c : (eA c 0 0 3).toInt ≤ 3 := by rw [r0]; exact w3
  refine ok_chk (by omega) ?_
  have b3 : (eA c 0 0 3).toNatClampNeg = (eA c 0 0 3).toInt.toNat := by rw [Int32.toNatClampNeg]
  rw [b3]
  have nb := b.2.2.2
  refine u_text_211 (d := sA (sI (sI c 0 4 (eI c 0 19)) 0 5 (eI c 0 20)) 0 6 (upd (eA c 0 6) (eA c 0 0 3).toInt.toNat (eI c 0 29))) (eA c 0 0 3) (eA c 0 0 3).toInt.toNat (by omega) (by omega) nb.2 (fun h e1 e2 e3 e4 => ?_) _ _ 0 (by decide) (fun _ => rfl) (fun _ _ => rfl) (fun j hj => absurd hj (by omega)) (fun j hj => ⟨rfl, rfl⟩) (by decide) (by omega)
  refine u_text_318 (d := h) (eA c 0 0 3) (eA c 0 0 3).toInt.toNat (by omega) (by omega) (by rw [e1 36]; show (eI c 0 36).toInt ≤ 400; omega) (fun e f1 f2 f3 f4 => ?_) _ h 0 (by decide) (fun _ => rfl) (fun _ _ _ => rfl) (fun j hj => absurd hj (by omega)) (fun j hj => ⟨rfl, rfl⟩) (by decide) (by omega)
  have g0 : eA e 0 0 = eA c 0 0 := (f2 0 (by omega) (by omega)).trans (e2 0 (by omega))
  have g1 : eA e 0 1 = eA c 0 1 := (f2 1 (by omega) (by omega)).trans (e2 1 (by omega))
  have g6 : eA e 0 6 = upd (eA c 0 6) (eA c 0 0 3).toInt.toNat (eI c 0 29) := (f2 6 (by omega) (by omega)).trans (e2 6 (by omega))
  have g7 : eA e 0 7 = eA h 0 7 := f2 7 (by omega) (by omega)
  have g8 : eA e 0 8 = eA h 0 8 := f2 8 (by omega) (by omega)
  have g48 : eA e 0 48 = eA c 0 48 := (f2 48 (by omega) (by omega)).trans (e2 48 (by omega))
  have g49 : eA e 0 49 = eA c 0 49 := (f2 49 (by omega) (by omega)).trans (e2 49 (by omega))
  have i3 : eI e 0 3 = eI c 0 3 := (f1 3).trans (e1 3)
  have i47 : eI e 0 47 = eI c 0 47 := (f1 47).trans (e1 47)
  have i36 : eI h 0 36 = eI c 0 36 := e1 36
  have i29 : eI h 0 29 = eI c 0 29 := e1 29
  have a37 : eA h 0 37 = eA c 0 37 := e2 37 (by omega)
  have a38 : eA h 0 38 = eA c 0 38 := e2 38 (by omega)
  have a12 : eA h 0 12 = eA c 0 12 := e2 12 (by omega)
  have a13 : eA h 0 13 = eA c 0 13 := e2 13 (by omega)
  obtain ⟨⟨nm, ro, ro1, tx, ch⟩, _⟩ := s
  have un : ∀ j : Nat, ¬ j = 3 → upd (eA e 0 0) 3 (eA e 0 0 3 + 1) j = eA c 0 0 j := fun j hj => by rw [upd_no hj, g0]
  have u3 : upd (eA e 0 0) 3 (eA e 0 0 3 + 1) 3 = eA c 0 0 3 + 1 := by rw [upd_at, g0]
  have e5 : (eA c 0 0 3 + 1).toInt = (eA c 0 0 3).toInt + 1 := by rw [fb_addI (by omega) (by omega), z1]
  refine ⟨⟨?_, ⟨?_, GB_shift ro.2.1 (fun j hj => un _ (by omega)), fun q hq => GB_shift (ro.2.2 q hq) (fun j hj => un _ (by omega))⟩, ?_, ?_, ?_⟩, ?_, ?_⟩
  · show (0 ≤ (eI e 0 3).toInt ∧ (eI e 0 3).toInt ≤ 300) ∧ (0 ≤ (eI e 0 47).toInt ∧ (eI e 0 47).toInt ≤ 10)
    rw [i3, i47]; exact nm
  · obtain ⟨c0, c1, c3, c4, c5⟩ := ro.1
    unfold RC
    show (0 ≤ (upd (eA e 0 0) 3 (eA e 0 0 3 + 1) 0).toInt ∧ (upd (eA e 0 0) 3 (eA e 0 0 3 + 1) 0).toInt ≤ 4) ∧ (0 ≤ (upd (eA e 0 0) 3 (eA e 0 0 3 + 1) 1).toInt ∧ (upd (eA e 0 0) 3 (eA e 0 0 3 + 1) 1).toInt ≤ 10) ∧ (0 ≤ (upd (eA e 0 0) 3 (eA e 0 0 3 + 1) 3).toInt ∧ (upd (eA e 0 0) 3 (eA e 0 0 3 + 1) 3).toInt ≤ 4) ∧ (-1 ≤ (upd (eA e 0 0) 3 (eA e 0 0 3 + 1) 4).toInt ∧ (upd (eA e 0 0) 3 (eA e 0 0 3 + 1) 4).toInt < (upd (eA e 0 0) 3 (eA e 0 0 3 + 1) 3).toInt) ∧ (0 ≤ (upd (eA e 0 0) 3 (eA e 0 0 3 + 1) 5).toInt ∧ (upd (eA e 0 0) 3 (eA e 0 0 3 + 1) 5).toInt ≤ 20)
    rw [u3, un 0 (by omega), un 1 (by omega), un 4 (by omega), un 5 (by omega), e5]
    exact ⟨c0, c1, by omega, by omega, c5⟩
  · show RO (eA e 0 1)
    rw [g1]; exact ro1
  · show TX e
    intro q hq
    have st := eA c 0 0 3
    by_cases eq : q = (eA c 0 0 3).toInt.toNat
    · rw [g6, eq, upd_at, g7, g8]
      refine ⟨nb, fun j hj hw => ?_⟩
      have x := e3 j hj
      rw [x.1] at hw
      rw [x.2]
      obtain ⟨y0, y⟩ := q6 j hj hw
      have yl : (eA c 0 32 j).toInt < 300 := by
        obtain ⟨n, d, yn, _⟩ := y
        omega
      have m1 : (400 * eA c 0 0 3).toInt = 400 * (eA c 0 0 3).toInt := fb_mulJ rfl (by omega) (by omega)
      have m2 : (400 * eA c 0 0 3 + eA c 0 32 j).toInt = 400 * (eA c 0 0 3).toInt + (eA c 0 32 j).toInt := by rw [fb_addI (by omega) (by omega)]; omega
      refine ⟨?_, ?_⟩
      · show 400 * (((eA c 0 0 3).toInt.toNat : Nat) : Int) ≤ (400 * eA c 0 0 3 + eA c 0 32 j).toInt
        rw [m2]; omega
      · show PG (eA e 0 12) (eA e 0 13) (400 * eA c 0 0 3 + eA c 0 32 j).toInt.toNat (400 * (eA c 0 0 3).toInt.toNat + 400)
        have m3 : (400 * eA c 0 0 3 + eA c 0 32 j).toInt.toNat = 400 * (eA c 0 0 3).toInt.toNat + (eA c 0 32 j).toInt.toNat := by rw [m2]; omega
        rw [m3]
        refine PG_shift y (by omega) (fun i hi => ?_) (fun i hi => ?_)
        · have := (f3 i (by rw [i36]; omega)).1
          rw [this, a37]
        · have := (f3 i (by rw [i36]; omega)).2
          rw [this, a38]
    · have t1 := tx q hq
      rw [g6, upd_no eq, g7, g8]
      refine ⟨t1.1, fun j hj hw => ?_⟩
      have x := e4 (24 * q + j) (by omega)
      have x7 : eA h 0 7 (24 * q + j) = eA c 0 7 (24 * q + j) := x.1
      have x8 : eA h 0 8 (24 * q + j) = eA c 0 8 (24 * q + j) := x.2
      rw [x7] at hw
      rw [x8]
      obtain ⟨y0, y⟩ := t1.2 j hj hw
      refine ⟨y0, PG_keep2 y (fun i h1 h2 => ?_) (fun i h1 h2 => ?_)⟩
      · have := (f4 i (by omega)).1
        rw [this, a12]
      · have := (f4 i (by omega)).2
        rw [this, a13]
  · show CH (eA e 0 48) (eA e 0 49)
    rw [g48, g49]; exact ch
  · show upd (eA e 0 0) 3 (eA e 0 0 3 + 1) 0 = _
    rw [un 0 (by omega), r0]
  · show upd (eA e 0 0) 3 (eA e 0 0 3 + 1) 1 = _
    rw [un 1 (by omega), r0]
theorem u_text_74 {h0 : HS} (w3 : (eA h0 0 0 3).toInt ≤ 3) : ∀ (n : Nat) (c : HS), SM h0 c → (0 < (eI c 0 19).toInt ∨ (PI c ∧ MS c + 1 < n)) → 0 < n → ok (f_X9_text_74 n c) (fun a => XQ h0 a.2) := by
  intro n
  induction n with
  | zero => intro c s g hn; exact absurd hn (by decide)
  | succ n ih =>
    intro c s g hn
    rw [f_X9_text_74_s]
    have z0 : (0 : Int32).toInt = 0 := rfl
    by_cases w : eI c 0 19 = 0
    · rw [if_pos w]
      have g : PI c ∧ MS c + 1 < ((n + 1 : Nat) : Int) := by
        rcases g with g | g
        · rw [w] at g; exact absurd g (by decide)
        · exact g
      obtain ⟨⟨b, p⟩, hm⟩ := g
      have m0 : 0 ≤ MS c := by
        have ⟨l1, l2, l3, l4, _⟩ := b.2.1
        unfold MS
        split <;> omega
      have go : ∀ a : HS, PQ c a → ok (f_X9_text_74 n a) (fun a => XQ h0 a.2) := by
        intro a q
        refine ih a (SM_PF s q.1) ?_ (by omega)
        rcases q.2 with x | x
        · exact Or.inl x
        · exact Or.inr ⟨x.1, by omega⟩
      have stp : ∀ x : Int32, eI c 0 28 = x → ¬ (x = 4 ∧ eI c 0 17 = 0) → ok (f_X9_text_96 (f_X9_text_74 n) c) (fun a => XQ h0 a.2) := by
        intro x ex _
        unfold f_X9_text_96
        rcases p with p | ⟨s1, r, p⟩ | ⟨s2, n7, r, p⟩ | ⟨s3, p⟩ | ⟨s4, p⟩
        · rw [if_pos p.1]
          exact ok_ob1 (u_asks c b p) (fun a k => go a k)
        · rw [s1, if_neg (by decide), if_pos rfl]
          exact ok_ob1 (u_begins c b s1 p) (fun a k => go a k)
        · rw [s2, if_neg (by decide), if_neg (by decide), if_pos rfl]
          exact ok_ob1 (u_goesOn c b s2 n7 p) (fun a k => go a k)
        · rw [s3, if_neg (by decide), if_neg (by decide), if_neg (by decide), if_pos rfl]
          exact ok_ob1 (u_asksOn c b s3 p) (fun a k => go a k)
        · rw [s4, if_neg (by decide), if_neg (by decide), if_neg (by decide), if_neg (by decide)]
          exact ok_ob1 (u_clause c b s4 p) (fun a k => go a k)
      refine ok_if (fun c4 => ok_if (fun c0 => ?_) (fun c0 => stp _ rfl (fun q => c0 q.2))) (fun c4 => stp _ rfl (fun q => c4 q.1))
      refine u_text_167 c s w3 (Or.inr ⟨b, ?_⟩)
      rcases p with p | ⟨s1, _⟩ | ⟨s2, _⟩ | ⟨s3, _⟩ | ⟨s4, p⟩
      · rw [p.1] at c4; exact absurd c4 (by decide)
      · rw [s1] at c4; exact absurd c4 (by decide)
      · rw [s2] at c4; exact absurd c4 (by decide)
      · rw [s3] at c4; exact absurd c4 (by decide)
      · exact p
    · rw [if_neg w]
      refine u_text_167 c s w3 (Or.inl ?_)
      rcases g with g | g
      · exact g
      · exact absurd g.1.1.1 w
theorem u_X9_text (h : HS) (hI : IM h) : ok (f_X9_text h) (fun a => XQ h a.2) := by
  unfold f_X9_text
  refine ok_if (fun c => ok_some ⟨hI, rfl, rfl⟩) (fun c => ?_)
  have d := gi_of_ne c
  have hn := IM_n hI
  have z4 : (4 : Int32).toInt = 4 := rfl; have z0 : (0 : Int32).toInt = 0 := rfl
  generalize hc : sI (sI (sI (sI (sI (sI (sI (sI (sI (sI (sI h 0 14 (eI h 0 3)) 0 3 0) 0 15 0) 0 19 0) 0 20 (-1)) 0 21 0) 0 22 0) 0 25 0) 0 28 4) 0 29 0) 0 36 0 = c0
  have e14 : eI c0 0 14 = eI h 0 3 := by rw [← hc]; rfl
  have e15 : eI c0 0 15 = 0 := by rw [← hc]; rfl
  have e19 : eI c0 0 19 = 0 := by rw [← hc]; rfl
  have e21 : eI c0 0 21 = 0 := by rw [← hc]; rfl
  have e22 : eI c0 0 22 = 0 := by rw [← hc]; rfl
  have e25 : eI c0 0 25 = 0 := by rw [← hc]; rfl
  have e28 : eI c0 0 28 = 4 := by rw [← hc]; rfl
  have e29 : eI c0 0 29 = 0 := by rw [← hc]; rfl
  have e36 : eI c0 0 36 = 0 := by rw [← hc]; rfl
  have s0 : SM h c0 := by
    rw [← hc]
    obtain ⟨⟨_, n47⟩, r⟩ := hI
    exact ⟨⟨⟨⟨by show 0 ≤ (0 : Int32).toInt; decide, by show (0 : Int32).toInt ≤ 300; decide⟩, n47⟩, r⟩, rfl, rfl, rfl, rfl⟩
  refine ok_ob1 (u_X9_next c0 (by rw [e14, e15]; omega)) (fun a ka => ?_)
  have f := ka.1.1
  have ⟨l1, l2, l3, l4, _⟩ := ka.2.1
  refine u_text_74 (by omega) _ a (SM_NX s0 ka.1) (Or.inr ⟨⟨⟨?_, ka.2.1, ?_, ?_⟩, Or.inr (Or.inr (Or.inr (Or.inr ⟨?_, ?_, ?_, ?_, ?_⟩)))⟩, ?_⟩) (by decide)
  · rw [f 19 (by omega)]; exact e19
  · rw [f 21 (by omega), e21]; decide
  · rw [f 29 (by omega), e29]; decide
  · rw [f 28 (by omega)]; exact e28
  · rw [f 22 (by omega), e22]; rfl
  · rw [f 21 (by omega), e21]; rfl
  · rw [f 25 (by omega), e25]; rfl
  · unfold HK K0
    rw [f 25 (by omega), f 36 (by omega), f 29 (by omega), f 22 (by omega), e25, e36, e29, e22]
    refine ⟨by decide, fun i hi => absurd hi (by omega), by decide, by omega, by omega, fun j hj => absurd hj (by omega), by decide⟩
  · unfold MS
    split <;> omega
/-! what an answer keeps, where there is one -/
def pk {α : Type} (x : Option α) (Q : α → Prop) : Prop := ∀ a, x = some a → Q a
theorem pk_none {α : Type} {Q : α → Prop} : pk none Q := fun _ h => by cases h
theorem pk_some {α : Type} {a : α} {Q : α → Prop} (h : Q a) : pk (some a) Q := fun b e => by cases e; exact h
theorem pk_if {α : Type} {c : Prop} [Decidable c] {x y : Option α} {Q : α → Prop} (h1 : c → pk x Q) (h2 : ¬ c → pk y Q) : pk (if c then x else y) Q := by
  by_cases hc : c
  · rw [if_pos hc]; exact h1 hc
  · rw [if_neg hc]; exact h2 hc
theorem pk_chk {α : Type} {c : Prop} [Decidable c] {x : Option α} {Q : α → Prop} (h : c → pk x Q) : pk (if c then x else none) Q := pk_if h (fun _ => pk_none)
theorem pk_ob2 {α β γ : Type} {x : Option (α × β)} {g : α → β → Option γ} {P : α × β → Prop} {Q : γ → Prop} (h : pk x P) (k : ∀ a b, P (a, b) → pk (g a b) Q) : pk (ob2 x g) Q := by
  intro y e
  obtain ⟨a, b, e1, e2⟩ := ob2_some e
  exact k a b (h _ e1) y e2
theorem pk_ob1 {α γ : Type} {x : Option α} {g : α → Option γ} {P : α → Prop} {Q : γ → Prop} (h : pk x P) (k : ∀ a, P a → pk (g a) Q) : pk (ob1 x g) Q := by
  intro y e
  obtain ⟨a, e1, e2⟩ := ob1_some e
  exact k a (h _ e1) y e2
theorem pk_obf {α γ : Type} {x : Option α} {g : α → Option γ} {Q : γ → Prop} (k : ∀ a, pk (g a) Q) : pk (ob1 x g) Q := pk_ob1 (P := fun _ => True) (fun _ _ => trivial) (fun a _ => k a)
theorem pk_mono {α : Type} {x : Option α} {P Q : α → Prop} (h : pk x P) (k : ∀ a, P a → Q a) : pk x Q := fun a e => k a (h a e)
abbrev CL : Type := List (Nat × Nat × Nat)
def Fr (S : CL) (h c : HS) : Prop := (∀ o k : Nat, (0, o, k) ∉ S → eI c o k = eI h o k) ∧ (∀ o k : Nat, (1, o, k) ∉ S → eA c o k = eA h o k) ∧ (∀ o k : Nat, (2, o, k) ∉ S → eL c o k = eL h o k) ∧ (∀ o k : Nat, (3, o, k) ∉ S → eJ c o k = eJ h o k)
theorem Fr_refl (S : CL) (h : HS) : Fr S h h := ⟨fun _ _ _ => rfl, fun _ _ _ => rfl, fun _ _ _ => rfl, fun _ _ _ => rfl⟩
theorem Fr_trans {S : CL} {a b c : HS} (x : Fr S a b) (y : Fr S b c) : Fr S a c := ⟨fun o k h => (y.1 o k h).trans (x.1 o k h), fun o k h => (y.2.1 o k h).trans (x.2.1 o k h), fun o k h => (y.2.2.1 o k h).trans (x.2.2.1 o k h), fun o k h => (y.2.2.2 o k h).trans (x.2.2.2 o k h)⟩
theorem Fr_mono {S T : CL} {a b : HS} (m : ∀ x ∈ S, x ∈ T) (x : Fr S a b) : Fr T a b := ⟨fun o k h => x.1 o k (fun i => h (m _ i)), fun o k h => x.2.1 o k (fun i => h (m _ i)), fun o k h => x.2.2.1 o k (fun i => h (m _ i)), fun o k h => x.2.2.2 o k (fun i => h (m _ i))⟩
theorem Fr_sI {S : CL} {h c : HS} {o k : Nat} {v : Int32} (m : (0, o, k) ∈ S) (x : Fr S h c) : Fr S h (sI c o k v) := by
  refine ⟨fun o' k' n => ?_, x.2.1, x.2.2.1, x.2.2.2⟩
  rw [← x.1 o' k' n]
  show (if o' = o then (if k' = k then v else c.1 o' k') else c.1 o' k') = c.1 o' k'
  by_cases h1 : o' = o
  · by_cases h2 : k' = k
    · subst h1; subst h2; exact absurd m n
    · rw [if_pos h1, if_neg h2]
  · rw [if_neg h1]
theorem Fr_sA {S : CL} {h c : HS} {o k : Nat} {v : Nat → Int32} (m : (1, o, k) ∈ S) (x : Fr S h c) : Fr S h (sA c o k v) := by
  refine ⟨x.1, fun o' k' n => ?_, x.2.2.1, x.2.2.2⟩
  rw [← x.2.1 o' k' n]
  show (if o' = o then (if k' = k then v else c.2.1 o' k') else c.2.1 o' k') = c.2.1 o' k'
  by_cases h1 : o' = o
  · by_cases h2 : k' = k
    · subst h1; subst h2; exact absurd m n
    · rw [if_pos h1, if_neg h2]
  · rw [if_neg h1]
theorem Fr_sL {S : CL} {h c : HS} {o k : Nat} {v : Int64} (m : (2, o, k) ∈ S) (x : Fr S h c) : Fr S h (sL c o k v) := by
  refine ⟨x.1, x.2.1, fun o' k' n => ?_, x.2.2.2⟩
  rw [← x.2.2.1 o' k' n]
  show (if o' = o then (if k' = k then v else c.2.2.1 o' k') else c.2.2.1 o' k') = c.2.2.1 o' k'
  by_cases h1 : o' = o
  · by_cases h2 : k' = k
    · subst h1; subst h2; exact absurd m n
    · rw [if_pos h1, if_neg h2]
  · rw [if_neg h1]
theorem Fr_sJ {S : CL} {h c : HS} {o k : Nat} {v : Nat → Int64} (m : (3, o, k) ∈ S) (x : Fr S h c) : Fr S h (sJ c o k v) := by
  refine ⟨x.1, x.2.1, x.2.2.1, fun o' k' n => ?_⟩
  rw [← x.2.2.2 o' k' n]
  show (if o' = o then (if k' = k then v else c.2.2.2 o' k') else c.2.2.2 o' k') = c.2.2.2 o' k'
  by_cases h1 : o' = o
  · by_cases h2 : k' = k
    · subst h1; subst h2; exact absurd m n
    · rw [if_pos h1, if_neg h2]
  · rw [if_neg h1]
def S_X9_copies_2 : CL := [(1, 0, 0), (1, 0, 1)]
theorem w_f_X9_copies_40 (k2 : HS → Int32 → Int32 → Option HS) (hk_k2 : ∀ (h : HS) (x0 : Int32) (x1 : Int32), pk (k2 h x0 x1) (fun a => Fr S_X9_copies_2 h a)) (h : HS) (x1 : Int32) (x2 : Int32) : pk (f_X9_copies_40 k2 h x1 x2) (fun a => Fr S_X9_copies_2 h a) := by
  unfold f_X9_copies_40
  exact pk_mono (hk_k2 h x1 (x2 + 1)) (fun _ k => Fr_trans (Fr_refl _ h) k)
theorem fm_X9_copies_2_1_0_0 : (1, 0, 0) ∈ S_X9_copies_2 := by decide
theorem fm_X9_copies_2_1_0_1 : (1, 0, 1) ∈ S_X9_copies_2 := by decide
theorem w_f_X9_copies_2  : ∀ (n : Nat) (h : HS) (x1 : Int32) (x2 : Int32), pk (f_X9_copies_2  n h x1 x2) (fun a => Fr S_X9_copies_2 h a) := by
  intro n
  induction n with
  | zero => intro h x1 x2; exact pk_none
  | succ n ih =>
    intro h x1 x2
    rw [f_X9_copies_2_s]
    refine pk_if (fun _ => ?_) (fun _ => ?_)
    · exact pk_some (Fr_refl _ h)
    · refine pk_if (fun _ => ?_) (fun _ => ?_)
      · refine pk_chk (fun _ => ?_)
        refine pk_chk (fun _ => ?_)
        exact pk_mono (w_f_X9_copies_40 (f_X9_copies_2 n) ih (sA h 0 0 (upd (eA h 0 0) ((x2).toNatClampNeg) ((eA h 0 1) ((x2).toNatClampNeg)))) x1 x2) (fun _ k => Fr_trans (Fr_sA fm_X9_copies_2_1_0_0 (Fr_refl _ h)) k)
      · refine pk_chk (fun _ => ?_)
        refine pk_chk (fun _ => ?_)
        exact pk_mono (w_f_X9_copies_40 (f_X9_copies_2 n) ih (sA h 0 1 (upd (eA h 0 1) ((x2).toNatClampNeg) ((eA h 0 0) ((x2).toNatClampNeg)))) x1 x2) (fun _ k => Fr_trans (Fr_sA fm_X9_copies_2_1_0_1 (Fr_refl _ h)) k)
def S_X9_copies : CL := [(1, 0, 0), (1, 0, 1)]
theorem fs_X9_copies_2__X9_copies : ∀ x ∈ S_X9_copies_2, x ∈ S_X9_copies := by decide
theorem w_f_X9_copies (h : HS) (p1 : Int32) : pk (f_X9_copies h p1) (fun a => Fr S_X9_copies h a) := by
  unfold f_X9_copies
  exact pk_mono (w_f_X9_copies_2 8589934592 h p1 0) (fun _ k => Fr_trans (Fr_refl _ h) (Fr_mono fs_X9_copies_2__X9_copies k))
def S_X9_isMarket : CL := []
theorem w_f_X9_isMarket (h : HS) (p1 : Int32) : pk (f_X9_isMarket h p1) (fun a => Fr S_X9_isMarket h a.2) := by
  unfold f_X9_isMarket
  refine pk_obf (fun r_1 => ?_)
  refine pk_chk (fun _ => ?_)
  exact pk_some (Fr_refl _ h)
def S_X9_isGoose : CL := []
theorem w_f_X9_isGoose (h : HS) (p1 : Int32) : pk (f_X9_isGoose h p1) (fun a => Fr S_X9_isGoose h a.2) := by
  unfold f_X9_isGoose
  refine pk_obf (fun r_1 => ?_)
  refine pk_chk (fun _ => ?_)
  exact pk_some (Fr_refl _ h)
def S_X9_ofGoose : CL := []
theorem w_f_X9_ofGoose (h : HS) (p1 : Int32) (p2 : Int32) : pk (f_X9_ofGoose h p1 p2) (fun a => Fr S_X9_ofGoose h a.2) := by
  unfold f_X9_ofGoose
  refine pk_chk (fun _ => ?_)
  exact pk_some (Fr_refl _ h)
def S_X9_puts : CL := [(1, 0, 0)]
theorem fm_X9_puts_1_0_0 : (1, 0, 0) ∈ S_X9_puts := by decide
theorem w_f_X9_puts (h : HS) (p1 : Int32) (p2 : Int32) (p3 : Int32) : pk (f_X9_puts h p1 p2 p3) (fun a => Fr S_X9_puts h a) := by
  unfold f_X9_puts
  refine pk_chk (fun _ => ?_)
  exact pk_some (Fr_sA fm_X9_puts_1_0_0 (Fr_refl _ h))
def S_X9_market_40 : CL := []
theorem w_f_X9_market_40 (h : HS) : pk (f_X9_market_40 h) (fun a => Fr S_X9_market_40 h a.2) := by
  unfold f_X9_market_40
  exact pk_some (Fr_refl _ h)
def S_X9_market : CL := [(1, 0, 0)]
theorem fm_X9_market_1_0_0 : (1, 0, 0) ∈ S_X9_market := by decide
theorem fs_X9_market_40__X9_market : ∀ x ∈ S_X9_market_40, x ∈ S_X9_market := by decide
theorem w_f_X9_market (h : HS) (p1 : Int32) (p2 : Int32) (p3 : Int32) : pk (f_X9_market h p1 p2 p3) (fun a => Fr S_X9_market h a.2) := by
  unfold f_X9_market
  refine pk_obf (fun r_1 => ?_)
  refine pk_if (fun _ => ?_) (fun _ => ?_)
  · exact pk_mono (w_f_X9_market_40 h) (fun _ k => Fr_trans (Fr_refl _ h) (Fr_mono fs_X9_market_40__X9_market k))
  · refine pk_obf (fun r_3 => ?_)
    refine pk_if (fun _ => ?_) (fun _ => ?_)
    · exact pk_mono (w_f_X9_market_40 h) (fun _ k => Fr_trans (Fr_refl _ h) (Fr_mono fs_X9_market_40__X9_market k))
    · refine pk_obf (fun r_5 => ?_)
      refine pk_if (fun _ => ?_) (fun _ => ?_)
      · exact pk_mono (w_f_X9_market_40 h) (fun _ k => Fr_trans (Fr_refl _ h) (Fr_mono fs_X9_market_40__X9_market k))
      · refine pk_if (fun _ => ?_) (fun _ => ?_)
        · exact pk_mono (w_f_X9_market_40 h) (fun _ k => Fr_trans (Fr_refl _ h) (Fr_mono fs_X9_market_40__X9_market k))
        · refine pk_chk (fun _ => ?_)
          refine pk_chk (fun _ => ?_)
          refine pk_chk (fun _ => ?_)
          exact pk_some (Fr_sA fm_X9_market_1_0_0 (Fr_sA fm_X9_market_1_0_0 (Fr_sA fm_X9_market_1_0_0 (Fr_sA fm_X9_market_1_0_0 (Fr_refl _ h)))))
def S_X9_tellsGoose : CL := [(1, 0, 0)]
theorem fm_X9_tellsGoose_1_0_0 : (1, 0, 0) ∈ S_X9_tellsGoose := by decide
theorem w_f_X9_tellsGoose (h : HS) (p1 : Int32) (p2 : Int32) (p3 : Int32) (p4 : Int32) : pk (f_X9_tellsGoose h p1 p2 p3 p4) (fun a => Fr S_X9_tellsGoose h a) := by
  unfold f_X9_tellsGoose
  refine pk_chk (fun _ => ?_)
  refine pk_chk (fun _ => ?_)
  refine pk_chk (fun _ => ?_)
  refine pk_chk (fun _ => ?_)
  refine pk_chk (fun _ => ?_)
  refine pk_chk (fun _ => ?_)
  refine pk_chk (fun _ => ?_)
  refine pk_chk (fun _ => ?_)
  refine pk_chk (fun _ => ?_)
  exact pk_some (Fr_sA fm_X9_tellsGoose_1_0_0 (Fr_sA fm_X9_tellsGoose_1_0_0 (Fr_sA fm_X9_tellsGoose_1_0_0 (Fr_sA fm_X9_tellsGoose_1_0_0 (Fr_sA fm_X9_tellsGoose_1_0_0 (Fr_sA fm_X9_tellsGoose_1_0_0 (Fr_sA fm_X9_tellsGoose_1_0_0 (Fr_sA fm_X9_tellsGoose_1_0_0 (Fr_sA fm_X9_tellsGoose_1_0_0 (Fr_refl _ h))))))))))
def S_X9_goose_31 : CL := []
theorem w_f_X9_goose_31 (h : HS) : pk (f_X9_goose_31 h) (fun a => Fr S_X9_goose_31 h a.2) := by
  unfold f_X9_goose_31
  exact pk_some (Fr_refl _ h)
def S_X9_goose_49 : CL := [(1, 0, 0)]
theorem fm_X9_goose_49_1_0_0 : (1, 0, 0) ∈ S_X9_goose_49 := by decide
theorem fs_X9_tellsGoose__X9_goose_49 : ∀ x ∈ S_X9_tellsGoose, x ∈ S_X9_goose_49 := by decide
theorem w_f_X9_goose_49  : ∀ (n : Nat) (h : HS) (x1 : Int32) (x2 : Int32) (x3 : Int32), pk (f_X9_goose_49  n h x1 x2 x3) (fun a => Fr S_X9_goose_49 h a.2) := by
  intro n
  induction n with
  | zero => intro h x1 x2 x3; exact pk_none
  | succ n ih =>
    intro h x1 x2 x3
    rw [f_X9_goose_49_s]
    refine pk_if (fun _ => ?_) (fun _ => ?_)
    · exact pk_some (Fr_sA fm_X9_goose_49_1_0_0 (Fr_refl _ h))
    · refine pk_ob1 (w_f_X9_tellsGoose h (130 + (93 * x3)) ((eA h 0 0) 1) x1 x2) (fun h_8 k_1 => ?_)
      replace k_1 := Fr_trans (Fr_refl _ h) (Fr_mono fs_X9_tellsGoose__X9_goose_49 k_1)
      exact pk_mono (ih h_8 x1 x2 (x3 + 1)) (fun _ k => Fr_trans k_1 k)
def S_X9_goose : CL := [(1, 0, 0)]
theorem fs_X9_goose_31__X9_goose : ∀ x ∈ S_X9_goose_31, x ∈ S_X9_goose := by decide
theorem fs_X9_tellsGoose__X9_goose : ∀ x ∈ S_X9_tellsGoose, x ∈ S_X9_goose := by decide
theorem fs_X9_goose_49__X9_goose : ∀ x ∈ S_X9_goose_49, x ∈ S_X9_goose := by decide
theorem w_f_X9_goose (h : HS) (p1 : Int32) (p2 : Int32) : pk (f_X9_goose h p1 p2) (fun a => Fr S_X9_goose h a.2) := by
  unfold f_X9_goose
  refine pk_obf (fun r_1 => ?_)
  refine pk_if (fun _ => ?_) (fun _ => ?_)
  · exact pk_mono (w_f_X9_goose_31 h) (fun _ k => Fr_trans (Fr_refl _ h) (Fr_mono fs_X9_goose_31__X9_goose k))
  · refine pk_obf (fun r_3 => ?_)
    refine pk_if (fun _ => ?_) (fun _ => ?_)
    · exact pk_mono (w_f_X9_goose_31 h) (fun _ k => Fr_trans (Fr_refl _ h) (Fr_mono fs_X9_goose_31__X9_goose k))
    · refine pk_if (fun _ => ?_) (fun _ => ?_)
      · exact pk_mono (w_f_X9_goose_31 h) (fun _ k => Fr_trans (Fr_refl _ h) (Fr_mono fs_X9_goose_31__X9_goose k))
      · refine pk_ob1 (w_f_X9_tellsGoose h 30 ((eA h 0 0) 1) p1 p2) (fun h_6 k_1 => ?_)
        replace k_1 := Fr_trans (Fr_refl _ h) (Fr_mono fs_X9_tellsGoose__X9_goose k_1)
        exact pk_mono (w_f_X9_goose_49 8589934592 h_6 p1 p2 0) (fun _ k => Fr_trans k_1 (Fr_mono fs_X9_goose_49__X9_goose k))
def S_X9_store_21 : CL := []
theorem w_f_X9_store_21 (h : HS) : pk (f_X9_store_21 h) (fun a => Fr S_X9_store_21 h a.2) := by
  unfold f_X9_store_21
  exact pk_some (Fr_refl _ h)
def S_X9_store : CL := [(1, 0, 0)]
theorem fm_X9_store_1_0_0 : (1, 0, 0) ∈ S_X9_store := by decide
theorem fs_X9_store_21__X9_store : ∀ x ∈ S_X9_store_21, x ∈ S_X9_store := by decide
theorem w_f_X9_store (h : HS) (p1 : Int32) (p2 : Int32) : pk (f_X9_store h p1 p2) (fun a => Fr S_X9_store h a.2) := by
  unfold f_X9_store
  refine pk_obf (fun r_1 => ?_)
  refine pk_if (fun _ => ?_) (fun _ => ?_)
  · exact pk_mono (w_f_X9_store_21 h) (fun _ k => Fr_trans (Fr_refl _ h) (Fr_mono fs_X9_store_21__X9_store k))
  · refine pk_obf (fun r_3 => ?_)
    refine pk_if (fun _ => ?_) (fun _ => ?_)
    · exact pk_mono (w_f_X9_store_21 h) (fun _ k => Fr_trans (Fr_refl _ h) (Fr_mono fs_X9_store_21__X9_store k))
    · exact pk_some (Fr_sA fm_X9_store_1_0_0 (Fr_sA fm_X9_store_1_0_0 (Fr_refl _ h)))
def S_X9_seed : CL := [(1, 0, 0)]
theorem fm_X9_seed_1_0_0 : (1, 0, 0) ∈ S_X9_seed := by decide
theorem w_f_X9_seed (h : HS) (p1 : Int32) : pk (f_X9_seed h p1) (fun a => Fr S_X9_seed h a.2) := by
  unfold f_X9_seed
  refine pk_obf (fun r_1 => ?_)
  refine pk_if (fun _ => ?_) (fun _ => ?_)
  · exact pk_some (Fr_refl _ h)
  · exact pk_some (Fr_sA fm_X9_seed_1_0_0 (Fr_refl _ h))
def S_X9_keepsStep_53 : CL := [(1, 0, 0)]
theorem fm_X9_keepsStep_53_1_0_0 : (1, 0, 0) ∈ S_X9_keepsStep_53 := by decide
theorem w_f_X9_keepsStep_53  : ∀ (n : Nat) (h : HS) (x1 : Int32), pk (f_X9_keepsStep_53  n h x1) (fun a => Fr S_X9_keepsStep_53 h a) := by
  intro n
  induction n with
  | zero => intro h x1; exact pk_none
  | succ n ih =>
    intro h x1
    rw [f_X9_keepsStep_53_s]
    refine pk_if (fun _ => ?_) (fun _ => ?_)
    · exact pk_some (Fr_sA fm_X9_keepsStep_53_1_0_0 (Fr_refl _ h))
    · refine pk_chk (fun _ => ?_)
      refine pk_chk (fun _ => ?_)
      exact pk_mono (ih (sA h 0 0 (upd (eA h 0 0) ((((130 + (93 * ((eA h 0 0) 5))) + x1)).toNatClampNeg) ((eA h 0 0) (((30 + x1)).toNatClampNeg)))) (x1 + 1)) (fun _ k => Fr_trans (Fr_sA fm_X9_keepsStep_53_1_0_0 (Fr_refl _ h)) k)
def S_X9_keepsStep_51 : CL := [(1, 0, 0)]
theorem fs_X9_keepsStep_53__X9_keepsStep_51 : ∀ x ∈ S_X9_keepsStep_53, x ∈ S_X9_keepsStep_51 := by decide
theorem w_f_X9_keepsStep_51 (h : HS) : pk (f_X9_keepsStep_51 h) (fun a => Fr S_X9_keepsStep_51 h a) := by
  unfold f_X9_keepsStep_51
  exact pk_mono (w_f_X9_keepsStep_53 8589934592 h 0) (fun _ k => Fr_trans (Fr_refl _ h) (Fr_mono fs_X9_keepsStep_53__X9_keepsStep_51 k))
def S_X9_keepsStep_15 : CL := [(1, 0, 0)]
theorem fm_X9_keepsStep_15_1_0_0 : (1, 0, 0) ∈ S_X9_keepsStep_15 := by decide
theorem fs_X9_keepsStep_51__X9_keepsStep_15 : ∀ x ∈ S_X9_keepsStep_51, x ∈ S_X9_keepsStep_15 := by decide
theorem w_f_X9_keepsStep_15  : ∀ (n : Nat) (h : HS) (x1 : Int32), pk (f_X9_keepsStep_15  n h x1) (fun a => Fr S_X9_keepsStep_15 h a) := by
  intro n
  induction n with
  | zero => intro h x1; exact pk_none
  | succ n ih =>
    intro h x1
    rw [f_X9_keepsStep_15_s]
    refine pk_if (fun _ => ?_) (fun _ => ?_)
    · exact pk_mono (w_f_X9_keepsStep_51 (sA h 0 0 (upd (eA h 0 0) 5 19))) (fun _ k => Fr_trans (Fr_sA fm_X9_keepsStep_15_1_0_0 (Fr_refl _ h)) (Fr_mono fs_X9_keepsStep_51__X9_keepsStep_15 k))
    · refine pk_chk (fun _ => ?_)
      refine pk_chk (fun _ => ?_)
      exact pk_mono (ih (sA h 0 0 (upd (eA h 0 0) ((x1).toNatClampNeg) ((eA h 0 0) (((x1 + 93)).toNatClampNeg)))) (x1 + 1)) (fun _ k => Fr_trans (Fr_sA fm_X9_keepsStep_15_1_0_0 (Fr_refl _ h)) k)
def S_X9_keepsStep : CL := [(1, 0, 0)]
theorem fs_X9_keepsStep_15__X9_keepsStep : ∀ x ∈ S_X9_keepsStep_15, x ∈ S_X9_keepsStep := by decide
theorem fs_X9_keepsStep_51__X9_keepsStep : ∀ x ∈ S_X9_keepsStep_51, x ∈ S_X9_keepsStep := by decide
theorem w_f_X9_keepsStep (h : HS) : pk (f_X9_keepsStep h) (fun a => Fr S_X9_keepsStep h a) := by
  unfold f_X9_keepsStep
  refine pk_if (fun _ => ?_) (fun _ => ?_)
  · exact pk_mono (w_f_X9_keepsStep_15 8589934592 h 130) (fun _ k => Fr_trans (Fr_refl _ h) (Fr_mono fs_X9_keepsStep_15__X9_keepsStep k))
  · exact pk_mono (w_f_X9_keepsStep_51 h) (fun _ k => Fr_trans (Fr_refl _ h) (Fr_mono fs_X9_keepsStep_51__X9_keepsStep k))
def S_X9_undo_23 : CL := [(1, 0, 0)]
theorem fm_X9_undo_23_1_0_0 : (1, 0, 0) ∈ S_X9_undo_23 := by decide
theorem w_f_X9_undo_23  : ∀ (n : Nat) (h : HS) (x1 : Int32), pk (f_X9_undo_23  n h x1) (fun a => Fr S_X9_undo_23 h a.2) := by
  intro n
  induction n with
  | zero => intro h x1; exact pk_none
  | succ n ih =>
    intro h x1
    rw [f_X9_undo_23_s]
    refine pk_if (fun _ => ?_) (fun _ => ?_)
    · exact pk_some (Fr_refl _ h)
    · refine pk_chk (fun _ => ?_)
      refine pk_chk (fun _ => ?_)
      exact pk_mono (ih (sA h 0 0 (upd (eA h 0 0) (((30 + x1)).toNatClampNeg) ((eA h 0 0) ((((130 + (93 * ((eA h 0 0) 5))) + x1)).toNatClampNeg)))) (x1 + 1)) (fun _ k => Fr_trans (Fr_sA fm_X9_undo_23_1_0_0 (Fr_refl _ h)) k)
def S_X9_undo : CL := [(1, 0, 0)]
theorem fm_X9_undo_1_0_0 : (1, 0, 0) ∈ S_X9_undo := by decide
theorem fs_X9_undo_23__X9_undo : ∀ x ∈ S_X9_undo_23, x ∈ S_X9_undo := by decide
theorem w_f_X9_undo (h : HS) : pk (f_X9_undo h) (fun a => Fr S_X9_undo h a.2) := by
  unfold f_X9_undo
  refine pk_if (fun _ => ?_) (fun _ => ?_)
  · exact pk_some (Fr_refl _ h)
  · exact pk_mono (w_f_X9_undo_23 8589934592 (sA h 0 0 (upd (eA h 0 0) 5 (((eA h 0 0) 5) - 1))) 0) (fun _ k => Fr_trans (Fr_sA fm_X9_undo_1_0_0 (Fr_refl _ h)) (Fr_mono fs_X9_undo_23__X9_undo k))
def S_X9_isHome_22 : CL := []
theorem w_f_X9_isHome_22 (h : HS) (y0 : Int32) : pk (f_X9_isHome_22 h y0) (fun a => Fr S_X9_isHome_22 h a.2) := by
  unfold f_X9_isHome_22
  refine pk_chk (fun _ => ?_)
  exact pk_some (Fr_refl _ h)
def S_X9_isHome_21 : CL := []
theorem fs_X9_isHome_22__X9_isHome_21 : ∀ x ∈ S_X9_isHome_22, x ∈ S_X9_isHome_21 := by decide
theorem w_f_X9_isHome_21 (h : HS) : pk (f_X9_isHome_21 h) (fun a => Fr S_X9_isHome_21 h a.2) := by
  unfold f_X9_isHome_21
  exact pk_mono (w_f_X9_isHome_22 h 0) (fun _ k => Fr_trans (Fr_refl _ h) (Fr_mono fs_X9_isHome_22__X9_isHome_21 k))
def S_X9_isHome : CL := []
theorem fs_X9_isGoose__X9_isHome : ∀ x ∈ S_X9_isGoose, x ∈ S_X9_isHome := by decide
theorem fs_X9_isHome_21__X9_isHome : ∀ x ∈ S_X9_isHome_21, x ∈ S_X9_isHome := by decide
theorem fs_X9_ofGoose__X9_isHome : ∀ x ∈ S_X9_ofGoose, x ∈ S_X9_isHome := by decide
theorem fs_X9_isHome_22__X9_isHome : ∀ x ∈ S_X9_isHome_22, x ∈ S_X9_isHome := by decide
theorem w_f_X9_isHome (h : HS) (p1 : Int32) : pk (f_X9_isHome h p1) (fun a => Fr S_X9_isHome h a.2) := by
  unfold f_X9_isHome
  refine pk_ob2 (w_f_X9_isGoose h p1) (fun r_1 h_1 k_1 => ?_)
  replace k_1 := Fr_trans (Fr_refl _ h) (Fr_mono fs_X9_isGoose__X9_isHome k_1)
  refine pk_if (fun _ => ?_) (fun _ => ?_)
  · exact pk_mono (w_f_X9_isHome_21 h_1) (fun _ k => Fr_trans k_1 (Fr_mono fs_X9_isHome_21__X9_isHome k))
  · refine pk_ob2 (w_f_X9_ofGoose h_1 p1 4) (fun r_3 h_3 k_2 => ?_)
    replace k_2 := Fr_trans k_1 (Fr_mono fs_X9_ofGoose__X9_isHome k_2)
    refine pk_if (fun _ => ?_) (fun _ => ?_)
    · exact pk_mono (w_f_X9_isHome_22 h_3 1) (fun _ k => Fr_trans k_2 (Fr_mono fs_X9_isHome_22__X9_isHome k))
    · exact pk_mono (w_f_X9_isHome_21 h_3) (fun _ k => Fr_trans k_2 (Fr_mono fs_X9_isHome_21__X9_isHome k))
def S_X9_put_3 : CL := [(0, 0, 3), (1, 0, 2)]
theorem fm_X9_put_3_0_0_3 : (0, 0, 3) ∈ S_X9_put_3 := by decide
theorem fm_X9_put_3_1_0_2 : (1, 0, 2) ∈ S_X9_put_3 := by decide
theorem w_f_X9_put_3  : ∀ (n : Nat) (h : HS) (x1 : Int32) (x2 : Int32), pk (f_X9_put_3  n h x1 x2) (fun a => Fr S_X9_put_3 h a) := by
  intro n
  induction n with
  | zero => intro h x1 x2; exact pk_none
  | succ n ih =>
    intro h x1 x2
    rw [f_X9_put_3_s]
    refine pk_if (fun _ => ?_) (fun _ => ?_)
    · exact pk_some (Fr_refl _ h)
    · refine pk_chk (fun _ => ?_)
      exact pk_mono (ih (sI (sA h 0 2 (upd (eA h 0 2) (((eI h 0 3)).toNatClampNeg) (vp_nar .byte (((x1 >>> (x2 &&& 31))).toInt8.toInt32)))) 0 3 ((eI h 0 3) + 1)) x1 (x2 - 8)) (fun _ k => Fr_trans (Fr_sI fm_X9_put_3_0_0_3 (Fr_sA fm_X9_put_3_1_0_2 (Fr_refl _ h))) k)
def S_X9_put : CL := [(0, 0, 3), (1, 0, 2)]
theorem fs_X9_put_3__X9_put : ∀ x ∈ S_X9_put_3, x ∈ S_X9_put := by decide
theorem w_f_X9_put (h : HS) (p1 : Int32) : pk (f_X9_put h p1) (fun a => Fr S_X9_put h a) := by
  unfold f_X9_put
  exact pk_mono (w_f_X9_put_3 8589934592 h p1 24) (fun _ k => Fr_trans (Fr_refl _ h) (Fr_mono fs_X9_put_3__X9_put k))
def S_X9_feed : CL := [(0, 0, 3), (1, 0, 2)]
theorem fs_X9_put__X9_feed : ∀ x ∈ S_X9_put, x ∈ S_X9_feed := by decide
theorem w_f_X9_feed (h : HS) (p1 : Int32) (p2 : Int32) (p3 : Int32) (p4 : Int32) (p5 : Int32) : pk (f_X9_feed h p1 p2 p3 p4 p5) (fun a => Fr S_X9_feed h a.2) := by
  unfold f_X9_feed
  refine pk_if (fun _ => ?_) (fun _ => ?_)
  · refine pk_ob1 (w_f_X9_put h p1) (fun h_2 k_1 => ?_)
    replace k_1 := Fr_trans (Fr_refl _ h) (Fr_mono fs_X9_put__X9_feed k_1)
    refine pk_ob1 (w_f_X9_put h_2 p2) (fun h_3 k_2 => ?_)
    replace k_2 := Fr_trans k_1 (Fr_mono fs_X9_put__X9_feed k_2)
    refine pk_ob1 (w_f_X9_put h_3 p3) (fun h_4 k_3 => ?_)
    replace k_3 := Fr_trans k_2 (Fr_mono fs_X9_put__X9_feed k_3)
    refine pk_ob1 (w_f_X9_put h_4 p4) (fun h_5 k_4 => ?_)
    replace k_4 := Fr_trans k_3 (Fr_mono fs_X9_put__X9_feed k_4)
    refine pk_ob1 (w_f_X9_put h_5 p5) (fun h_6 k_5 => ?_)
    replace k_5 := Fr_trans k_4 (Fr_mono fs_X9_put__X9_feed k_5)
    exact pk_some k_5
  · exact pk_some (Fr_refl _ h)
def S_X9_end : CL := [(0, 0, 3)]
theorem fm_X9_end_0_0_3 : (0, 0, 3) ∈ S_X9_end := by decide
theorem w_f_X9_end (h : HS) (p1 : Int32) : pk (f_X9_end h p1) (fun a => Fr S_X9_end h a.2) := by
  unfold f_X9_end
  refine pk_obf (fun r_1 => ?_)
  refine pk_if (fun _ => ?_) (fun _ => ?_)
  · exact pk_some (Fr_refl _ h)
  · exact pk_some (Fr_sI fm_X9_end_0_0_3 (Fr_refl _ h))
def S_X9_draw : CL := [(1, 0, 0)]
theorem fm_X9_draw_1_0_0 : (1, 0, 0) ∈ S_X9_draw := by decide
theorem w_f_X9_draw (h : HS) : pk (f_X9_draw h) (fun a => Fr S_X9_draw h a.2) := by
  unfold f_X9_draw
  exact pk_some (Fr_sA fm_X9_draw_1_0_0 (Fr_refl _ h))
def S_X9_geeseOf_4 : CL := []
theorem w_f_X9_geeseOf_30 (k4 : HS → Int32 → Int32 → Int32 → Option (Int32 × HS)) (hk_k4 : ∀ (h : HS) (x0 : Int32) (x1 : Int32) (x2 : Int32), pk (k4 h x0 x1 x2) (fun a => Fr S_X9_geeseOf_4 h a.2)) (h : HS) (x1 : Int32) (x3 : Int32) (y0 : Int32) (y1 : Int32) : pk (f_X9_geeseOf_30 k4 h x1 x3 y0 y1) (fun a => Fr S_X9_geeseOf_4 h a.2) := by
  unfold f_X9_geeseOf_30
  exact pk_mono (hk_k4 h x1 (y1 + y0) (x3 + 1)) (fun _ k => Fr_trans (Fr_refl _ h) k)
theorem fs_X9_ofGoose__X9_geeseOf_4 : ∀ x ∈ S_X9_ofGoose, x ∈ S_X9_geeseOf_4 := by decide
theorem w_f_X9_geeseOf_4  : ∀ (n : Nat) (h : HS) (x1 : Int32) (x2 : Int32) (x3 : Int32), pk (f_X9_geeseOf_4  n h x1 x2 x3) (fun a => Fr S_X9_geeseOf_4 h a.2) := by
  intro n
  induction n with
  | zero => intro h x1 x2 x3; exact pk_none
  | succ n ih =>
    intro h x1 x2 x3
    rw [f_X9_geeseOf_4_s]
    refine pk_if (fun _ => ?_) (fun _ => ?_)
    · exact pk_some (Fr_refl _ h)
    · refine pk_ob2 (w_f_X9_ofGoose h x3 4) (fun r_2 h_2 k_1 => ?_)
      replace k_1 := Fr_trans (Fr_refl _ h) (Fr_mono fs_X9_ofGoose__X9_geeseOf_4 k_1)
      refine pk_if (fun _ => ?_) (fun _ => ?_)
      · exact pk_mono (w_f_X9_geeseOf_30 (f_X9_geeseOf_4 n) ih h_2 x1 x3 1 x2) (fun _ k => Fr_trans k_1 k)
      · exact pk_mono (w_f_X9_geeseOf_30 (f_X9_geeseOf_4 n) ih h_2 x1 x3 0 x2) (fun _ k => Fr_trans k_1 k)
def S_X9_geeseOf : CL := []
theorem fs_X9_geeseOf_4__X9_geeseOf : ∀ x ∈ S_X9_geeseOf_4, x ∈ S_X9_geeseOf := by decide
theorem w_f_X9_geeseOf (h : HS) (p1 : Int32) : pk (f_X9_geeseOf h p1) (fun a => Fr S_X9_geeseOf h a.2) := by
  unfold f_X9_geeseOf
  exact pk_mono (w_f_X9_geeseOf_4 8589934592 h p1 0 0) (fun _ k => Fr_trans (Fr_refl _ h) (Fr_mono fs_X9_geeseOf_4__X9_geeseOf k))
def S_X9_image : CL := [(1, 0, 0), (1, 0, 1)]
theorem fs_X9_copies__X9_image : ∀ x ∈ S_X9_copies, x ∈ S_X9_image := by decide
theorem w_f_X9_image (h : HS) : pk (f_X9_image h) (fun a => Fr S_X9_image h a.2) := by
  unfold f_X9_image
  refine pk_ob1 (w_f_X9_copies h 1) (fun h_1 k_1 => ?_)
  replace k_1 := Fr_trans (Fr_refl _ h) (Fr_mono fs_X9_copies__X9_image k_1)
  exact pk_some k_1
def S_X9_back : CL := [(1, 0, 0), (1, 0, 1)]
theorem fs_X9_copies__X9_back : ∀ x ∈ S_X9_copies, x ∈ S_X9_back := by decide
theorem w_f_X9_back (h : HS) : pk (f_X9_back h) (fun a => Fr S_X9_back h a.2) := by
  unfold f_X9_back
  refine pk_ob1 (w_f_X9_copies h 0) (fun h_1 k_1 => ?_)
  replace k_1 := Fr_trans (Fr_refl _ h) (Fr_mono fs_X9_copies__X9_back k_1)
  exact pk_some k_1
def S_X9_about_203 : CL := []
theorem w_f_X9_about_203 (h : HS) (y0 : Int32) : pk (f_X9_about_203 h y0) (fun a => Fr S_X9_about_203 h a.2) := by
  unfold f_X9_about_203
  exact pk_some (Fr_refl _ h)
def S_X9_about : CL := []
theorem fs_X9_isMarket__X9_about : ∀ x ∈ S_X9_isMarket, x ∈ S_X9_about := by decide
theorem fs_X9_about_203__X9_about : ∀ x ∈ S_X9_about_203, x ∈ S_X9_about := by decide
theorem fs_X9_geeseOf__X9_about : ∀ x ∈ S_X9_geeseOf, x ∈ S_X9_about := by decide
theorem w_f_X9_about (h : HS) (p1 : Int32) : pk (f_X9_about h p1) (fun a => Fr S_X9_about h a.2) := by
  unfold f_X9_about
  refine pk_if (fun _ => ?_) (fun _ => ?_)
  · exact pk_some (Fr_refl _ h)
  · refine pk_if (fun _ => ?_) (fun _ => ?_)
    · exact pk_some (Fr_refl _ h)
    · refine pk_if (fun _ => ?_) (fun _ => ?_)
      · exact pk_some (Fr_refl _ h)
      · refine pk_if (fun _ => ?_) (fun _ => ?_)
        · exact pk_some (Fr_refl _ h)
        · refine pk_if (fun _ => ?_) (fun _ => ?_)
          · exact pk_some (Fr_refl _ h)
          · refine pk_if (fun _ => ?_) (fun _ => ?_)
            · exact pk_some (Fr_refl _ h)
            · refine pk_if (fun _ => ?_) (fun _ => ?_)
              · exact pk_some (Fr_refl _ h)
              · refine pk_if (fun _ => ?_) (fun _ => ?_)
                · exact pk_some (Fr_refl _ h)
                · refine pk_if (fun _ => ?_) (fun _ => ?_)
                  · exact pk_some (Fr_refl _ h)
                  · refine pk_if (fun _ => ?_) (fun _ => ?_)
                    · exact pk_some (Fr_refl _ h)
                    · refine pk_ob2 (w_f_X9_isMarket h (p1 - 10)) (fun r_11 h_11 k_1 => ?_)
                      replace k_1 := Fr_trans (Fr_refl _ h) (Fr_mono fs_X9_isMarket__X9_about k_1)
                      refine pk_if (fun _ => ?_) (fun _ => ?_)
                      · refine pk_obf (fun r_13 => ?_)
                        refine pk_if (fun _ => ?_) (fun _ => ?_)
                        · exact pk_mono (w_f_X9_about_203 h_11 (-2)) (fun _ k => Fr_trans k_1 (Fr_mono fs_X9_about_203__X9_about k))
                        · refine pk_ob2 (w_f_X9_geeseOf h_11 (p1 - 20)) (fun r_15 h_15 k_2 => ?_)
                          replace k_2 := Fr_trans k_1 (Fr_mono fs_X9_geeseOf__X9_about k_2)
                          exact pk_mono (w_f_X9_about_203 h_15 r_15) (fun _ k => Fr_trans k_2 (Fr_mono fs_X9_about_203__X9_about k))
                      · refine pk_chk (fun _ => ?_)
                        refine pk_chk (fun _ => ?_)
                        refine pk_chk (fun _ => ?_)
                        exact pk_some k_1
def S_X9_holds_45 : CL := []
theorem w_f_X9_holds_45 (h : HS) (y0 : Int32) : pk (f_X9_holds_45 h y0) (fun a => Fr S_X9_holds_45 h a.2) := by
  unfold f_X9_holds_45
  exact pk_some (Fr_refl _ h)
def S_X9_holds : CL := []
theorem fs_X9_geeseOf__X9_holds : ∀ x ∈ S_X9_geeseOf, x ∈ S_X9_holds := by decide
theorem fs_X9_holds_45__X9_holds : ∀ x ∈ S_X9_holds_45, x ∈ S_X9_holds := by decide
theorem w_f_X9_holds (h : HS) : pk (f_X9_holds h) (fun a => Fr S_X9_holds h a.2) := by
  unfold f_X9_holds
  refine pk_ob2 (w_f_X9_geeseOf h 0) (fun r_1 h_1 k_1 => ?_)
  replace k_1 := Fr_trans (Fr_refl _ h) (Fr_mono fs_X9_geeseOf__X9_holds k_1)
  refine pk_if (fun _ => ?_) (fun _ => ?_)
  · exact pk_some k_1
  · refine pk_chk (fun _ => ?_)
    refine pk_if (fun _ => ?_) (fun _ => ?_)
    · exact pk_mono (w_f_X9_holds_45 h_1 (((eA h_1 0 0) 120) / (((eA h 0 0) 2) + r_1))) (fun _ k => Fr_trans k_1 (Fr_mono fs_X9_holds_45__X9_holds k))
    · exact pk_mono (w_f_X9_holds_45 h_1 999) (fun _ k => Fr_trans k_1 (Fr_mono fs_X9_holds_45__X9_holds k))
def S_X9_next_439 : CL := []
theorem w_f_X9_next_439 (h : HS) : pk (f_X9_next_439 h) (fun a => Fr S_X9_next_439 h a) := by
  unfold f_X9_next_439
  exact pk_some (Fr_refl _ h)
def S_X9_next_426 : CL := [(0, 0, 15), (0, 0, 18)]
theorem fm_X9_next_426_0_0_15 : (0, 0, 15) ∈ S_X9_next_426 := by decide
theorem fm_X9_next_426_0_0_18 : (0, 0, 18) ∈ S_X9_next_426 := by decide
theorem fs_X9_next_439__X9_next_426 : ∀ x ∈ S_X9_next_439, x ∈ S_X9_next_426 := by decide
theorem w_f_X9_next_426 (h : HS) (y0 : Int32) : pk (f_X9_next_426 h y0) (fun a => Fr S_X9_next_426 h a) := by
  unfold f_X9_next_426
  exact pk_mono (w_f_X9_next_439 (sI (sI h 0 18 y0) 0 15 ((eI h 0 15) + 1))) (fun _ k => Fr_trans (Fr_sI fm_X9_next_426_0_0_15 (Fr_sI fm_X9_next_426_0_0_18 (Fr_refl _ h))) (Fr_mono fs_X9_next_439__X9_next_426 k))
def S_X9_next_385 : CL := [(0, 0, 15), (0, 0, 18)]
theorem fs_X9_next_439__X9_next_385 : ∀ x ∈ S_X9_next_439, x ∈ S_X9_next_385 := by decide
theorem fs_X9_next_426__X9_next_385 : ∀ x ∈ S_X9_next_426, x ∈ S_X9_next_385 := by decide
theorem w_f_X9_next_385 (h : HS) (x1 : Int32) : pk (f_X9_next_385 h x1) (fun a => Fr S_X9_next_385 h a) := by
  unfold f_X9_next_385
  refine pk_if (fun _ => ?_) (fun _ => ?_)
  · exact pk_mono (w_f_X9_next_439 h) (fun _ k => Fr_trans (Fr_refl _ h) (Fr_mono fs_X9_next_439__X9_next_385 k))
  · refine pk_chk (fun _ => ?_)
    refine pk_if (fun _ => ?_) (fun _ => ?_)
    · refine pk_if (fun _ => ?_) (fun _ => ?_)
      · exact pk_mono (w_f_X9_next_426 h 300) (fun _ k => Fr_trans (Fr_refl _ h) (Fr_mono fs_X9_next_426__X9_next_385 k))
      · exact pk_mono (w_f_X9_next_426 h 301) (fun _ k => Fr_trans (Fr_refl _ h) (Fr_mono fs_X9_next_426__X9_next_385 k))
    · exact pk_mono (w_f_X9_next_439 h) (fun _ k => Fr_trans (Fr_refl _ h) (Fr_mono fs_X9_next_439__X9_next_385 k))
def S_X9_next_370 : CL := [(0, 0, 15), (0, 0, 17), (0, 0, 18)]
theorem fm_X9_next_370_0_0_17 : (0, 0, 17) ∈ S_X9_next_370 := by decide
theorem fs_X9_next_385__X9_next_370 : ∀ x ∈ S_X9_next_385, x ∈ S_X9_next_370 := by decide
theorem fs_X9_next_439__X9_next_370 : ∀ x ∈ S_X9_next_439, x ∈ S_X9_next_370 := by decide
theorem w_f_X9_next_370 (h : HS) (x1 : Int32) (y0 : Int32) : pk (f_X9_next_370 h x1 y0) (fun a => Fr S_X9_next_370 h a) := by
  unfold f_X9_next_370
  refine pk_if (fun _ => ?_) (fun _ => ?_)
  · exact pk_mono (w_f_X9_next_385 (sI h 0 17 y0) x1) (fun _ k => Fr_trans (Fr_sI fm_X9_next_370_0_0_17 (Fr_refl _ h)) (Fr_mono fs_X9_next_385__X9_next_370 k))
  · refine pk_if (fun _ => ?_) (fun _ => ?_)
    · exact pk_mono (w_f_X9_next_385 (sI h 0 17 y0) x1) (fun _ k => Fr_trans (Fr_sI fm_X9_next_370_0_0_17 (Fr_refl _ h)) (Fr_mono fs_X9_next_385__X9_next_370 k))
    · exact pk_mono (w_f_X9_next_439 (sI h 0 17 y0)) (fun _ k => Fr_trans (Fr_sI fm_X9_next_370_0_0_17 (Fr_refl _ h)) (Fr_mono fs_X9_next_439__X9_next_370 k))
def S_X9_next_365 : CL := [(0, 0, 15), (0, 0, 17), (0, 0, 18)]
theorem fs_X9_next_370__X9_next_365 : ∀ x ∈ S_X9_next_370, x ∈ S_X9_next_365 := by decide
theorem w_f_X9_next_365 (h : HS) (x1 : Int32) : pk (f_X9_next_365 h x1) (fun a => Fr S_X9_next_365 h a) := by
  unfold f_X9_next_365
  exact pk_mono (w_f_X9_next_370 h x1 3) (fun _ k => Fr_trans (Fr_refl _ h) (Fr_mono fs_X9_next_370__X9_next_365 k))
def S_X9_next_232 : CL := [(0, 0, 15), (0, 0, 18)]
theorem fm_X9_next_232_0_0_15 : (0, 0, 15) ∈ S_X9_next_232 := by decide
theorem fm_X9_next_232_0_0_18 : (0, 0, 18) ∈ S_X9_next_232 := by decide
theorem w_f_X9_next_299 (k232 : HS → Option HS) (hk_k232 : ∀ (h : HS), pk (k232 h) (fun a => Fr S_X9_next_232 h a)) (h : HS) (y0 : Int32) : pk (f_X9_next_299 k232 h y0) (fun a => Fr S_X9_next_232 h a) := by
  unfold f_X9_next_299
  exact pk_mono (hk_k232 (sI (sI h 0 18 y0) 0 15 ((eI h 0 15) + 1))) (fun _ k => Fr_trans (Fr_sI fm_X9_next_232_0_0_15 (Fr_sI fm_X9_next_232_0_0_18 (Fr_refl _ h))) k)
theorem fs_X9_next_439__X9_next_232 : ∀ x ∈ S_X9_next_439, x ∈ S_X9_next_232 := by decide
theorem w_f_X9_next_232  : ∀ (n : Nat) (h : HS), pk (f_X9_next_232  n h) (fun a => Fr S_X9_next_232 h a) := by
  intro n
  induction n with
  | zero => intro h; exact pk_none
  | succ n ih =>
    intro h
    rw [f_X9_next_232_s]
    refine pk_if (fun _ => ?_) (fun _ => ?_)
    · exact pk_mono (w_f_X9_next_439 h) (fun _ k => Fr_trans (Fr_refl _ h) (Fr_mono fs_X9_next_439__X9_next_232 k))
    · refine pk_chk (fun _ => ?_)
      refine pk_obf (fun r_22 => ?_)
      refine pk_if (fun _ => ?_) (fun _ => ?_)
      · exact pk_mono (w_f_X9_next_439 h) (fun _ k => Fr_trans (Fr_refl _ h) (Fr_mono fs_X9_next_439__X9_next_232 k))
      · refine pk_if (fun _ => ?_) (fun _ => ?_)
        · refine pk_chk (fun _ => ?_)
          exact pk_mono (w_f_X9_next_299 (f_X9_next_232 n) ih h (((10 * (eI h 0 18)) + ((eA h 0 2) (((eI h 0 15)).toNatClampNeg))) - 48)) (fun _ k => Fr_trans (Fr_refl _ h) k)
        · exact pk_mono (w_f_X9_next_299 (f_X9_next_232 n) ih h (eI h 0 18)) (fun _ k => Fr_trans (Fr_refl _ h) k)
def S_X9_next_205 : CL := [(0, 0, 17)]
theorem fm_X9_next_205_0_0_17 : (0, 0, 17) ∈ S_X9_next_205 := by decide
theorem fs_X9_next_439__X9_next_205 : ∀ x ∈ S_X9_next_439, x ∈ S_X9_next_205 := by decide
theorem w_f_X9_next_205 (h : HS) (y0 : Int32) : pk (f_X9_next_205 h y0) (fun a => Fr S_X9_next_205 h a) := by
  unfold f_X9_next_205
  exact pk_mono (w_f_X9_next_439 (sI h 0 17 y0)) (fun _ k => Fr_trans (Fr_sI fm_X9_next_205_0_0_17 (Fr_refl _ h)) (Fr_mono fs_X9_next_439__X9_next_205 k))
def S_X9_next_189 : CL := [(0, 0, 17), (0, 0, 18)]
theorem fm_X9_next_189_0_0_18 : (0, 0, 18) ∈ S_X9_next_189 := by decide
theorem fs_X9_next_205__X9_next_189 : ∀ x ∈ S_X9_next_205, x ∈ S_X9_next_189 := by decide
theorem w_f_X9_next_189 (h : HS) (y0 : Int32) : pk (f_X9_next_189 h y0) (fun a => Fr S_X9_next_189 h a) := by
  unfold f_X9_next_189
  refine pk_if (fun _ => ?_) (fun _ => ?_)
  · exact pk_mono (w_f_X9_next_205 (sI h 0 18 y0) 1) (fun _ k => Fr_trans (Fr_sI fm_X9_next_189_0_0_18 (Fr_refl _ h)) (Fr_mono fs_X9_next_205__X9_next_189 k))
  · exact pk_mono (w_f_X9_next_205 (sI h 0 18 y0) 4) (fun _ k => Fr_trans (Fr_sI fm_X9_next_189_0_0_18 (Fr_refl _ h)) (Fr_mono fs_X9_next_205__X9_next_189 k))
def S_X9_next_173 : CL := [(0, 0, 17), (0, 0, 18)]
theorem fs_X9_next_189__X9_next_173 : ∀ x ∈ S_X9_next_189, x ∈ S_X9_next_173 := by decide
theorem w_f_X9_next_173 (h : HS) (x2 : Int64) (x4 : Int32) : pk (f_X9_next_173 h x2 x4) (fun a => Fr S_X9_next_173 h a) := by
  unfold f_X9_next_173
  refine pk_if (fun _ => ?_) (fun _ => ?_)
  · refine pk_obf (fun r_37 => ?_)
    exact pk_mono (w_f_X9_next_189 h r_37) (fun _ k => Fr_trans (Fr_refl _ h) (Fr_mono fs_X9_next_189__X9_next_173 k))
  · exact pk_mono (w_f_X9_next_189 h (-1)) (fun _ k => Fr_trans (Fr_refl _ h) (Fr_mono fs_X9_next_189__X9_next_173 k))
def S_X9_next_99 : CL := [(0, 0, 15), (0, 0, 17), (0, 0, 18)]
theorem fm_X9_next_99_0_0_15 : (0, 0, 15) ∈ S_X9_next_99 := by decide
theorem w_f_X9_next_156 (k99 : HS → Int64 → Int32 → Option HS) (hk_k99 : ∀ (h : HS) (x0 : Int64) (x1 : Int32), pk (k99 h x0 x1) (fun a => Fr S_X9_next_99 h a)) (h : HS) (x4 : Int32) (y0 : Int64) : pk (f_X9_next_156 k99 h x4 y0) (fun a => Fr S_X9_next_99 h a) := by
  unfold f_X9_next_156
  exact pk_mono (hk_k99 (sI h 0 15 ((eI h 0 15) + 1)) y0 (x4 + 1)) (fun _ k => Fr_trans (Fr_sI fm_X9_next_99_0_0_15 (Fr_refl _ h)) k)
theorem fs_X9_next_173__X9_next_99 : ∀ x ∈ S_X9_next_173, x ∈ S_X9_next_99 := by decide
theorem w_f_X9_next_99  : ∀ (n : Nat) (h : HS) (x2 : Int64) (x4 : Int32), pk (f_X9_next_99  n h x2 x4) (fun a => Fr S_X9_next_99 h a) := by
  intro n
  induction n with
  | zero => intro h x2 x4; exact pk_none
  | succ n ih =>
    intro h x2 x4
    rw [f_X9_next_99_s]
    refine pk_if (fun _ => ?_) (fun _ => ?_)
    · exact pk_mono (w_f_X9_next_173 h x2 x4) (fun _ k => Fr_trans (Fr_refl _ h) (Fr_mono fs_X9_next_173__X9_next_99 k))
    · refine pk_chk (fun _ => ?_)
      refine pk_obf (fun r_28 => ?_)
      refine pk_if (fun _ => ?_) (fun _ => ?_)
      · exact pk_mono (w_f_X9_next_173 h x2 x4) (fun _ k => Fr_trans (Fr_refl _ h) (Fr_mono fs_X9_next_173__X9_next_99 k))
      · refine pk_if (fun _ => ?_) (fun _ => ?_)
        · exact pk_mono (w_f_X9_next_156 (f_X9_next_99 n) ih h x4 x2) (fun _ k => Fr_trans (Fr_refl _ h) k)
        · refine pk_chk (fun _ => ?_)
          exact pk_mono (w_f_X9_next_156 (f_X9_next_99 n) ih h x4 (((64 * x2) + ((((eA h 0 2) (((eI h 0 15)).toNatClampNeg))).toInt64)) - 64)) (fun _ k => Fr_trans (Fr_refl _ h) k)
def S_X9_next_52 : CL := [(0, 0, 15), (0, 0, 16), (0, 0, 17), (0, 0, 18)]
theorem fm_X9_next_52_0_0_17 : (0, 0, 17) ∈ S_X9_next_52 := by decide
theorem fm_X9_next_52_0_0_16 : (0, 0, 16) ∈ S_X9_next_52 := by decide
theorem fm_X9_next_52_0_0_18 : (0, 0, 18) ∈ S_X9_next_52 := by decide
theorem fm_X9_next_52_0_0_15 : (0, 0, 15) ∈ S_X9_next_52 := by decide
theorem fs_X9_next_365__X9_next_52 : ∀ x ∈ S_X9_next_365, x ∈ S_X9_next_52 := by decide
theorem fs_X9_next_370__X9_next_52 : ∀ x ∈ S_X9_next_370, x ∈ S_X9_next_52 := by decide
theorem fs_X9_next_232__X9_next_52 : ∀ x ∈ S_X9_next_232, x ∈ S_X9_next_52 := by decide
theorem fs_X9_next_99__X9_next_52 : ∀ x ∈ S_X9_next_99, x ∈ S_X9_next_52 := by decide
theorem w_f_X9_next_52 (h : HS) : pk (f_X9_next_52 h) (fun a => Fr S_X9_next_52 h a) := by
  unfold f_X9_next_52
  refine pk_if (fun _ => ?_) (fun _ => ?_)
  · exact pk_some (Fr_sI fm_X9_next_52_0_0_17 (Fr_sI fm_X9_next_52_0_0_16 (Fr_refl _ h)))
  · refine pk_chk (fun _ => ?_)
    refine pk_obf (fun r_8 => ?_)
    refine pk_if (fun _ => ?_) (fun _ => ?_)
    · refine pk_obf (fun r_10 => ?_)
      refine pk_if (fun _ => ?_) (fun _ => ?_)
      · refine pk_obf (fun r_12 => ?_)
        refine pk_if (fun _ => ?_) (fun _ => ?_)
        · refine pk_obf (fun r_14 => ?_)
          refine pk_if (fun _ => ?_) (fun _ => ?_)
          · refine pk_if (fun _ => ?_) (fun _ => ?_)
            · exact pk_mono (w_f_X9_next_365 (sI (sI (sI h 0 16 (eI h 0 15)) 0 15 ((eI h 0 15) + 1)) 0 18 ((eA h 0 2) (((eI h 0 15)).toNatClampNeg))) ((eA h 0 2) (((eI h 0 15)).toNatClampNeg))) (fun _ k => Fr_trans (Fr_sI fm_X9_next_52_0_0_18 (Fr_sI fm_X9_next_52_0_0_15 (Fr_sI fm_X9_next_52_0_0_16 (Fr_refl _ h)))) (Fr_mono fs_X9_next_365__X9_next_52 k))
            · refine pk_if (fun _ => ?_) (fun _ => ?_)
              · exact pk_mono (w_f_X9_next_365 (sI (sI (sI h 0 16 (eI h 0 15)) 0 15 ((eI h 0 15) + 1)) 0 18 ((eA h 0 2) (((eI h 0 15)).toNatClampNeg))) ((eA h 0 2) (((eI h 0 15)).toNatClampNeg))) (fun _ k => Fr_trans (Fr_sI fm_X9_next_52_0_0_18 (Fr_sI fm_X9_next_52_0_0_15 (Fr_sI fm_X9_next_52_0_0_16 (Fr_refl _ h)))) (Fr_mono fs_X9_next_365__X9_next_52 k))
              · exact pk_mono (w_f_X9_next_370 (sI (sI (sI h 0 16 (eI h 0 15)) 0 15 ((eI h 0 15) + 1)) 0 18 ((eA h 0 2) (((eI h 0 15)).toNatClampNeg))) ((eA h 0 2) (((eI h 0 15)).toNatClampNeg)) 4) (fun _ k => Fr_trans (Fr_sI fm_X9_next_52_0_0_18 (Fr_sI fm_X9_next_52_0_0_15 (Fr_sI fm_X9_next_52_0_0_16 (Fr_refl _ h)))) (Fr_mono fs_X9_next_370__X9_next_52 k))
          · exact pk_mono (w_f_X9_next_365 (sI (sI (sI h 0 16 (eI h 0 15)) 0 15 ((eI h 0 15) + 1)) 0 18 ((eA h 0 2) (((eI h 0 15)).toNatClampNeg))) ((eA h 0 2) (((eI h 0 15)).toNatClampNeg))) (fun _ k => Fr_trans (Fr_sI fm_X9_next_52_0_0_18 (Fr_sI fm_X9_next_52_0_0_15 (Fr_sI fm_X9_next_52_0_0_16 (Fr_refl _ h)))) (Fr_mono fs_X9_next_365__X9_next_52 k))
        · exact pk_mono (w_f_X9_next_365 (sI (sI (sI h 0 16 (eI h 0 15)) 0 15 ((eI h 0 15) + 1)) 0 18 ((eA h 0 2) (((eI h 0 15)).toNatClampNeg))) ((eA h 0 2) (((eI h 0 15)).toNatClampNeg))) (fun _ k => Fr_trans (Fr_sI fm_X9_next_52_0_0_18 (Fr_sI fm_X9_next_52_0_0_15 (Fr_sI fm_X9_next_52_0_0_16 (Fr_refl _ h)))) (Fr_mono fs_X9_next_365__X9_next_52 k))
      · exact pk_mono (w_f_X9_next_232 8589934592 (sI (sI (sI h 0 16 (eI h 0 15)) 0 17 2) 0 18 0)) (fun _ k => Fr_trans (Fr_sI fm_X9_next_52_0_0_18 (Fr_sI fm_X9_next_52_0_0_17 (Fr_sI fm_X9_next_52_0_0_16 (Fr_refl _ h)))) (Fr_mono fs_X9_next_232__X9_next_52 k))
    · exact pk_mono (w_f_X9_next_99 8589934592 (sI h 0 16 (eI h 0 15)) 0 0) (fun _ k => Fr_trans (Fr_sI fm_X9_next_52_0_0_16 (Fr_refl _ h)) (Fr_mono fs_X9_next_99__X9_next_52 k))
def S_X9_next_0 : CL := [(0, 0, 15), (0, 0, 16), (0, 0, 17), (0, 0, 18)]
theorem fm_X9_next_0_0_0_15 : (0, 0, 15) ∈ S_X9_next_0 := by decide
theorem w_f_X9_next_39 (k0 : HS → Option HS) (hk_k0 : ∀ (h : HS), pk (k0 h) (fun a => Fr S_X9_next_0 h a)) (h : HS) : pk (f_X9_next_39 k0 h) (fun a => Fr S_X9_next_0 h a) := by
  unfold f_X9_next_39
  exact pk_mono (hk_k0 (sI h 0 15 ((eI h 0 15) + 1))) (fun _ k => Fr_trans (Fr_sI fm_X9_next_0_0_0_15 (Fr_refl _ h)) k)
theorem fs_X9_next_52__X9_next_0 : ∀ x ∈ S_X9_next_52, x ∈ S_X9_next_0 := by decide
theorem w_f_X9_next_0  : ∀ (n : Nat) (h : HS), pk (f_X9_next_0  n h) (fun a => Fr S_X9_next_0 h a) := by
  intro n
  induction n with
  | zero => intro h; exact pk_none
  | succ n ih =>
    intro h
    rw [f_X9_next_0_s]
    refine pk_if (fun _ => ?_) (fun _ => ?_)
    · exact pk_mono (w_f_X9_next_52 h) (fun _ k => Fr_trans (Fr_refl _ h) (Fr_mono fs_X9_next_52__X9_next_0 k))
    · refine pk_chk (fun _ => ?_)
      refine pk_if (fun _ => ?_) (fun _ => ?_)
      · exact pk_mono (w_f_X9_next_39 (f_X9_next_0 n) ih h) (fun _ k => Fr_trans (Fr_refl _ h) k)
      · refine pk_chk (fun _ => ?_)
        refine pk_if (fun _ => ?_) (fun _ => ?_)
        · exact pk_mono (w_f_X9_next_39 (f_X9_next_0 n) ih h) (fun _ k => Fr_trans (Fr_refl _ h) k)
        · exact pk_mono (w_f_X9_next_52 h) (fun _ k => Fr_trans (Fr_refl _ h) (Fr_mono fs_X9_next_52__X9_next_0 k))
def S_X9_next : CL := [(0, 0, 15), (0, 0, 16), (0, 0, 17), (0, 0, 18)]
theorem fs_X9_next_0__X9_next : ∀ x ∈ S_X9_next_0, x ∈ S_X9_next := by decide
theorem w_f_X9_next (h : HS) : pk (f_X9_next h) (fun a => Fr S_X9_next h a) := by
  unfold f_X9_next
  exact pk_mono (w_f_X9_next_0 8589934592 h) (fun _ k => Fr_trans (Fr_refl _ h) (Fr_mono fs_X9_next_0__X9_next k))
def S_X9_isSign_21 : CL := []
theorem w_f_X9_isSign_21 (h : HS) (y0 : Int32) : pk (f_X9_isSign_21 h y0) (fun a => Fr S_X9_isSign_21 h a.2) := by
  unfold f_X9_isSign_21
  refine pk_chk (fun _ => ?_)
  exact pk_some (Fr_refl _ h)
def S_X9_isSign_20 : CL := []
theorem fs_X9_isSign_21__X9_isSign_20 : ∀ x ∈ S_X9_isSign_21, x ∈ S_X9_isSign_20 := by decide
theorem w_f_X9_isSign_20 (h : HS) : pk (f_X9_isSign_20 h) (fun a => Fr S_X9_isSign_20 h a.2) := by
  unfold f_X9_isSign_20
  exact pk_mono (w_f_X9_isSign_21 h 0) (fun _ k => Fr_trans (Fr_refl _ h) (Fr_mono fs_X9_isSign_21__X9_isSign_20 k))
def S_X9_isSign : CL := []
theorem fs_X9_isSign_21__X9_isSign : ∀ x ∈ S_X9_isSign_21, x ∈ S_X9_isSign := by decide
theorem fs_X9_isSign_20__X9_isSign : ∀ x ∈ S_X9_isSign_20, x ∈ S_X9_isSign := by decide
theorem w_f_X9_isSign (h : HS) (p1 : Int32) : pk (f_X9_isSign h p1) (fun a => Fr S_X9_isSign h a.2) := by
  unfold f_X9_isSign
  refine pk_if (fun _ => ?_) (fun _ => ?_)
  · refine pk_if (fun _ => ?_) (fun _ => ?_)
    · exact pk_mono (w_f_X9_isSign_21 h 1) (fun _ k => Fr_trans (Fr_refl _ h) (Fr_mono fs_X9_isSign_21__X9_isSign k))
    · exact pk_mono (w_f_X9_isSign_20 h) (fun _ k => Fr_trans (Fr_refl _ h) (Fr_mono fs_X9_isSign_20__X9_isSign k))
  · exact pk_mono (w_f_X9_isSign_20 h) (fun _ k => Fr_trans (Fr_refl _ h) (Fr_mono fs_X9_isSign_20__X9_isSign k))
def S_X9_isWord_21 : CL := []
theorem w_f_X9_isWord_21 (h : HS) (y0 : Int32) : pk (f_X9_isWord_21 h y0) (fun a => Fr S_X9_isWord_21 h a.2) := by
  unfold f_X9_isWord_21
  refine pk_chk (fun _ => ?_)
  exact pk_some (Fr_refl _ h)
def S_X9_isWord_20 : CL := []
theorem fs_X9_isWord_21__X9_isWord_20 : ∀ x ∈ S_X9_isWord_21, x ∈ S_X9_isWord_20 := by decide
theorem w_f_X9_isWord_20 (h : HS) : pk (f_X9_isWord_20 h) (fun a => Fr S_X9_isWord_20 h a.2) := by
  unfold f_X9_isWord_20
  exact pk_mono (w_f_X9_isWord_21 h 0) (fun _ k => Fr_trans (Fr_refl _ h) (Fr_mono fs_X9_isWord_21__X9_isWord_20 k))
def S_X9_isWord : CL := []
theorem fs_X9_isWord_21__X9_isWord : ∀ x ∈ S_X9_isWord_21, x ∈ S_X9_isWord := by decide
theorem fs_X9_isWord_20__X9_isWord : ∀ x ∈ S_X9_isWord_20, x ∈ S_X9_isWord := by decide
theorem w_f_X9_isWord (h : HS) (p1 : Int32) : pk (f_X9_isWord h p1) (fun a => Fr S_X9_isWord h a.2) := by
  unfold f_X9_isWord
  refine pk_if (fun _ => ?_) (fun _ => ?_)
  · refine pk_if (fun _ => ?_) (fun _ => ?_)
    · exact pk_mono (w_f_X9_isWord_21 h 1) (fun _ k => Fr_trans (Fr_refl _ h) (Fr_mono fs_X9_isWord_21__X9_isWord k))
    · exact pk_mono (w_f_X9_isWord_20 h) (fun _ k => Fr_trans (Fr_refl _ h) (Fr_mono fs_X9_isWord_20__X9_isWord k))
  · exact pk_mono (w_f_X9_isWord_20 h) (fun _ k => Fr_trans (Fr_refl _ h) (Fr_mono fs_X9_isWord_20__X9_isWord k))
def S_X9_errs_20 : CL := []
theorem w_f_X9_errs_20 (h : HS) : pk (f_X9_errs_20 h) (fun a => Fr S_X9_errs_20 h a) := by
  unfold f_X9_errs_20
  exact pk_some (Fr_refl _ h)
def S_X9_errs : CL := [(0, 0, 19), (0, 0, 20)]
theorem fm_X9_errs_0_0_20 : (0, 0, 20) ∈ S_X9_errs := by decide
theorem fm_X9_errs_0_0_19 : (0, 0, 19) ∈ S_X9_errs := by decide
theorem fs_X9_errs_20__X9_errs : ∀ x ∈ S_X9_errs_20, x ∈ S_X9_errs := by decide
theorem w_f_X9_errs (h : HS) (p1 : Int32) : pk (f_X9_errs h p1) (fun a => Fr S_X9_errs h a) := by
  unfold f_X9_errs
  refine pk_if (fun _ => ?_) (fun _ => ?_)
  · exact pk_mono (w_f_X9_errs_20 (sI (sI h 0 19 p1) 0 20 (eI h 0 16))) (fun _ k => Fr_trans (Fr_sI fm_X9_errs_0_0_20 (Fr_sI fm_X9_errs_0_0_19 (Fr_refl _ h))) (Fr_mono fs_X9_errs_20__X9_errs k))
  · exact pk_mono (w_f_X9_errs_20 h) (fun _ k => Fr_trans (Fr_refl _ h) (Fr_mono fs_X9_errs_20__X9_errs k))
def S_X9_emits : CL := [(0, 0, 36), (1, 0, 37), (1, 0, 38)]
theorem fm_X9_emits_0_0_36 : (0, 0, 36) ∈ S_X9_emits := by decide
theorem fm_X9_emits_1_0_38 : (1, 0, 38) ∈ S_X9_emits := by decide
theorem fm_X9_emits_1_0_37 : (1, 0, 37) ∈ S_X9_emits := by decide
theorem w_f_X9_emits (h : HS) (p1 : Int32) (p2 : Int32) : pk (f_X9_emits h p1 p2) (fun a => Fr S_X9_emits h a) := by
  unfold f_X9_emits
  refine pk_chk (fun _ => ?_)
  refine pk_chk (fun _ => ?_)
  exact pk_some (Fr_sI fm_X9_emits_0_0_36 (Fr_sA fm_X9_emits_1_0_38 (Fr_sA fm_X9_emits_1_0_37 (Fr_refl _ h))))
def S_X9_opensFrame : CL := [(0, 0, 22), (1, 0, 23)]
theorem fm_X9_opensFrame_0_0_22 : (0, 0, 22) ∈ S_X9_opensFrame := by decide
theorem fm_X9_opensFrame_1_0_23 : (1, 0, 23) ∈ S_X9_opensFrame := by decide
theorem w_f_X9_opensFrame (h : HS) (p1 : Int32) : pk (f_X9_opensFrame h p1) (fun a => Fr S_X9_opensFrame h a) := by
  unfold f_X9_opensFrame
  refine pk_chk (fun _ => ?_)
  exact pk_some (Fr_sI fm_X9_opensFrame_0_0_22 (Fr_sA fm_X9_opensFrame_1_0_23 (Fr_refl _ h)))
def S_X9_top : CL := []
theorem w_f_X9_top (h : HS) : pk (f_X9_top h) (fun a => Fr S_X9_top h a.2) := by
  unfold f_X9_top
  refine pk_chk (fun _ => ?_)
  exact pk_some (Fr_refl _ h)
def S_X9_opensSign : CL := [(0, 0, 15), (0, 0, 16), (0, 0, 17), (0, 0, 18), (0, 0, 19), (0, 0, 20), (0, 0, 21), (0, 0, 22), (1, 0, 23)]
theorem fm_X9_opensSign_0_0_21 : (0, 0, 21) ∈ S_X9_opensSign := by decide
theorem fs_X9_errs__X9_opensSign : ∀ x ∈ S_X9_errs, x ∈ S_X9_opensSign := by decide
theorem fs_X9_opensFrame__X9_opensSign : ∀ x ∈ S_X9_opensFrame, x ∈ S_X9_opensSign := by decide
theorem fs_X9_next__X9_opensSign : ∀ x ∈ S_X9_next, x ∈ S_X9_opensSign := by decide
theorem w_f_X9_opensSign (h : HS) (p1 : Int32) : pk (f_X9_opensSign h p1) (fun a => Fr S_X9_opensSign h a.2) := by
  unfold f_X9_opensSign
  refine pk_if (fun _ => ?_) (fun _ => ?_)
  · refine pk_ob1 (w_f_X9_errs h 3) (fun h_4 k_1 => ?_)
    replace k_1 := Fr_trans (Fr_refl _ h) (Fr_mono fs_X9_errs__X9_opensSign k_1)
    exact pk_some k_1
  · refine pk_ob1 (w_f_X9_opensFrame (sI h 0 21 ((eI h 0 21) + 1)) p1) (fun h_2 k_2 => ?_)
    replace k_2 := Fr_trans (Fr_sI fm_X9_opensSign_0_0_21 (Fr_refl _ h)) (Fr_mono fs_X9_opensFrame__X9_opensSign k_2)
    refine pk_ob1 (w_f_X9_next h_2) (fun h_3 k_3 => ?_)
    replace k_3 := Fr_trans k_2 (Fr_mono fs_X9_next__X9_opensSign k_3)
    exact pk_some k_3
def S_X9_works_70 : CL := []
theorem w_f_X9_works_70 (h : HS) : pk (f_X9_works_70 h) (fun a => Fr S_X9_works_70 h a) := by
  unfold f_X9_works_70
  exact pk_some (Fr_refl _ h)
def S_X9_works_0 : CL := [(0, 0, 25), (0, 0, 36), (1, 0, 37), (1, 0, 38)]
theorem fm_X9_works_0_0_0_25 : (0, 0, 25) ∈ S_X9_works_0 := by decide
theorem fs_X9_works_70__X9_works_0 : ∀ x ∈ S_X9_works_70, x ∈ S_X9_works_0 := by decide
theorem fs_X9_emits__X9_works_0 : ∀ x ∈ S_X9_emits, x ∈ S_X9_works_0 := by decide
theorem w_f_X9_works_0  : ∀ (n : Nat) (h : HS) (x1 : Int32), pk (f_X9_works_0  n h x1) (fun a => Fr S_X9_works_0 h a) := by
  intro n
  induction n with
  | zero => intro h x1; exact pk_none
  | succ n ih =>
    intro h x1
    rw [f_X9_works_0_s]
    refine pk_if (fun _ => ?_) (fun _ => ?_)
    · exact pk_mono (w_f_X9_works_70 h) (fun _ k => Fr_trans (Fr_refl _ h) (Fr_mono fs_X9_works_70__X9_works_0 k))
    · refine pk_chk (fun _ => ?_)
      refine pk_if (fun _ => ?_) (fun _ => ?_)
      · refine pk_chk (fun _ => ?_)
        refine pk_obf (fun r_5 => ?_)
        refine pk_if (fun _ => ?_) (fun _ => ?_)
        · exact pk_mono (w_f_X9_works_70 h) (fun _ k => Fr_trans (Fr_refl _ h) (Fr_mono fs_X9_works_70__X9_works_0 k))
        · refine pk_chk (fun _ => ?_)
          refine pk_ob1 (w_f_X9_emits (sI h 0 25 ((eI h 0 25) - 1)) ((eA h 0 26) ((((eI h 0 25) - 1)).toNatClampNeg)) 0) (fun h_8 k_1 => ?_)
          replace k_1 := Fr_trans (Fr_sI fm_X9_works_0_0_0_25 (Fr_refl _ h)) (Fr_mono fs_X9_emits__X9_works_0 k_1)
          exact pk_mono (ih h_8 x1) (fun _ k => Fr_trans k_1 k)
      · exact pk_mono (w_f_X9_works_70 h) (fun _ k => Fr_trans (Fr_refl _ h) (Fr_mono fs_X9_works_70__X9_works_0 k))
def S_X9_works : CL := [(0, 0, 25), (0, 0, 36), (1, 0, 37), (1, 0, 38)]
theorem fs_X9_works_0__X9_works : ∀ x ∈ S_X9_works_0, x ∈ S_X9_works := by decide
theorem w_f_X9_works (h : HS) (p1 : Int32) : pk (f_X9_works h p1) (fun a => Fr S_X9_works h a) := by
  unfold f_X9_works
  exact pk_mono (w_f_X9_works_0 8589934592 h p1) (fun _ k => Fr_trans (Fr_refl _ h) (Fr_mono fs_X9_works_0__X9_works k))
def S_X9_waitsFor : CL := [(0, 0, 15), (0, 0, 16), (0, 0, 17), (0, 0, 18), (0, 0, 25), (0, 0, 36), (1, 0, 26), (1, 0, 27), (1, 0, 37), (1, 0, 38)]
theorem fm_X9_waitsFor_0_0_25 : (0, 0, 25) ∈ S_X9_waitsFor := by decide
theorem fm_X9_waitsFor_1_0_27 : (1, 0, 27) ∈ S_X9_waitsFor := by decide
theorem fm_X9_waitsFor_1_0_26 : (1, 0, 26) ∈ S_X9_waitsFor := by decide
theorem fs_X9_works__X9_waitsFor : ∀ x ∈ S_X9_works, x ∈ S_X9_waitsFor := by decide
theorem fs_X9_next__X9_waitsFor : ∀ x ∈ S_X9_next, x ∈ S_X9_waitsFor := by decide
theorem w_f_X9_waitsFor (h : HS) (p1 : Int32) : pk (f_X9_waitsFor h p1) (fun a => Fr S_X9_waitsFor h a) := by
  unfold f_X9_waitsFor
  refine pk_obf (fun r_1 => ?_)
  refine pk_ob1 (w_f_X9_works h r_1) (fun h_2 k_1 => ?_)
  replace k_1 := Fr_trans (Fr_refl _ h) (Fr_mono fs_X9_works__X9_waitsFor k_1)
  refine pk_chk (fun _ => ?_)
  refine pk_chk (fun _ => ?_)
  refine pk_ob1 (w_f_X9_next (sI (sA (sA h_2 0 26 (upd (eA h_2 0 26) (((eI h_2 0 25)).toNatClampNeg) p1)) 0 27 (upd (eA h_2 0 27) (((eI h_2 0 25)).toNatClampNeg) (eI h_2 0 22))) 0 25 ((eI h_2 0 25) + 1))) (fun h_5 k_2 => ?_)
  replace k_2 := Fr_trans (Fr_sI fm_X9_waitsFor_0_0_25 (Fr_sA fm_X9_waitsFor_1_0_27 (Fr_sA fm_X9_waitsFor_1_0_26 k_1))) (Fr_mono fs_X9_next__X9_waitsFor k_2)
  exact pk_some k_2
def S_X9_asks_28 : CL := []
theorem w_f_X9_asks_28 (h : HS) : pk (f_X9_asks_28 h) (fun a => Fr S_X9_asks_28 h a) := by
  unfold f_X9_asks_28
  exact pk_some (Fr_refl _ h)
def S_X9_asks : CL := [(0, 0, 15), (0, 0, 16), (0, 0, 17), (0, 0, 18), (0, 0, 19), (0, 0, 20), (0, 0, 21), (0, 0, 22), (0, 0, 28), (1, 0, 23)]
theorem fm_X9_asks_0_0_28 : (0, 0, 28) ∈ S_X9_asks := by decide
theorem fs_X9_isWord__X9_asks : ∀ x ∈ S_X9_isWord, x ∈ S_X9_asks := by decide
theorem fs_X9_opensFrame__X9_asks : ∀ x ∈ S_X9_opensFrame, x ∈ S_X9_asks := by decide
theorem fs_X9_asks_28__X9_asks : ∀ x ∈ S_X9_asks_28, x ∈ S_X9_asks := by decide
theorem fs_X9_opensSign__X9_asks : ∀ x ∈ S_X9_opensSign, x ∈ S_X9_asks := by decide
theorem w_f_X9_asks (h : HS) : pk (f_X9_asks h) (fun a => Fr S_X9_asks h a) := by
  unfold f_X9_asks
  refine pk_ob2 (w_f_X9_isWord h 12) (fun r_1 h_1 k_1 => ?_)
  replace k_1 := Fr_trans (Fr_refl _ h) (Fr_mono fs_X9_isWord__X9_asks k_1)
  refine pk_if (fun _ => ?_) (fun _ => ?_)
  · refine pk_ob1 (w_f_X9_opensFrame h_1 4) (fun h_3 k_2 => ?_)
    replace k_2 := Fr_trans k_1 (Fr_mono fs_X9_opensFrame__X9_asks k_2)
    exact pk_mono (w_f_X9_asks_28 (sI h_3 0 28 1)) (fun _ k => Fr_trans (Fr_sI fm_X9_asks_0_0_28 k_2) (Fr_mono fs_X9_asks_28__X9_asks k))
  · refine pk_ob2 (w_f_X9_opensSign h_1 3) (fun r_4 h_4 k_3 => ?_)
    replace k_3 := Fr_trans k_1 (Fr_mono fs_X9_opensSign__X9_asks k_3)
    exact pk_mono (w_f_X9_asks_28 h_4) (fun _ k => Fr_trans k_3 (Fr_mono fs_X9_asks_28__X9_asks k))
def S_X9_oneIsOver_0 : CL := [(0, 0, 21), (0, 0, 22), (0, 0, 28), (0, 0, 36), (1, 0, 37), (1, 0, 38)]
theorem fm_X9_oneIsOver_0_0_0_21 : (0, 0, 21) ∈ S_X9_oneIsOver_0 := by decide
theorem fm_X9_oneIsOver_0_0_0_22 : (0, 0, 22) ∈ S_X9_oneIsOver_0 := by decide
theorem fm_X9_oneIsOver_0_0_0_28 : (0, 0, 28) ∈ S_X9_oneIsOver_0 := by decide
theorem fs_X9_top__X9_oneIsOver_0 : ∀ x ∈ S_X9_top, x ∈ S_X9_oneIsOver_0 := by decide
theorem fs_X9_emits__X9_oneIsOver_0 : ∀ x ∈ S_X9_emits, x ∈ S_X9_oneIsOver_0 := by decide
theorem w_f_X9_oneIsOver_0  : ∀ (n : Nat) (h : HS), pk (f_X9_oneIsOver_0  n h) (fun a => Fr S_X9_oneIsOver_0 h a) := by
  intro n
  induction n with
  | zero => intro h; exact pk_none
  | succ n ih =>
    intro h
    rw [f_X9_oneIsOver_0_s]
    refine pk_ob2 (w_f_X9_top h) (fun r_1 h_1 k_1 => ?_)
    replace k_1 := Fr_trans (Fr_refl _ h) (Fr_mono fs_X9_top__X9_oneIsOver_0 k_1)
    refine pk_if (fun _ => ?_) (fun _ => ?_)
    · refine pk_ob1 (w_f_X9_emits (sI (sI h_1 0 22 ((eI h_1 0 22) - 1)) 0 21 ((eI h_1 0 21) - 1)) 402 0) (fun h_3 k_2 => ?_)
      replace k_2 := Fr_trans (Fr_sI fm_X9_oneIsOver_0_0_0_21 (Fr_sI fm_X9_oneIsOver_0_0_0_22 k_1)) (Fr_mono fs_X9_emits__X9_oneIsOver_0 k_2)
      exact pk_mono (ih h_3) (fun _ k => Fr_trans k_2 k)
    · exact pk_some (Fr_sI fm_X9_oneIsOver_0_0_0_28 k_1)
def S_X9_oneIsOver : CL := [(0, 0, 21), (0, 0, 22), (0, 0, 28), (0, 0, 36), (1, 0, 37), (1, 0, 38)]
theorem fs_X9_oneIsOver_0__X9_oneIsOver : ∀ x ∈ S_X9_oneIsOver_0, x ∈ S_X9_oneIsOver := by decide
theorem w_f_X9_oneIsOver (h : HS) : pk (f_X9_oneIsOver h) (fun a => Fr S_X9_oneIsOver h a) := by
  unfold f_X9_oneIsOver
  exact pk_mono (w_f_X9_oneIsOver_0 8589934592 h) (fun _ k => Fr_trans (Fr_refl _ h) (Fr_mono fs_X9_oneIsOver_0__X9_oneIsOver k))
def S_X9_askIsOver_0 : CL := [(0, 0, 21), (0, 0, 22), (0, 0, 28), (0, 0, 36), (1, 0, 37), (1, 0, 38)]
theorem fm_X9_askIsOver_0_0_0_21 : (0, 0, 21) ∈ S_X9_askIsOver_0 := by decide
theorem fm_X9_askIsOver_0_0_0_22 : (0, 0, 22) ∈ S_X9_askIsOver_0 := by decide
theorem fm_X9_askIsOver_0_0_0_28 : (0, 0, 28) ∈ S_X9_askIsOver_0 := by decide
theorem fs_X9_top__X9_askIsOver_0 : ∀ x ∈ S_X9_top, x ∈ S_X9_askIsOver_0 := by decide
theorem fs_X9_emits__X9_askIsOver_0 : ∀ x ∈ S_X9_emits, x ∈ S_X9_askIsOver_0 := by decide
theorem w_f_X9_askIsOver_0  : ∀ (n : Nat) (h : HS), pk (f_X9_askIsOver_0  n h) (fun a => Fr S_X9_askIsOver_0 h a) := by
  intro n
  induction n with
  | zero => intro h; exact pk_none
  | succ n ih =>
    intro h
    rw [f_X9_askIsOver_0_s]
    refine pk_ob2 (w_f_X9_top h) (fun r_1 h_1 k_1 => ?_)
    replace k_1 := Fr_trans (Fr_refl _ h) (Fr_mono fs_X9_top__X9_askIsOver_0 k_1)
    refine pk_if (fun _ => ?_) (fun _ => ?_)
    · refine pk_ob1 (w_f_X9_emits (sI (sI h_1 0 22 ((eI h_1 0 22) - 1)) 0 21 ((eI h_1 0 21) - 1)) 405 0) (fun h_3 k_2 => ?_)
      replace k_2 := Fr_trans (Fr_sI fm_X9_askIsOver_0_0_0_21 (Fr_sI fm_X9_askIsOver_0_0_0_22 k_1)) (Fr_mono fs_X9_emits__X9_askIsOver_0 k_2)
      exact pk_mono (ih h_3) (fun _ k => Fr_trans k_2 k)
    · exact pk_some (Fr_sI fm_X9_askIsOver_0_0_0_28 k_1)
def S_X9_askIsOver : CL := [(0, 0, 21), (0, 0, 22), (0, 0, 28), (0, 0, 36), (1, 0, 37), (1, 0, 38)]
theorem fs_X9_askIsOver_0__X9_askIsOver : ∀ x ∈ S_X9_askIsOver_0, x ∈ S_X9_askIsOver := by decide
theorem w_f_X9_askIsOver (h : HS) : pk (f_X9_askIsOver h) (fun a => Fr S_X9_askIsOver h a) := by
  unfold f_X9_askIsOver
  exact pk_mono (w_f_X9_askIsOver_0 8589934592 h) (fun _ k => Fr_trans (Fr_refl _ h) (Fr_mono fs_X9_askIsOver_0__X9_askIsOver k))
def S_X9_begins_154 : CL := []
theorem w_f_X9_begins_154 (h : HS) : pk (f_X9_begins_154 h) (fun a => Fr S_X9_begins_154 h a) := by
  unfold f_X9_begins_154
  exact pk_some (Fr_refl _ h)
def S_X9_begins_111 : CL := [(0, 0, 15), (0, 0, 16), (0, 0, 17), (0, 0, 18), (0, 0, 19), (0, 0, 20), (0, 0, 21), (0, 0, 22), (1, 0, 23)]
theorem fs_X9_isSign__X9_begins_111 : ∀ x ∈ S_X9_isSign, x ∈ S_X9_begins_111 := by decide
theorem fs_X9_errs__X9_begins_111 : ∀ x ∈ S_X9_errs, x ∈ S_X9_begins_111 := by decide
theorem fs_X9_begins_154__X9_begins_111 : ∀ x ∈ S_X9_begins_154, x ∈ S_X9_begins_111 := by decide
theorem fs_X9_opensSign__X9_begins_111 : ∀ x ∈ S_X9_opensSign, x ∈ S_X9_begins_111 := by decide
theorem w_f_X9_begins_111 (h : HS) : pk (f_X9_begins_111 h) (fun a => Fr S_X9_begins_111 h a) := by
  unfold f_X9_begins_111
  refine pk_ob2 (w_f_X9_isSign h 40) (fun r_12 h_12 k_1 => ?_)
  replace k_1 := Fr_trans (Fr_refl _ h) (Fr_mono fs_X9_isSign__X9_begins_111 k_1)
  refine pk_if (fun _ => ?_) (fun _ => ?_)
  · refine pk_ob2 (w_f_X9_isSign h_12 45) (fun r_14 h_14 k_2 => ?_)
    replace k_2 := Fr_trans k_1 (Fr_mono fs_X9_isSign__X9_begins_111 k_2)
    refine pk_if (fun _ => ?_) (fun _ => ?_)
    · refine pk_ob1 (w_f_X9_errs h_14 1) (fun h_16 k_3 => ?_)
      replace k_3 := Fr_trans k_2 (Fr_mono fs_X9_errs__X9_begins_111 k_3)
      exact pk_mono (w_f_X9_begins_154 h_16) (fun _ k => Fr_trans k_3 (Fr_mono fs_X9_begins_154__X9_begins_111 k))
    · refine pk_ob2 (w_f_X9_opensSign h_14 7) (fun r_17 h_17 k_4 => ?_)
      replace k_4 := Fr_trans k_2 (Fr_mono fs_X9_opensSign__X9_begins_111 k_4)
      exact pk_mono (w_f_X9_begins_154 h_17) (fun _ k => Fr_trans k_4 (Fr_mono fs_X9_begins_154__X9_begins_111 k))
  · refine pk_ob2 (w_f_X9_opensSign h_12 6) (fun r_18 h_18 k_5 => ?_)
    replace k_5 := Fr_trans k_1 (Fr_mono fs_X9_opensSign__X9_begins_111 k_5)
    exact pk_mono (w_f_X9_begins_154 h_18) (fun _ k => Fr_trans k_5 (Fr_mono fs_X9_begins_154__X9_begins_111 k))
def S_X9_begins_92 : CL := [(0, 0, 15), (0, 0, 16), (0, 0, 17), (0, 0, 18), (0, 0, 21), (0, 0, 22), (0, 0, 28), (0, 0, 36), (1, 0, 37), (1, 0, 38)]
theorem fs_X9_emits__X9_begins_92 : ∀ x ∈ S_X9_emits, x ∈ S_X9_begins_92 := by decide
theorem fs_X9_next__X9_begins_92 : ∀ x ∈ S_X9_next, x ∈ S_X9_begins_92 := by decide
theorem fs_X9_oneIsOver__X9_begins_92 : ∀ x ∈ S_X9_oneIsOver, x ∈ S_X9_begins_92 := by decide
theorem fs_X9_begins_154__X9_begins_92 : ∀ x ∈ S_X9_begins_154, x ∈ S_X9_begins_92 := by decide
theorem w_f_X9_begins_92 (h : HS) (x1 : Int32) : pk (f_X9_begins_92 h x1) (fun a => Fr S_X9_begins_92 h a) := by
  unfold f_X9_begins_92
  refine pk_ob1 (w_f_X9_emits h 401 x1) (fun h_19 k_1 => ?_)
  replace k_1 := Fr_trans (Fr_refl _ h) (Fr_mono fs_X9_emits__X9_begins_92 k_1)
  refine pk_ob1 (w_f_X9_next h_19) (fun h_20 k_2 => ?_)
  replace k_2 := Fr_trans k_1 (Fr_mono fs_X9_next__X9_begins_92 k_2)
  refine pk_ob1 (w_f_X9_oneIsOver h_20) (fun h_21 k_3 => ?_)
  replace k_3 := Fr_trans k_2 (Fr_mono fs_X9_oneIsOver__X9_begins_92 k_3)
  exact pk_mono (w_f_X9_begins_154 h_21) (fun _ k => Fr_trans k_3 (Fr_mono fs_X9_begins_154__X9_begins_92 k))
def S_X9_begins : CL := [(0, 0, 15), (0, 0, 16), (0, 0, 17), (0, 0, 18), (0, 0, 19), (0, 0, 20), (0, 0, 21), (0, 0, 22), (0, 0, 28), (0, 0, 36), (1, 0, 23), (1, 0, 37), (1, 0, 38)]
theorem fs_X9_emits__X9_begins : ∀ x ∈ S_X9_emits, x ∈ S_X9_begins := by decide
theorem fs_X9_next__X9_begins : ∀ x ∈ S_X9_next, x ∈ S_X9_begins := by decide
theorem fs_X9_oneIsOver__X9_begins : ∀ x ∈ S_X9_oneIsOver, x ∈ S_X9_begins := by decide
theorem fs_X9_begins_154__X9_begins : ∀ x ∈ S_X9_begins_154, x ∈ S_X9_begins := by decide
theorem fs_X9_errs__X9_begins : ∀ x ∈ S_X9_errs, x ∈ S_X9_begins := by decide
theorem fs_X9_begins_111__X9_begins : ∀ x ∈ S_X9_begins_111, x ∈ S_X9_begins := by decide
theorem fs_X9_begins_92__X9_begins : ∀ x ∈ S_X9_begins_92, x ∈ S_X9_begins := by decide
theorem w_f_X9_begins (h : HS) : pk (f_X9_begins h) (fun a => Fr S_X9_begins h a) := by
  unfold f_X9_begins
  refine pk_if (fun _ => ?_) (fun _ => ?_)
  · refine pk_if (fun _ => ?_) (fun _ => ?_)
    · refine pk_ob1 (w_f_X9_emits h 400 (eI h 0 18)) (fun h_8 k_1 => ?_)
      replace k_1 := Fr_trans (Fr_refl _ h) (Fr_mono fs_X9_emits__X9_begins k_1)
      refine pk_ob1 (w_f_X9_next h_8) (fun h_9 k_2 => ?_)
      replace k_2 := Fr_trans k_1 (Fr_mono fs_X9_next__X9_begins k_2)
      refine pk_ob1 (w_f_X9_oneIsOver h_9) (fun h_10 k_3 => ?_)
      replace k_3 := Fr_trans k_2 (Fr_mono fs_X9_oneIsOver__X9_begins k_3)
      exact pk_mono (w_f_X9_begins_154 h_10) (fun _ k => Fr_trans k_3 (Fr_mono fs_X9_begins_154__X9_begins k))
    · refine pk_ob1 (w_f_X9_errs h 2) (fun h_11 k_4 => ?_)
      replace k_4 := Fr_trans (Fr_refl _ h) (Fr_mono fs_X9_errs__X9_begins k_4)
      exact pk_some k_4
  · refine pk_if (fun _ => ?_) (fun _ => ?_)
    · refine pk_if (fun _ => ?_) (fun _ => ?_)
      · exact pk_mono (w_f_X9_begins_111 h) (fun _ k => Fr_trans (Fr_refl _ h) (Fr_mono fs_X9_begins_111__X9_begins k))
      · refine pk_if (fun _ => ?_) (fun _ => ?_)
        · exact pk_mono (w_f_X9_begins_92 h (((eI h 0 18) - 12) - 1)) (fun _ k => Fr_trans (Fr_refl _ h) (Fr_mono fs_X9_begins_92__X9_begins k))
        · refine pk_if (fun _ => ?_) (fun _ => ?_)
          · exact pk_mono (w_f_X9_begins_92 h (((eI h 0 18) - 12) - 1)) (fun _ k => Fr_trans (Fr_refl _ h) (Fr_mono fs_X9_begins_92__X9_begins k))
          · refine pk_ob1 (w_f_X9_errs h 5) (fun h_6 k_5 => ?_)
            replace k_5 := Fr_trans (Fr_refl _ h) (Fr_mono fs_X9_errs__X9_begins k_5)
            exact pk_some k_5
    · exact pk_mono (w_f_X9_begins_111 h) (fun _ k => Fr_trans (Fr_refl _ h) (Fr_mono fs_X9_begins_111__X9_begins k))
def S_X9_clauseIsOver : CL := [(0, 0, 15), (0, 0, 16), (0, 0, 17), (0, 0, 18), (0, 0, 22), (0, 0, 25), (0, 0, 28), (0, 0, 29), (0, 0, 36), (1, 0, 37), (1, 0, 38)]
theorem fm_X9_clauseIsOver_0_0_22 : (0, 0, 22) ∈ S_X9_clauseIsOver := by decide
theorem fm_X9_clauseIsOver_0_0_29 : (0, 0, 29) ∈ S_X9_clauseIsOver := by decide
theorem fm_X9_clauseIsOver_0_0_28 : (0, 0, 28) ∈ S_X9_clauseIsOver := by decide
theorem fs_X9_works__X9_clauseIsOver : ∀ x ∈ S_X9_works, x ∈ S_X9_clauseIsOver := by decide
theorem fs_X9_emits__X9_clauseIsOver : ∀ x ∈ S_X9_emits, x ∈ S_X9_clauseIsOver := by decide
theorem fs_X9_next__X9_clauseIsOver : ∀ x ∈ S_X9_next, x ∈ S_X9_clauseIsOver := by decide
theorem w_f_X9_clauseIsOver (h : HS) : pk (f_X9_clauseIsOver h) (fun a => Fr S_X9_clauseIsOver h a) := by
  unfold f_X9_clauseIsOver
  refine pk_ob1 (w_f_X9_works h 1) (fun h_1 k_1 => ?_)
  replace k_1 := Fr_trans (Fr_refl _ h) (Fr_mono fs_X9_works__X9_clauseIsOver k_1)
  refine pk_ob1 (w_f_X9_emits (sI h_1 0 22 0) 408 0) (fun h_2 k_2 => ?_)
  replace k_2 := Fr_trans (Fr_sI fm_X9_clauseIsOver_0_0_22 k_1) (Fr_mono fs_X9_emits__X9_clauseIsOver k_2)
  refine pk_ob1 (w_f_X9_next (sI h_2 0 29 ((eI h_2 0 29) + 1))) (fun h_3 k_3 => ?_)
  replace k_3 := Fr_trans (Fr_sI fm_X9_clauseIsOver_0_0_29 k_2) (Fr_mono fs_X9_next__X9_clauseIsOver k_3)
  exact pk_some (Fr_sI fm_X9_clauseIsOver_0_0_28 k_3)
def S_X9_goesOn_250 : CL := []
theorem w_f_X9_goesOn_250 (h : HS) : pk (f_X9_goesOn_250 h) (fun a => Fr S_X9_goesOn_250 h a) := by
  unfold f_X9_goesOn_250
  exact pk_some (Fr_refl _ h)
def S_X9_goesOn_245 : CL := [(0, 0, 19), (0, 0, 20)]
theorem fs_X9_errs__X9_goesOn_245 : ∀ x ∈ S_X9_errs, x ∈ S_X9_goesOn_245 := by decide
theorem fs_X9_goesOn_250__X9_goesOn_245 : ∀ x ∈ S_X9_goesOn_250, x ∈ S_X9_goesOn_245 := by decide
theorem w_f_X9_goesOn_245 (h : HS) : pk (f_X9_goesOn_245 h) (fun a => Fr S_X9_goesOn_245 h a) := by
  unfold f_X9_goesOn_245
  refine pk_ob1 (w_f_X9_errs h 1) (fun h_31 k_1 => ?_)
  replace k_1 := Fr_trans (Fr_refl _ h) (Fr_mono fs_X9_errs__X9_goesOn_245 k_1)
  exact pk_mono (w_f_X9_goesOn_250 h_31) (fun _ k => Fr_trans k_1 (Fr_mono fs_X9_goesOn_250__X9_goesOn_245 k))
def S_X9_goesOn_181 : CL := [(0, 0, 15), (0, 0, 16), (0, 0, 17), (0, 0, 18), (0, 0, 19), (0, 0, 20), (0, 0, 21), (0, 0, 22), (0, 0, 25), (0, 0, 28), (0, 0, 29), (0, 0, 36), (1, 0, 37), (1, 0, 38)]
theorem fm_X9_goesOn_181_0_0_22 : (0, 0, 22) ∈ S_X9_goesOn_181 := by decide
theorem fs_X9_works__X9_goesOn_181 : ∀ x ∈ S_X9_works, x ∈ S_X9_goesOn_181 := by decide
theorem fs_X9_emits__X9_goesOn_181 : ∀ x ∈ S_X9_emits, x ∈ S_X9_goesOn_181 := by decide
theorem fs_X9_askIsOver__X9_goesOn_181 : ∀ x ∈ S_X9_askIsOver, x ∈ S_X9_goesOn_181 := by decide
theorem fs_X9_goesOn_250__X9_goesOn_181 : ∀ x ∈ S_X9_goesOn_250, x ∈ S_X9_goesOn_181 := by decide
theorem fs_X9_isSign__X9_goesOn_181 : ∀ x ∈ S_X9_isSign, x ∈ S_X9_goesOn_181 := by decide
theorem fs_X9_goesOn_245__X9_goesOn_181 : ∀ x ∈ S_X9_goesOn_245, x ∈ S_X9_goesOn_181 := by decide
theorem fs_X9_clauseIsOver__X9_goesOn_181 : ∀ x ∈ S_X9_clauseIsOver, x ∈ S_X9_goesOn_181 := by decide
theorem w_f_X9_goesOn_181 (h : HS) (x1 : Int32) : pk (f_X9_goesOn_181 h x1) (fun a => Fr S_X9_goesOn_181 h a) := by
  unfold f_X9_goesOn_181
  refine pk_if (fun _ => ?_) (fun _ => ?_)
  · refine pk_ob1 (w_f_X9_works h 3) (fun h_27 k_1 => ?_)
    replace k_1 := Fr_trans (Fr_refl _ h) (Fr_mono fs_X9_works__X9_goesOn_181 k_1)
    refine pk_chk (fun _ => ?_)
    refine pk_ob1 (w_f_X9_emits (sI h_27 0 22 ((eI h_27 0 22) - 1)) ((eA h_27 0 24) (((eI h_27 0 22)).toNatClampNeg)) 0) (fun h_29 k_2 => ?_)
    replace k_2 := Fr_trans (Fr_sI fm_X9_goesOn_181_0_0_22 k_1) (Fr_mono fs_X9_emits__X9_goesOn_181 k_2)
    refine pk_ob1 (w_f_X9_askIsOver h_29) (fun h_30 k_3 => ?_)
    replace k_3 := Fr_trans k_2 (Fr_mono fs_X9_askIsOver__X9_goesOn_181 k_3)
    exact pk_mono (w_f_X9_goesOn_250 h_30) (fun _ k => Fr_trans k_3 (Fr_mono fs_X9_goesOn_250__X9_goesOn_181 k))
  · refine pk_if (fun _ => ?_) (fun _ => ?_)
    · refine pk_ob2 (w_f_X9_isSign h 59) (fun r_24 h_24 k_4 => ?_)
      replace k_4 := Fr_trans (Fr_refl _ h) (Fr_mono fs_X9_isSign__X9_goesOn_181 k_4)
      refine pk_if (fun _ => ?_) (fun _ => ?_)
      · exact pk_mono (w_f_X9_goesOn_245 h_24) (fun _ k => Fr_trans k_4 (Fr_mono fs_X9_goesOn_245__X9_goesOn_181 k))
      · refine pk_ob1 (w_f_X9_clauseIsOver h_24) (fun h_26 k_5 => ?_)
        replace k_5 := Fr_trans k_4 (Fr_mono fs_X9_clauseIsOver__X9_goesOn_181 k_5)
        exact pk_mono (w_f_X9_goesOn_250 h_26) (fun _ k => Fr_trans k_5 (Fr_mono fs_X9_goesOn_250__X9_goesOn_181 k))
    · exact pk_mono (w_f_X9_goesOn_245 h) (fun _ k => Fr_trans (Fr_refl _ h) (Fr_mono fs_X9_goesOn_245__X9_goesOn_181 k))
def S_X9_goesOn_116 : CL := [(0, 0, 15), (0, 0, 16), (0, 0, 17), (0, 0, 18), (0, 0, 19), (0, 0, 20), (0, 0, 21), (0, 0, 22), (0, 0, 25), (0, 0, 28), (0, 0, 29), (0, 0, 36), (1, 0, 23), (1, 0, 24), (1, 0, 37), (1, 0, 38)]
theorem fm_X9_goesOn_116_1_0_23 : (1, 0, 23) ∈ S_X9_goesOn_116 := by decide
theorem fm_X9_goesOn_116_1_0_24 : (1, 0, 24) ∈ S_X9_goesOn_116 := by decide
theorem fm_X9_goesOn_116_0_0_28 : (0, 0, 28) ∈ S_X9_goesOn_116 := by decide
theorem fs_X9_goesOn_181__X9_goesOn_116 : ∀ x ∈ S_X9_goesOn_181, x ∈ S_X9_goesOn_116 := by decide
theorem fs_X9_works__X9_goesOn_116 : ∀ x ∈ S_X9_works, x ∈ S_X9_goesOn_116 := by decide
theorem fs_X9_next__X9_goesOn_116 : ∀ x ∈ S_X9_next, x ∈ S_X9_goesOn_116 := by decide
theorem fs_X9_goesOn_250__X9_goesOn_116 : ∀ x ∈ S_X9_goesOn_250, x ∈ S_X9_goesOn_116 := by decide
theorem w_f_X9_goesOn_116 (h : HS) (x1 : Int32) : pk (f_X9_goesOn_116 h x1) (fun a => Fr S_X9_goesOn_116 h a) := by
  unfold f_X9_goesOn_116
  refine pk_if (fun _ => ?_) (fun _ => ?_)
  · refine pk_if (fun _ => ?_) (fun _ => ?_)
    · refine pk_obf (fun r_16 => ?_)
      refine pk_if (fun _ => ?_) (fun _ => ?_)
      · exact pk_mono (w_f_X9_goesOn_181 h x1) (fun _ k => Fr_trans (Fr_refl _ h) (Fr_mono fs_X9_goesOn_181__X9_goesOn_116 k))
      · refine pk_ob1 (w_f_X9_works h 3) (fun h_18 k_1 => ?_)
        replace k_1 := Fr_trans (Fr_refl _ h) (Fr_mono fs_X9_works__X9_goesOn_116 k_1)
        refine pk_chk (fun _ => ?_)
        refine pk_chk (fun _ => ?_)
        refine pk_ob1 (w_f_X9_next (sA (sA h_18 0 24 (upd (eA h_18 0 24) (((eI h_18 0 22)).toNatClampNeg) (eI h_18 0 18))) 0 23 (upd (eA h_18 0 23) ((((eI h_18 0 22) - 1)).toNatClampNeg) 5))) (fun h_21 k_2 => ?_)
        replace k_2 := Fr_trans (Fr_sA fm_X9_goesOn_116_1_0_23 (Fr_sA fm_X9_goesOn_116_1_0_24 k_1)) (Fr_mono fs_X9_next__X9_goesOn_116 k_2)
        exact pk_mono (w_f_X9_goesOn_250 (sI h_21 0 28 1)) (fun _ k => Fr_trans (Fr_sI fm_X9_goesOn_116_0_0_28 k_2) (Fr_mono fs_X9_goesOn_250__X9_goesOn_116 k))
    · exact pk_mono (w_f_X9_goesOn_181 h x1) (fun _ k => Fr_trans (Fr_refl _ h) (Fr_mono fs_X9_goesOn_181__X9_goesOn_116 k))
  · exact pk_mono (w_f_X9_goesOn_181 h x1) (fun _ k => Fr_trans (Fr_refl _ h) (Fr_mono fs_X9_goesOn_181__X9_goesOn_116 k))
def S_X9_goesOn_65 : CL := [(0, 0, 15), (0, 0, 16), (0, 0, 17), (0, 0, 18), (0, 0, 19), (0, 0, 20), (0, 0, 21), (0, 0, 22), (0, 0, 25), (0, 0, 28), (0, 0, 29), (0, 0, 36), (1, 0, 23), (1, 0, 24), (1, 0, 37), (1, 0, 38)]
theorem fm_X9_goesOn_65_0_0_21 : (0, 0, 21) ∈ S_X9_goesOn_65 := by decide
theorem fm_X9_goesOn_65_0_0_22 : (0, 0, 22) ∈ S_X9_goesOn_65 := by decide
theorem fs_X9_isSign__X9_goesOn_65 : ∀ x ∈ S_X9_isSign, x ∈ S_X9_goesOn_65 := by decide
theorem fs_X9_goesOn_116__X9_goesOn_65 : ∀ x ∈ S_X9_goesOn_116, x ∈ S_X9_goesOn_65 := by decide
theorem fs_X9_works__X9_goesOn_65 : ∀ x ∈ S_X9_works, x ∈ S_X9_goesOn_65 := by decide
theorem fs_X9_next__X9_goesOn_65 : ∀ x ∈ S_X9_next, x ∈ S_X9_goesOn_65 := by decide
theorem fs_X9_oneIsOver__X9_goesOn_65 : ∀ x ∈ S_X9_oneIsOver, x ∈ S_X9_goesOn_65 := by decide
theorem fs_X9_goesOn_250__X9_goesOn_65 : ∀ x ∈ S_X9_goesOn_250, x ∈ S_X9_goesOn_65 := by decide
theorem w_f_X9_goesOn_65 (h : HS) (x1 : Int32) : pk (f_X9_goesOn_65 h x1) (fun a => Fr S_X9_goesOn_65 h a) := by
  unfold f_X9_goesOn_65
  refine pk_if (fun _ => ?_) (fun _ => ?_)
  · refine pk_ob2 (w_f_X9_isSign h 41) (fun r_8 h_8 k_1 => ?_)
    replace k_1 := Fr_trans (Fr_refl _ h) (Fr_mono fs_X9_isSign__X9_goesOn_65 k_1)
    refine pk_if (fun _ => ?_) (fun _ => ?_)
    · exact pk_mono (w_f_X9_goesOn_116 h_8 x1) (fun _ k => Fr_trans k_1 (Fr_mono fs_X9_goesOn_116__X9_goesOn_65 k))
    · refine pk_ob1 (w_f_X9_works h_8 3) (fun h_10 k_2 => ?_)
      replace k_2 := Fr_trans k_1 (Fr_mono fs_X9_works__X9_goesOn_65 k_2)
      refine pk_ob1 (w_f_X9_next (sI (sI h_10 0 22 ((eI h_10 0 22) - 1)) 0 21 ((eI h_10 0 21) - 1))) (fun h_11 k_3 => ?_)
      replace k_3 := Fr_trans (Fr_sI fm_X9_goesOn_65_0_0_21 (Fr_sI fm_X9_goesOn_65_0_0_22 k_2)) (Fr_mono fs_X9_next__X9_goesOn_65 k_3)
      refine pk_ob1 (w_f_X9_oneIsOver h_11) (fun h_12 k_4 => ?_)
      replace k_4 := Fr_trans k_3 (Fr_mono fs_X9_oneIsOver__X9_goesOn_65 k_4)
      exact pk_mono (w_f_X9_goesOn_250 h_12) (fun _ k => Fr_trans k_4 (Fr_mono fs_X9_goesOn_250__X9_goesOn_65 k))
  · exact pk_mono (w_f_X9_goesOn_116 h x1) (fun _ k => Fr_trans (Fr_refl _ h) (Fr_mono fs_X9_goesOn_116__X9_goesOn_65 k))
def S_X9_goesOn_49 : CL := [(0, 0, 15), (0, 0, 16), (0, 0, 17), (0, 0, 18), (0, 0, 25), (0, 0, 28), (0, 0, 36), (1, 0, 26), (1, 0, 27), (1, 0, 37), (1, 0, 38)]
theorem fm_X9_goesOn_49_0_0_28 : (0, 0, 28) ∈ S_X9_goesOn_49 := by decide
theorem fs_X9_waitsFor__X9_goesOn_49 : ∀ x ∈ S_X9_waitsFor, x ∈ S_X9_goesOn_49 := by decide
theorem fs_X9_goesOn_250__X9_goesOn_49 : ∀ x ∈ S_X9_goesOn_250, x ∈ S_X9_goesOn_49 := by decide
theorem w_f_X9_goesOn_49 (h : HS) : pk (f_X9_goesOn_49 h) (fun a => Fr S_X9_goesOn_49 h a) := by
  unfold f_X9_goesOn_49
  refine pk_ob1 (w_f_X9_waitsFor h (eI h 0 18)) (fun h_13 k_1 => ?_)
  replace k_1 := Fr_trans (Fr_refl _ h) (Fr_mono fs_X9_waitsFor__X9_goesOn_49 k_1)
  exact pk_mono (w_f_X9_goesOn_250 (sI h_13 0 28 1)) (fun _ k => Fr_trans (Fr_sI fm_X9_goesOn_49_0_0_28 k_1) (Fr_mono fs_X9_goesOn_250__X9_goesOn_49 k))
def S_X9_goesOn : CL := [(0, 0, 15), (0, 0, 16), (0, 0, 17), (0, 0, 18), (0, 0, 19), (0, 0, 20), (0, 0, 21), (0, 0, 22), (0, 0, 25), (0, 0, 28), (0, 0, 29), (0, 0, 36), (1, 0, 23), (1, 0, 24), (1, 0, 26), (1, 0, 27), (1, 0, 37), (1, 0, 38)]
theorem fs_X9_top__X9_goesOn : ∀ x ∈ S_X9_top, x ∈ S_X9_goesOn := by decide
theorem fs_X9_goesOn_49__X9_goesOn : ∀ x ∈ S_X9_goesOn_49, x ∈ S_X9_goesOn := by decide
theorem fs_X9_goesOn_65__X9_goesOn : ∀ x ∈ S_X9_goesOn_65, x ∈ S_X9_goesOn := by decide
theorem w_f_X9_goesOn (h : HS) : pk (f_X9_goesOn h) (fun a => Fr S_X9_goesOn h a) := by
  unfold f_X9_goesOn
  refine pk_ob2 (w_f_X9_top h) (fun r_1 h_1 k_1 => ?_)
  replace k_1 := Fr_trans (Fr_refl _ h) (Fr_mono fs_X9_top__X9_goesOn k_1)
  refine pk_if (fun _ => ?_) (fun _ => ?_)
  · refine pk_if (fun _ => ?_) (fun _ => ?_)
    · exact pk_mono (w_f_X9_goesOn_49 h_1) (fun _ k => Fr_trans k_1 (Fr_mono fs_X9_goesOn_49__X9_goesOn k))
    · refine pk_if (fun _ => ?_) (fun _ => ?_)
      · exact pk_mono (w_f_X9_goesOn_49 h_1) (fun _ k => Fr_trans k_1 (Fr_mono fs_X9_goesOn_49__X9_goesOn k))
      · refine pk_if (fun _ => ?_) (fun _ => ?_)
        · exact pk_mono (w_f_X9_goesOn_49 h_1) (fun _ k => Fr_trans k_1 (Fr_mono fs_X9_goesOn_49__X9_goesOn k))
        · refine pk_if (fun _ => ?_) (fun _ => ?_)
          · exact pk_mono (w_f_X9_goesOn_49 h_1) (fun _ k => Fr_trans k_1 (Fr_mono fs_X9_goesOn_49__X9_goesOn k))
          · exact pk_mono (w_f_X9_goesOn_65 h_1 r_1) (fun _ k => Fr_trans k_1 (Fr_mono fs_X9_goesOn_65__X9_goesOn k))
  · exact pk_mono (w_f_X9_goesOn_65 h_1 r_1) (fun _ k => Fr_trans k_1 (Fr_mono fs_X9_goesOn_65__X9_goesOn k))
def S_X9_asksOn_77 : CL := []
theorem w_f_X9_asksOn_77 (h : HS) : pk (f_X9_asksOn_77 h) (fun a => Fr S_X9_asksOn_77 h a) := by
  unfold f_X9_asksOn_77
  exact pk_some (Fr_refl _ h)
def S_X9_asksOn_37 : CL := [(0, 0, 15), (0, 0, 16), (0, 0, 17), (0, 0, 18), (0, 0, 25), (0, 0, 28), (0, 0, 36), (1, 0, 26), (1, 0, 27), (1, 0, 37), (1, 0, 38)]
theorem fm_X9_asksOn_37_0_0_28 : (0, 0, 28) ∈ S_X9_asksOn_37 := by decide
theorem fs_X9_waitsFor__X9_asksOn_37 : ∀ x ∈ S_X9_waitsFor, x ∈ S_X9_asksOn_37 := by decide
theorem fs_X9_asksOn_77__X9_asksOn_37 : ∀ x ∈ S_X9_asksOn_77, x ∈ S_X9_asksOn_37 := by decide
theorem w_f_X9_asksOn_37 (h : HS) (y0 : Int32) : pk (f_X9_asksOn_37 h y0) (fun a => Fr S_X9_asksOn_37 h a) := by
  unfold f_X9_asksOn_37
  refine pk_ob1 (w_f_X9_waitsFor h y0) (fun h_13 k_1 => ?_)
  replace k_1 := Fr_trans (Fr_refl _ h) (Fr_mono fs_X9_waitsFor__X9_asksOn_37 k_1)
  exact pk_mono (w_f_X9_asksOn_77 (sI h_13 0 28 0)) (fun _ k => Fr_trans (Fr_sI fm_X9_asksOn_37_0_0_28 k_1) (Fr_mono fs_X9_asksOn_77__X9_asksOn_37 k))
def S_X9_asksOn_18 : CL := [(0, 0, 15), (0, 0, 16), (0, 0, 17), (0, 0, 18), (0, 0, 25), (0, 0, 28), (0, 0, 36), (1, 0, 26), (1, 0, 27), (1, 0, 37), (1, 0, 38)]
theorem fs_X9_isWord__X9_asksOn_18 : ∀ x ∈ S_X9_isWord, x ∈ S_X9_asksOn_18 := by decide
theorem fs_X9_asksOn_37__X9_asksOn_18 : ∀ x ∈ S_X9_asksOn_37, x ∈ S_X9_asksOn_18 := by decide
theorem w_f_X9_asksOn_18 (h : HS) : pk (f_X9_asksOn_18 h) (fun a => Fr S_X9_asksOn_18 h a) := by
  unfold f_X9_asksOn_18
  refine pk_ob2 (w_f_X9_isWord h 10) (fun r_10 h_10 k_1 => ?_)
  replace k_1 := Fr_trans (Fr_refl _ h) (Fr_mono fs_X9_isWord__X9_asksOn_18 k_1)
  refine pk_if (fun _ => ?_) (fun _ => ?_)
  · exact pk_mono (w_f_X9_asksOn_37 h_10 406) (fun _ k => Fr_trans k_1 (Fr_mono fs_X9_asksOn_37__X9_asksOn_18 k))
  · exact pk_mono (w_f_X9_asksOn_37 h_10 407) (fun _ k => Fr_trans k_1 (Fr_mono fs_X9_asksOn_37__X9_asksOn_18 k))
def S_X9_asksOn_72 : CL := [(0, 0, 19), (0, 0, 20)]
theorem fs_X9_errs__X9_asksOn_72 : ∀ x ∈ S_X9_errs, x ∈ S_X9_asksOn_72 := by decide
theorem fs_X9_asksOn_77__X9_asksOn_72 : ∀ x ∈ S_X9_asksOn_77, x ∈ S_X9_asksOn_72 := by decide
theorem w_f_X9_asksOn_72 (h : HS) : pk (f_X9_asksOn_72 h) (fun a => Fr S_X9_asksOn_72 h a) := by
  unfold f_X9_asksOn_72
  refine pk_ob1 (w_f_X9_errs h 1) (fun h_12 k_1 => ?_)
  replace k_1 := Fr_trans (Fr_refl _ h) (Fr_mono fs_X9_errs__X9_asksOn_72 k_1)
  exact pk_mono (w_f_X9_asksOn_77 h_12) (fun _ k => Fr_trans k_1 (Fr_mono fs_X9_asksOn_77__X9_asksOn_72 k))
def S_X9_asksOn : CL := [(0, 0, 15), (0, 0, 16), (0, 0, 17), (0, 0, 18), (0, 0, 19), (0, 0, 20), (0, 0, 22), (0, 0, 25), (0, 0, 28), (0, 0, 29), (0, 0, 36), (1, 0, 26), (1, 0, 27), (1, 0, 37), (1, 0, 38)]
theorem fs_X9_isWord__X9_asksOn : ∀ x ∈ S_X9_isWord, x ∈ S_X9_asksOn := by decide
theorem fs_X9_top__X9_asksOn : ∀ x ∈ S_X9_top, x ∈ S_X9_asksOn := by decide
theorem fs_X9_isSign__X9_asksOn : ∀ x ∈ S_X9_isSign, x ∈ S_X9_asksOn := by decide
theorem fs_X9_asksOn_72__X9_asksOn : ∀ x ∈ S_X9_asksOn_72, x ∈ S_X9_asksOn := by decide
theorem fs_X9_clauseIsOver__X9_asksOn : ∀ x ∈ S_X9_clauseIsOver, x ∈ S_X9_asksOn := by decide
theorem fs_X9_asksOn_77__X9_asksOn : ∀ x ∈ S_X9_asksOn_77, x ∈ S_X9_asksOn := by decide
theorem fs_X9_asksOn_18__X9_asksOn : ∀ x ∈ S_X9_asksOn_18, x ∈ S_X9_asksOn := by decide
theorem w_f_X9_asksOn (h : HS) : pk (f_X9_asksOn h) (fun a => Fr S_X9_asksOn h a) := by
  unfold f_X9_asksOn
  refine pk_ob2 (w_f_X9_isWord h 10) (fun r_1 h_1 k_1 => ?_)
  replace k_1 := Fr_trans (Fr_refl _ h) (Fr_mono fs_X9_isWord__X9_asksOn k_1)
  refine pk_if (fun _ => ?_) (fun _ => ?_)
  · refine pk_ob2 (w_f_X9_isWord h_1 11) (fun r_3 h_3 k_2 => ?_)
    replace k_2 := Fr_trans k_1 (Fr_mono fs_X9_isWord__X9_asksOn k_2)
    refine pk_if (fun _ => ?_) (fun _ => ?_)
    · refine pk_ob2 (w_f_X9_top h_3) (fun r_5 h_5 k_3 => ?_)
      replace k_3 := Fr_trans k_2 (Fr_mono fs_X9_top__X9_asksOn k_3)
      refine pk_if (fun _ => ?_) (fun _ => ?_)
      · refine pk_ob2 (w_f_X9_isSign h_5 59) (fun r_7 h_7 k_4 => ?_)
        replace k_4 := Fr_trans k_3 (Fr_mono fs_X9_isSign__X9_asksOn k_4)
        refine pk_if (fun _ => ?_) (fun _ => ?_)
        · exact pk_mono (w_f_X9_asksOn_72 h_7) (fun _ k => Fr_trans k_4 (Fr_mono fs_X9_asksOn_72__X9_asksOn k))
        · refine pk_ob1 (w_f_X9_clauseIsOver h_7) (fun h_9 k_5 => ?_)
          replace k_5 := Fr_trans k_4 (Fr_mono fs_X9_clauseIsOver__X9_asksOn k_5)
          exact pk_mono (w_f_X9_asksOn_77 h_9) (fun _ k => Fr_trans k_5 (Fr_mono fs_X9_asksOn_77__X9_asksOn k))
      · exact pk_mono (w_f_X9_asksOn_72 h_5) (fun _ k => Fr_trans k_3 (Fr_mono fs_X9_asksOn_72__X9_asksOn k))
    · exact pk_mono (w_f_X9_asksOn_18 h_3) (fun _ k => Fr_trans k_2 (Fr_mono fs_X9_asksOn_18__X9_asksOn k))
  · exact pk_mono (w_f_X9_asksOn_18 h_1) (fun _ k => Fr_trans k_1 (Fr_mono fs_X9_asksOn_18__X9_asksOn k))
def S_X9_number_15 : CL := [(0, 0, 19), (0, 0, 20)]
theorem fs_X9_errs__X9_number_15 : ∀ x ∈ S_X9_errs, x ∈ S_X9_number_15 := by decide
theorem w_f_X9_number_15 (h : HS) (x1 : Int32) : pk (f_X9_number_15 h x1) (fun a => Fr S_X9_number_15 h a.2) := by
  unfold f_X9_number_15
  refine pk_ob1 (w_f_X9_errs h 1) (fun h_7 k_1 => ?_)
  replace k_1 := Fr_trans (Fr_refl _ h) (Fr_mono fs_X9_errs__X9_number_15 k_1)
  exact pk_some k_1
def S_X9_number : CL := [(0, 0, 15), (0, 0, 16), (0, 0, 17), (0, 0, 18), (0, 0, 19), (0, 0, 20)]
theorem fs_X9_number_15__X9_number : ∀ x ∈ S_X9_number_15, x ∈ S_X9_number := by decide
theorem fs_X9_errs__X9_number : ∀ x ∈ S_X9_errs, x ∈ S_X9_number := by decide
theorem fs_X9_next__X9_number : ∀ x ∈ S_X9_next, x ∈ S_X9_number := by decide
theorem w_f_X9_number (h : HS) (p1 : Int32) (p2 : Int32) : pk (f_X9_number h p1 p2) (fun a => Fr S_X9_number h a.2) := by
  unfold f_X9_number
  refine pk_if (fun _ => ?_) (fun _ => ?_)
  · exact pk_mono (w_f_X9_number_15 h p1) (fun _ k => Fr_trans (Fr_refl _ h) (Fr_mono fs_X9_number_15__X9_number k))
  · refine pk_if (fun _ => ?_) (fun _ => ?_)
    · refine pk_obf (fun r_3 => ?_)
      refine pk_if (fun _ => ?_) (fun _ => ?_)
      · refine pk_ob1 (w_f_X9_errs h 2) (fun h_6 k_1 => ?_)
        replace k_1 := Fr_trans (Fr_refl _ h) (Fr_mono fs_X9_errs__X9_number k_1)
        exact pk_some k_1
      · refine pk_ob1 (w_f_X9_next h) (fun h_5 k_2 => ?_)
        replace k_2 := Fr_trans (Fr_refl _ h) (Fr_mono fs_X9_next__X9_number k_2)
        exact pk_some k_2
    · exact pk_mono (w_f_X9_number_15 h p1) (fun _ k => Fr_trans (Fr_refl _ h) (Fr_mono fs_X9_number_15__X9_number k))
def S_X9_wasTold_4 : CL := []
theorem w_f_X9_wasTold_31 (k4 : HS → Int32 → Int32 → Int32 → Option (Int32 × HS)) (hk_k4 : ∀ (h : HS) (x0 : Int32) (x1 : Int32) (x2 : Int32), pk (k4 h x0 x1 x2) (fun a => Fr S_X9_wasTold_4 h a.2)) (h : HS) (x1 : Int32) (x3 : Int32) (y0 : Int32) : pk (f_X9_wasTold_31 k4 h x1 x3 y0) (fun a => Fr S_X9_wasTold_4 h a.2) := by
  unfold f_X9_wasTold_31
  exact pk_mono (hk_k4 h x1 y0 (x3 + 1)) (fun _ k => Fr_trans (Fr_refl _ h) k)
theorem w_f_X9_wasTold_26 (k4 : HS → Int32 → Int32 → Int32 → Option (Int32 × HS)) (hk_k4 : ∀ (h : HS) (x0 : Int32) (x1 : Int32) (x2 : Int32), pk (k4 h x0 x1 x2) (fun a => Fr S_X9_wasTold_4 h a.2)) (h : HS) (x1 : Int32) (x3 : Int32) : pk (f_X9_wasTold_26 k4 h x1 x3) (fun a => Fr S_X9_wasTold_4 h a.2) := by
  unfold f_X9_wasTold_26
  exact pk_mono (w_f_X9_wasTold_31 k4 hk_k4 h x1 x3 1) (fun _ k => Fr_trans (Fr_refl _ h) k)
theorem w_f_X9_wasTold_4  : ∀ (n : Nat) (h : HS) (x1 : Int32) (x2 : Int32) (x3 : Int32), pk (f_X9_wasTold_4  n h x1 x2 x3) (fun a => Fr S_X9_wasTold_4 h a.2) := by
  intro n
  induction n with
  | zero => intro h x1 x2 x3; exact pk_none
  | succ n ih =>
    intro h x1 x2 x3
    rw [f_X9_wasTold_4_s]
    refine pk_if (fun _ => ?_) (fun _ => ?_)
    · refine pk_chk (fun _ => ?_)
      exact pk_some (Fr_refl _ h)
    · refine pk_if (fun _ => ?_) (fun _ => ?_)
      · refine pk_chk (fun _ => ?_)
        refine pk_if (fun _ => ?_) (fun _ => ?_)
        · exact pk_mono (w_f_X9_wasTold_26 (f_X9_wasTold_4 n) ih h x1 x3) (fun _ k => Fr_trans (Fr_refl _ h) k)
        · exact pk_mono (w_f_X9_wasTold_31 (f_X9_wasTold_4 n) ih h x1 x3 0) (fun _ k => Fr_trans (Fr_refl _ h) k)
      · exact pk_mono (w_f_X9_wasTold_26 (f_X9_wasTold_4 n) ih h x1 x3) (fun _ k => Fr_trans (Fr_refl _ h) k)
def S_X9_wasTold : CL := []
theorem fs_X9_wasTold_4__X9_wasTold : ∀ x ∈ S_X9_wasTold_4, x ∈ S_X9_wasTold := by decide
theorem w_f_X9_wasTold (h : HS) (p1 : Int32) : pk (f_X9_wasTold h p1) (fun a => Fr S_X9_wasTold h a.2) := by
  unfold f_X9_wasTold
  exact pk_mono (w_f_X9_wasTold_4 8589934592 h p1 0 0) (fun _ k => Fr_trans (Fr_refl _ h) (Fr_mono fs_X9_wasTold_4__X9_wasTold k))
def S_X9_wants_31 : CL := []
theorem w_f_X9_wants_31 (h : HS) : pk (f_X9_wants_31 h) (fun a => Fr S_X9_wants_31 h a) := by
  unfold f_X9_wants_31
  exact pk_some (Fr_refl _ h)
def S_X9_wants_20 : CL := [(0, 0, 15), (0, 0, 16), (0, 0, 17), (0, 0, 18)]
theorem fs_X9_next__X9_wants_20 : ∀ x ∈ S_X9_next, x ∈ S_X9_wants_20 := by decide
theorem fs_X9_wants_31__X9_wants_20 : ∀ x ∈ S_X9_wants_31, x ∈ S_X9_wants_20 := by decide
theorem w_f_X9_wants_20 (h : HS) : pk (f_X9_wants_20 h) (fun a => Fr S_X9_wants_20 h a) := by
  unfold f_X9_wants_20
  refine pk_if (fun _ => ?_) (fun _ => ?_)
  · refine pk_ob1 (w_f_X9_next h) (fun h_6 k_1 => ?_)
    replace k_1 := Fr_trans (Fr_refl _ h) (Fr_mono fs_X9_next__X9_wants_20 k_1)
    exact pk_mono (w_f_X9_wants_31 h_6) (fun _ k => Fr_trans k_1 (Fr_mono fs_X9_wants_31__X9_wants_20 k))
  · exact pk_mono (w_f_X9_wants_31 h) (fun _ k => Fr_trans (Fr_refl _ h) (Fr_mono fs_X9_wants_31__X9_wants_20 k))
def S_X9_wants : CL := [(0, 0, 15), (0, 0, 16), (0, 0, 17), (0, 0, 18), (0, 0, 19), (0, 0, 20)]
theorem fs_X9_isWord__X9_wants : ∀ x ∈ S_X9_isWord, x ∈ S_X9_wants := by decide
theorem fs_X9_errs__X9_wants : ∀ x ∈ S_X9_errs, x ∈ S_X9_wants := by decide
theorem fs_X9_wants_20__X9_wants : ∀ x ∈ S_X9_wants_20, x ∈ S_X9_wants := by decide
theorem w_f_X9_wants (h : HS) (p1 : Int32) : pk (f_X9_wants h p1) (fun a => Fr S_X9_wants h a) := by
  unfold f_X9_wants
  refine pk_if (fun _ => ?_) (fun _ => ?_)
  · refine pk_ob2 (w_f_X9_isWord h p1) (fun r_2 h_2 k_1 => ?_)
    replace k_1 := Fr_trans (Fr_refl _ h) (Fr_mono fs_X9_isWord__X9_wants k_1)
    refine pk_if (fun _ => ?_) (fun _ => ?_)
    · refine pk_ob1 (w_f_X9_errs h_2 1) (fun h_4 k_2 => ?_)
      replace k_2 := Fr_trans k_1 (Fr_mono fs_X9_errs__X9_wants k_2)
      exact pk_mono (w_f_X9_wants_20 h_4) (fun _ k => Fr_trans k_2 (Fr_mono fs_X9_wants_20__X9_wants k))
    · exact pk_mono (w_f_X9_wants_20 h_2) (fun _ k => Fr_trans k_1 (Fr_mono fs_X9_wants_20__X9_wants k))
  · exact pk_mono (w_f_X9_wants_20 h) (fun _ k => Fr_trans (Fr_refl _ h) (Fr_mono fs_X9_wants_20__X9_wants k))
def S_X9_clause_17 : CL := [(0, 0, 19), (0, 0, 20)]
theorem fs_X9_errs__X9_clause_17 : ∀ x ∈ S_X9_errs, x ∈ S_X9_clause_17 := by decide
theorem w_f_X9_clause_17 (h : HS) : pk (f_X9_clause_17 h) (fun a => Fr S_X9_clause_17 h a) := by
  unfold f_X9_clause_17
  refine pk_ob1 (w_f_X9_errs h 1) (fun h_7 k_1 => ?_)
  replace k_1 := Fr_trans (Fr_refl _ h) (Fr_mono fs_X9_errs__X9_clause_17 k_1)
  exact pk_some k_1
def S_X9_clause_333 : CL := []
theorem w_f_X9_clause_333 (h : HS) : pk (f_X9_clause_333 h) (fun a => Fr S_X9_clause_333 h a) := by
  unfold f_X9_clause_333
  exact pk_some (Fr_refl _ h)
def S_X9_clause_322 : CL := [(0, 0, 15), (0, 0, 16), (0, 0, 17), (0, 0, 18), (0, 0, 22), (0, 0, 25), (0, 0, 28), (0, 0, 29), (0, 0, 36), (1, 0, 37), (1, 0, 38)]
theorem fs_X9_clauseIsOver__X9_clause_322 : ∀ x ∈ S_X9_clauseIsOver, x ∈ S_X9_clause_322 := by decide
theorem fs_X9_clause_333__X9_clause_322 : ∀ x ∈ S_X9_clause_333, x ∈ S_X9_clause_322 := by decide
theorem w_f_X9_clause_322 (h : HS) : pk (f_X9_clause_322 h) (fun a => Fr S_X9_clause_322 h a) := by
  unfold f_X9_clause_322
  refine pk_if (fun _ => ?_) (fun _ => ?_)
  · refine pk_ob1 (w_f_X9_clauseIsOver h) (fun h_41 k_1 => ?_)
    replace k_1 := Fr_trans (Fr_refl _ h) (Fr_mono fs_X9_clauseIsOver__X9_clause_322 k_1)
    exact pk_mono (w_f_X9_clause_333 h_41) (fun _ k => Fr_trans k_1 (Fr_mono fs_X9_clause_333__X9_clause_322 k))
  · exact pk_mono (w_f_X9_clause_333 h) (fun _ k => Fr_trans (Fr_refl _ h) (Fr_mono fs_X9_clause_333__X9_clause_322 k))
def S_X9_clause_301 : CL := [(0, 0, 15), (0, 0, 16), (0, 0, 17), (0, 0, 18), (0, 0, 19), (0, 0, 20), (0, 0, 22), (0, 0, 25), (0, 0, 28), (0, 0, 29), (0, 0, 36), (1, 0, 37), (1, 0, 38)]
theorem fs_X9_isSign__X9_clause_301 : ∀ x ∈ S_X9_isSign, x ∈ S_X9_clause_301 := by decide
theorem fs_X9_errs__X9_clause_301 : ∀ x ∈ S_X9_errs, x ∈ S_X9_clause_301 := by decide
theorem fs_X9_clause_322__X9_clause_301 : ∀ x ∈ S_X9_clause_322, x ∈ S_X9_clause_301 := by decide
theorem w_f_X9_clause_301 (h : HS) : pk (f_X9_clause_301 h) (fun a => Fr S_X9_clause_301 h a) := by
  unfold f_X9_clause_301
  refine pk_if (fun _ => ?_) (fun _ => ?_)
  · refine pk_ob2 (w_f_X9_isSign h 59) (fun r_37 h_37 k_1 => ?_)
    replace k_1 := Fr_trans (Fr_refl _ h) (Fr_mono fs_X9_isSign__X9_clause_301 k_1)
    refine pk_if (fun _ => ?_) (fun _ => ?_)
    · refine pk_ob1 (w_f_X9_errs h_37 1) (fun h_39 k_2 => ?_)
      replace k_2 := Fr_trans k_1 (Fr_mono fs_X9_errs__X9_clause_301 k_2)
      exact pk_mono (w_f_X9_clause_322 h_39) (fun _ k => Fr_trans k_2 (Fr_mono fs_X9_clause_322__X9_clause_301 k))
    · exact pk_mono (w_f_X9_clause_322 h_37) (fun _ k => Fr_trans k_1 (Fr_mono fs_X9_clause_322__X9_clause_301 k))
  · exact pk_mono (w_f_X9_clause_322 h) (fun _ k => Fr_trans (Fr_refl _ h) (Fr_mono fs_X9_clause_322__X9_clause_301 k))
def S_X9_clause_218 : CL := [(0, 0, 15), (0, 0, 16), (0, 0, 17), (0, 0, 18), (0, 0, 19), (0, 0, 20), (0, 0, 22), (0, 0, 25), (0, 0, 28), (0, 0, 29), (0, 0, 36), (1, 0, 33), (1, 0, 34), (1, 0, 35), (1, 0, 37), (1, 0, 38)]
theorem fm_X9_clause_218_1_0_33 : (1, 0, 33) ∈ S_X9_clause_218 := by decide
theorem fm_X9_clause_218_1_0_34 : (1, 0, 34) ∈ S_X9_clause_218 := by decide
theorem fm_X9_clause_218_1_0_35 : (1, 0, 35) ∈ S_X9_clause_218 := by decide
theorem fs_X9_wants__X9_clause_218 : ∀ x ∈ S_X9_wants, x ∈ S_X9_clause_218 := by decide
theorem fs_X9_number__X9_clause_218 : ∀ x ∈ S_X9_number, x ∈ S_X9_clause_218 := by decide
theorem fs_X9_clause_301__X9_clause_218 : ∀ x ∈ S_X9_clause_301, x ∈ S_X9_clause_218 := by decide
theorem w_f_X9_clause_218 (h : HS) (y0 : Int32) (y1 : Int32) : pk (f_X9_clause_218 h y0 y1) (fun a => Fr S_X9_clause_218 h a) := by
  unfold f_X9_clause_218
  refine pk_chk (fun _ => ?_)
  refine pk_if (fun _ => ?_) (fun _ => ?_)
  · refine pk_ob1 (w_f_X9_wants (sA h 0 33 (upd (eA h 0 33) ((y1).toNatClampNeg) y0)) 8) (fun h_28 k_1 => ?_)
    replace k_1 := Fr_trans (Fr_sA fm_X9_clause_218_1_0_33 (Fr_refl _ h)) (Fr_mono fs_X9_wants__X9_clause_218 k_1)
    refine pk_ob2 (w_f_X9_number h_28 0 5) (fun r_29 h_29 k_2 => ?_)
    replace k_2 := Fr_trans k_1 (Fr_mono fs_X9_number__X9_clause_218 k_2)
    refine pk_chk (fun _ => ?_)
    refine pk_ob1 (w_f_X9_wants (sA h_29 0 34 (upd (eA h_29 0 34) (((eI h_28 0 29)).toNatClampNeg) r_29)) 17) (fun h_31 k_3 => ?_)
    replace k_3 := Fr_trans (Fr_sA fm_X9_clause_218_1_0_34 k_2) (Fr_mono fs_X9_wants__X9_clause_218 k_3)
    refine pk_ob2 (w_f_X9_number h_31 0 2) (fun r_32 h_32 k_4 => ?_)
    replace k_4 := Fr_trans k_3 (Fr_mono fs_X9_number__X9_clause_218 k_4)
    refine pk_chk (fun _ => ?_)
    exact pk_mono (w_f_X9_clause_301 (sA h_32 0 35 (upd (eA h_32 0 35) (((eI h_31 0 29)).toNatClampNeg) r_32))) (fun _ k => Fr_trans (Fr_sA fm_X9_clause_218_1_0_35 k_4) (Fr_mono fs_X9_clause_301__X9_clause_218 k))
  · refine pk_if (fun _ => ?_) (fun _ => ?_)
    · refine pk_ob1 (w_f_X9_wants (sA h 0 33 (upd (eA h 0 33) ((y1).toNatClampNeg) y0)) 9) (fun h_25 k_5 => ?_)
      replace k_5 := Fr_trans (Fr_sA fm_X9_clause_218_1_0_33 (Fr_refl _ h)) (Fr_mono fs_X9_wants__X9_clause_218 k_5)
      refine pk_ob2 (w_f_X9_number h_25 0 3) (fun r_26 h_26 k_6 => ?_)
      replace k_6 := Fr_trans k_5 (Fr_mono fs_X9_number__X9_clause_218 k_6)
      refine pk_chk (fun _ => ?_)
      exact pk_mono (w_f_X9_clause_301 (sA h_26 0 34 (upd (eA h_26 0 34) (((eI h_25 0 29)).toNatClampNeg) r_26))) (fun _ k => Fr_trans (Fr_sA fm_X9_clause_218_1_0_34 k_6) (Fr_mono fs_X9_clause_301__X9_clause_218 k))
    · exact pk_mono (w_f_X9_clause_301 (sA h 0 33 (upd (eA h 0 33) ((y1).toNatClampNeg) y0))) (fun _ k => Fr_trans (Fr_sA fm_X9_clause_218_1_0_33 (Fr_refl _ h)) (Fr_mono fs_X9_clause_301__X9_clause_218 k))
def S_X9_clause_180 : CL := [(0, 0, 28)]
theorem fm_X9_clause_180_0_0_28 : (0, 0, 28) ∈ S_X9_clause_180 := by decide
theorem w_f_X9_clause_180 (h : HS) (y0 : Int32) : pk (f_X9_clause_180 h y0) (fun a => Fr S_X9_clause_180 h a) := by
  unfold f_X9_clause_180
  exact pk_some (Fr_sI fm_X9_clause_180_0_0_28 (Fr_refl _ h))
def S_X9_clause_163 : CL := [(0, 0, 22), (0, 0, 28), (1, 0, 23)]
theorem fs_X9_opensFrame__X9_clause_163 : ∀ x ∈ S_X9_opensFrame, x ∈ S_X9_clause_163 := by decide
theorem fs_X9_clause_180__X9_clause_163 : ∀ x ∈ S_X9_clause_180, x ∈ S_X9_clause_163 := by decide
theorem w_f_X9_clause_163 (h : HS) (y0 : Int32) : pk (f_X9_clause_163 h y0) (fun a => Fr S_X9_clause_163 h a) := by
  unfold f_X9_clause_163
  refine pk_ob1 (w_f_X9_opensFrame h y0) (fun h_34 k_1 => ?_)
  replace k_1 := Fr_trans (Fr_refl _ h) (Fr_mono fs_X9_opensFrame__X9_clause_163 k_1)
  refine pk_if (fun _ => ?_) (fun _ => ?_)
  · exact pk_mono (w_f_X9_clause_180 h_34 0) (fun _ k => Fr_trans k_1 (Fr_mono fs_X9_clause_180__X9_clause_163 k))
  · exact pk_mono (w_f_X9_clause_180 h_34 1) (fun _ k => Fr_trans k_1 (Fr_mono fs_X9_clause_180__X9_clause_163 k))
def S_X9_clause_73 : CL := [(0, 0, 15), (0, 0, 16), (0, 0, 17), (0, 0, 18), (0, 0, 19), (0, 0, 20), (0, 0, 22), (0, 0, 25), (0, 0, 28), (0, 0, 29), (0, 0, 36), (1, 0, 23), (1, 0, 31), (1, 0, 32), (1, 0, 33), (1, 0, 34), (1, 0, 35), (1, 0, 37), (1, 0, 38)]
theorem fm_X9_clause_73_1_0_35 : (1, 0, 35) ∈ S_X9_clause_73 := by decide
theorem fm_X9_clause_73_1_0_34 : (1, 0, 34) ∈ S_X9_clause_73 := by decide
theorem fm_X9_clause_73_1_0_33 : (1, 0, 33) ∈ S_X9_clause_73 := by decide
theorem fm_X9_clause_73_1_0_32 : (1, 0, 32) ∈ S_X9_clause_73 := by decide
theorem fm_X9_clause_73_1_0_31 : (1, 0, 31) ∈ S_X9_clause_73 := by decide
theorem fs_X9_next__X9_clause_73 : ∀ x ∈ S_X9_next, x ∈ S_X9_clause_73 := by decide
theorem fs_X9_number__X9_clause_73 : ∀ x ∈ S_X9_number, x ∈ S_X9_clause_73 := by decide
theorem fs_X9_clause_218__X9_clause_73 : ∀ x ∈ S_X9_clause_218, x ∈ S_X9_clause_73 := by decide
theorem fs_X9_clause_163__X9_clause_73 : ∀ x ∈ S_X9_clause_163, x ∈ S_X9_clause_73 := by decide
theorem w_f_X9_clause_73 (h : HS) : pk (f_X9_clause_73 h) (fun a => Fr S_X9_clause_73 h a) := by
  unfold f_X9_clause_73
  refine pk_if (fun _ => ?_) (fun _ => ?_)
  · refine pk_chk (fun _ => ?_)
    refine pk_chk (fun _ => ?_)
    refine pk_chk (fun _ => ?_)
    refine pk_chk (fun _ => ?_)
    refine pk_chk (fun _ => ?_)
    refine pk_ob1 (w_f_X9_next (sA (sA (sA (sA (sA h 0 31 (upd (eA h 0 31) (((eI h 0 29)).toNatClampNeg) (eI h 0 30))) 0 32 (upd (eA h 0 32) (((eI h 0 29)).toNatClampNeg) (eI h 0 36))) 0 33 (upd (eA h 0 33) (((eI h 0 29)).toNatClampNeg) (-1))) 0 34 (upd (eA h 0 34) (((eI h 0 29)).toNatClampNeg) (-1))) 0 35 (upd (eA h 0 35) (((eI h 0 29)).toNatClampNeg) (-1)))) (fun h_16 k_1 => ?_)
    replace k_1 := Fr_trans (Fr_sA fm_X9_clause_73_1_0_35 (Fr_sA fm_X9_clause_73_1_0_34 (Fr_sA fm_X9_clause_73_1_0_33 (Fr_sA fm_X9_clause_73_1_0_32 (Fr_sA fm_X9_clause_73_1_0_31 (Fr_refl _ h)))))) (Fr_mono fs_X9_next__X9_clause_73 k_1)
    refine pk_if (fun _ => ?_) (fun _ => ?_)
    · refine pk_if (fun _ => ?_) (fun _ => ?_)
      · refine pk_ob2 (w_f_X9_number h_16 1 99) (fun r_20 h_20 k_2 => ?_)
        replace k_2 := Fr_trans k_1 (Fr_mono fs_X9_number__X9_clause_73 k_2)
        exact pk_mono (w_f_X9_clause_218 h_20 r_20 (eI h_16 0 29)) (fun _ k => Fr_trans k_2 (Fr_mono fs_X9_clause_218__X9_clause_73 k))
      · refine pk_ob2 (w_f_X9_number h_16 0 9) (fun r_19 h_19 k_3 => ?_)
        replace k_3 := Fr_trans k_1 (Fr_mono fs_X9_number__X9_clause_73 k_3)
        exact pk_mono (w_f_X9_clause_218 h_19 r_19 (eI h_16 0 29)) (fun _ k => Fr_trans k_3 (Fr_mono fs_X9_clause_218__X9_clause_73 k))
    · refine pk_if (fun _ => ?_) (fun _ => ?_)
      · exact pk_mono (w_f_X9_clause_163 h_16 2) (fun _ k => Fr_trans k_1 (Fr_mono fs_X9_clause_163__X9_clause_73 k))
      · exact pk_mono (w_f_X9_clause_163 h_16 1) (fun _ k => Fr_trans k_1 (Fr_mono fs_X9_clause_163__X9_clause_73 k))
  · exact pk_some (Fr_refl _ h)
def S_X9_clause_58 : CL := [(0, 0, 15), (0, 0, 16), (0, 0, 17), (0, 0, 18), (0, 0, 19), (0, 0, 20), (0, 0, 22), (0, 0, 25), (0, 0, 28), (0, 0, 29), (0, 0, 36), (1, 0, 23), (1, 0, 31), (1, 0, 32), (1, 0, 33), (1, 0, 34), (1, 0, 35), (1, 0, 37), (1, 0, 38)]
theorem fs_X9_errs__X9_clause_58 : ∀ x ∈ S_X9_errs, x ∈ S_X9_clause_58 := by decide
theorem fs_X9_clause_73__X9_clause_58 : ∀ x ∈ S_X9_clause_73, x ∈ S_X9_clause_58 := by decide
theorem w_f_X9_clause_58 (h : HS) : pk (f_X9_clause_58 h) (fun a => Fr S_X9_clause_58 h a) := by
  unfold f_X9_clause_58
  refine pk_if (fun _ => ?_) (fun _ => ?_)
  · refine pk_ob1 (w_f_X9_errs h 6) (fun h_9 k_1 => ?_)
    replace k_1 := Fr_trans (Fr_refl _ h) (Fr_mono fs_X9_errs__X9_clause_58 k_1)
    exact pk_mono (w_f_X9_clause_73 h_9) (fun _ k => Fr_trans k_1 (Fr_mono fs_X9_clause_73__X9_clause_58 k))
  · exact pk_mono (w_f_X9_clause_73 h) (fun _ k => Fr_trans (Fr_refl _ h) (Fr_mono fs_X9_clause_73__X9_clause_58 k))
def S_X9_clause : CL := [(0, 0, 15), (0, 0, 16), (0, 0, 17), (0, 0, 18), (0, 0, 19), (0, 0, 20), (0, 0, 22), (0, 0, 25), (0, 0, 28), (0, 0, 29), (0, 0, 30), (0, 0, 36), (1, 0, 23), (1, 0, 31), (1, 0, 32), (1, 0, 33), (1, 0, 34), (1, 0, 35), (1, 0, 37), (1, 0, 38)]
theorem fm_X9_clause_0_0_30 : (0, 0, 30) ∈ S_X9_clause := by decide
theorem fs_X9_clause_58__X9_clause : ∀ x ∈ S_X9_clause_58, x ∈ S_X9_clause := by decide
theorem fs_X9_wasTold__X9_clause : ∀ x ∈ S_X9_wasTold, x ∈ S_X9_clause := by decide
theorem fs_X9_errs__X9_clause : ∀ x ∈ S_X9_errs, x ∈ S_X9_clause := by decide
theorem fs_X9_clause_73__X9_clause : ∀ x ∈ S_X9_clause_73, x ∈ S_X9_clause := by decide
theorem fs_X9_clause_17__X9_clause : ∀ x ∈ S_X9_clause_17, x ∈ S_X9_clause := by decide
theorem w_f_X9_clause (h : HS) : pk (f_X9_clause h) (fun a => Fr S_X9_clause h a) := by
  unfold f_X9_clause
  refine pk_if (fun _ => ?_) (fun _ => ?_)
  · refine pk_if (fun _ => ?_) (fun _ => ?_)
    · refine pk_if (fun _ => ?_) (fun _ => ?_)
      · exact pk_mono (w_f_X9_clause_58 (sI h 0 30 (eI h 0 18))) (fun _ k => Fr_trans (Fr_sI fm_X9_clause_0_0_30 (Fr_refl _ h)) (Fr_mono fs_X9_clause_58__X9_clause k))
      · refine pk_ob2 (w_f_X9_wasTold (sI h 0 30 (eI h 0 18)) (eI h 0 18)) (fun r_4 h_4 k_1 => ?_)
        replace k_1 := Fr_trans (Fr_sI fm_X9_clause_0_0_30 (Fr_refl _ h)) (Fr_mono fs_X9_wasTold__X9_clause k_1)
        refine pk_if (fun _ => ?_) (fun _ => ?_)
        · exact pk_mono (w_f_X9_clause_58 h_4) (fun _ k => Fr_trans k_1 (Fr_mono fs_X9_clause_58__X9_clause k))
        · refine pk_ob1 (w_f_X9_errs h_4 4) (fun h_6 k_2 => ?_)
          replace k_2 := Fr_trans k_1 (Fr_mono fs_X9_errs__X9_clause k_2)
          exact pk_mono (w_f_X9_clause_73 h_6) (fun _ k => Fr_trans k_2 (Fr_mono fs_X9_clause_73__X9_clause k))
    · exact pk_mono (w_f_X9_clause_17 h) (fun _ k => Fr_trans (Fr_refl _ h) (Fr_mono fs_X9_clause_17__X9_clause k))
  · exact pk_mono (w_f_X9_clause_17 h) (fun _ k => Fr_trans (Fr_refl _ h) (Fr_mono fs_X9_clause_17__X9_clause k))
def S_X9_text_318 : CL := [(1, 0, 0), (1, 0, 12), (1, 0, 13)]
theorem fm_X9_text_318_1_0_0 : (1, 0, 0) ∈ S_X9_text_318 := by decide
theorem fm_X9_text_318_1_0_13 : (1, 0, 13) ∈ S_X9_text_318 := by decide
theorem fm_X9_text_318_1_0_12 : (1, 0, 12) ∈ S_X9_text_318 := by decide
theorem w_f_X9_text_318  : ∀ (n : Nat) (h : HS) (x1 : Int32) (x2 : Int32), pk (f_X9_text_318  n h x1 x2) (fun a => Fr S_X9_text_318 h a.2) := by
  intro n
  induction n with
  | zero => intro h x1 x2; exact pk_none
  | succ n ih =>
    intro h x1 x2
    rw [f_X9_text_318_s]
    refine pk_if (fun _ => ?_) (fun _ => ?_)
    · exact pk_some (Fr_sA fm_X9_text_318_1_0_0 (Fr_refl _ h))
    · refine pk_chk (fun _ => ?_)
      refine pk_chk (fun _ => ?_)
      refine pk_chk (fun _ => ?_)
      refine pk_chk (fun _ => ?_)
      exact pk_mono (ih (sA (sA h 0 12 (upd (eA h 0 12) ((((400 * x1) + x2)).toNatClampNeg) ((eA h 0 37) ((x2).toNatClampNeg)))) 0 13 (upd (eA h 0 13) ((((400 * x1) + x2)).toNatClampNeg) ((eA h 0 38) ((x2).toNatClampNeg)))) x1 (x2 + 1)) (fun _ k => Fr_trans (Fr_sA fm_X9_text_318_1_0_13 (Fr_sA fm_X9_text_318_1_0_12 (Fr_refl _ h))) k)
def S_X9_text_211 : CL := [(1, 0, 0), (1, 0, 7), (1, 0, 8), (1, 0, 9), (1, 0, 10), (1, 0, 11), (1, 0, 12), (1, 0, 13)]
theorem fm_X9_text_211_1_0_11 : (1, 0, 11) ∈ S_X9_text_211 := by decide
theorem fm_X9_text_211_1_0_10 : (1, 0, 10) ∈ S_X9_text_211 := by decide
theorem fm_X9_text_211_1_0_9 : (1, 0, 9) ∈ S_X9_text_211 := by decide
theorem fm_X9_text_211_1_0_8 : (1, 0, 8) ∈ S_X9_text_211 := by decide
theorem fm_X9_text_211_1_0_7 : (1, 0, 7) ∈ S_X9_text_211 := by decide
theorem fs_X9_text_318__X9_text_211 : ∀ x ∈ S_X9_text_318, x ∈ S_X9_text_211 := by decide
theorem w_f_X9_text_211  : ∀ (n : Nat) (h : HS) (x1 : Int32) (x2 : Int32), pk (f_X9_text_211  n h x1 x2) (fun a => Fr S_X9_text_211 h a.2) := by
  intro n
  induction n with
  | zero => intro h x1 x2; exact pk_none
  | succ n ih =>
    intro h x1 x2
    rw [f_X9_text_211_s]
    refine pk_if (fun _ => ?_) (fun _ => ?_)
    · exact pk_mono (w_f_X9_text_318 8589934592 h x1 0) (fun _ k => Fr_trans (Fr_refl _ h) (Fr_mono fs_X9_text_318__X9_text_211 k))
    · refine pk_chk (fun _ => ?_)
      refine pk_chk (fun _ => ?_)
      refine pk_chk (fun _ => ?_)
      refine pk_chk (fun _ => ?_)
      refine pk_chk (fun _ => ?_)
      refine pk_chk (fun _ => ?_)
      refine pk_chk (fun _ => ?_)
      refine pk_chk (fun _ => ?_)
      refine pk_chk (fun _ => ?_)
      refine pk_chk (fun _ => ?_)
      exact pk_mono (ih (sA (sA (sA (sA (sA h 0 7 (upd (eA h 0 7) ((((24 * x1) + x2)).toNatClampNeg) ((eA h 0 31) ((x2).toNatClampNeg)))) 0 8 (upd (eA h 0 8) ((((24 * x1) + x2)).toNatClampNeg) ((400 * x1) + ((eA h 0 32) ((x2).toNatClampNeg))))) 0 9 (upd (eA h 0 9) ((((24 * x1) + x2)).toNatClampNeg) ((eA h 0 33) ((x2).toNatClampNeg)))) 0 10 (upd (eA h 0 10) ((((24 * x1) + x2)).toNatClampNeg) ((eA h 0 34) ((x2).toNatClampNeg)))) 0 11 (upd (eA h 0 11) ((((24 * x1) + x2)).toNatClampNeg) ((eA h 0 35) ((x2).toNatClampNeg)))) x1 (x2 + 1)) (fun _ k => Fr_trans (Fr_sA fm_X9_text_211_1_0_11 (Fr_sA fm_X9_text_211_1_0_10 (Fr_sA fm_X9_text_211_1_0_9 (Fr_sA fm_X9_text_211_1_0_8 (Fr_sA fm_X9_text_211_1_0_7 (Fr_refl _ h)))))) k)
def S_X9_text_167 : CL := [(0, 0, 4), (0, 0, 5), (1, 0, 0), (1, 0, 6), (1, 0, 7), (1, 0, 8), (1, 0, 9), (1, 0, 10), (1, 0, 11), (1, 0, 12), (1, 0, 13)]
theorem fm_X9_text_167_1_0_6 : (1, 0, 6) ∈ S_X9_text_167 := by decide
theorem fm_X9_text_167_0_0_5 : (0, 0, 5) ∈ S_X9_text_167 := by decide
theorem fm_X9_text_167_0_0_4 : (0, 0, 4) ∈ S_X9_text_167 := by decide
theorem fs_X9_text_211__X9_text_167 : ∀ x ∈ S_X9_text_211, x ∈ S_X9_text_167 := by decide
theorem w_f_X9_text_167 (h : HS) : pk (f_X9_text_167 h) (fun a => Fr S_X9_text_167 h a.2) := by
  unfold f_X9_text_167
  refine pk_if (fun _ => ?_) (fun _ => ?_)
  · refine pk_chk (fun _ => ?_)
    exact pk_mono (w_f_X9_text_211 8589934592 (sA (sI (sI h 0 4 (eI h 0 19)) 0 5 (eI h 0 20)) 0 6 (upd (eA h 0 6) ((((eA h 0 0) 3)).toNatClampNeg) (eI h 0 29))) ((eA h 0 0) 3) 0) (fun _ k => Fr_trans (Fr_sA fm_X9_text_167_1_0_6 (Fr_sI fm_X9_text_167_0_0_5 (Fr_sI fm_X9_text_167_0_0_4 (Fr_refl _ h)))) (Fr_mono fs_X9_text_211__X9_text_167 k))
  · exact pk_some (Fr_sI fm_X9_text_167_0_0_5 (Fr_sI fm_X9_text_167_0_0_4 (Fr_refl _ h)))
def S_X9_text_74 : CL := [(0, 0, 4), (0, 0, 5), (0, 0, 15), (0, 0, 16), (0, 0, 17), (0, 0, 18), (0, 0, 19), (0, 0, 20), (0, 0, 21), (0, 0, 22), (0, 0, 25), (0, 0, 28), (0, 0, 29), (0, 0, 30), (0, 0, 36), (1, 0, 0), (1, 0, 6), (1, 0, 7), (1, 0, 8), (1, 0, 9), (1, 0, 10), (1, 0, 11), (1, 0, 12), (1, 0, 13), (1, 0, 23), (1, 0, 24), (1, 0, 26), (1, 0, 27), (1, 0, 31), (1, 0, 32), (1, 0, 33), (1, 0, 34), (1, 0, 35), (1, 0, 37), (1, 0, 38)]
theorem fs_X9_asks__X9_text_74 : ∀ x ∈ S_X9_asks, x ∈ S_X9_text_74 := by decide
theorem fs_X9_begins__X9_text_74 : ∀ x ∈ S_X9_begins, x ∈ S_X9_text_74 := by decide
theorem fs_X9_goesOn__X9_text_74 : ∀ x ∈ S_X9_goesOn, x ∈ S_X9_text_74 := by decide
theorem fs_X9_asksOn__X9_text_74 : ∀ x ∈ S_X9_asksOn, x ∈ S_X9_text_74 := by decide
theorem fs_X9_clause__X9_text_74 : ∀ x ∈ S_X9_clause, x ∈ S_X9_text_74 := by decide
theorem w_f_X9_text_96 (k74 : HS → Option (Int32 × HS)) (hk_k74 : ∀ (h : HS), pk (k74 h) (fun a => Fr S_X9_text_74 h a.2)) (h : HS) : pk (f_X9_text_96 k74 h) (fun a => Fr S_X9_text_74 h a.2) := by
  unfold f_X9_text_96
  refine pk_if (fun _ => ?_) (fun _ => ?_)
  · refine pk_ob1 (w_f_X9_asks h) (fun h_9 k_1 => ?_)
    replace k_1 := Fr_trans (Fr_refl _ h) (Fr_mono fs_X9_asks__X9_text_74 k_1)
    exact pk_mono (hk_k74 h_9) (fun _ k => Fr_trans k_1 k)
  · refine pk_if (fun _ => ?_) (fun _ => ?_)
    · refine pk_ob1 (w_f_X9_begins h) (fun h_11 k_2 => ?_)
      replace k_2 := Fr_trans (Fr_refl _ h) (Fr_mono fs_X9_begins__X9_text_74 k_2)
      exact pk_mono (hk_k74 h_11) (fun _ k => Fr_trans k_2 k)
    · refine pk_if (fun _ => ?_) (fun _ => ?_)
      · refine pk_ob1 (w_f_X9_goesOn h) (fun h_13 k_3 => ?_)
        replace k_3 := Fr_trans (Fr_refl _ h) (Fr_mono fs_X9_goesOn__X9_text_74 k_3)
        exact pk_mono (hk_k74 h_13) (fun _ k => Fr_trans k_3 k)
      · refine pk_if (fun _ => ?_) (fun _ => ?_)
        · refine pk_ob1 (w_f_X9_asksOn h) (fun h_15 k_4 => ?_)
          replace k_4 := Fr_trans (Fr_refl _ h) (Fr_mono fs_X9_asksOn__X9_text_74 k_4)
          exact pk_mono (hk_k74 h_15) (fun _ k => Fr_trans k_4 k)
        · refine pk_ob1 (w_f_X9_clause h) (fun h_16 k_5 => ?_)
          replace k_5 := Fr_trans (Fr_refl _ h) (Fr_mono fs_X9_clause__X9_text_74 k_5)
          exact pk_mono (hk_k74 h_16) (fun _ k => Fr_trans k_5 k)
theorem fs_X9_text_167__X9_text_74 : ∀ x ∈ S_X9_text_167, x ∈ S_X9_text_74 := by decide
theorem w_f_X9_text_74  : ∀ (n : Nat) (h : HS), pk (f_X9_text_74  n h) (fun a => Fr S_X9_text_74 h a.2) := by
  intro n
  induction n with
  | zero => intro h; exact pk_none
  | succ n ih =>
    intro h
    rw [f_X9_text_74_s]
    refine pk_if (fun _ => ?_) (fun _ => ?_)
    · refine pk_if (fun _ => ?_) (fun _ => ?_)
      · refine pk_if (fun _ => ?_) (fun _ => ?_)
        · exact pk_mono (w_f_X9_text_167 h) (fun _ k => Fr_trans (Fr_refl _ h) (Fr_mono fs_X9_text_167__X9_text_74 k))
        · exact pk_mono (w_f_X9_text_96 (f_X9_text_74 n) ih h) (fun _ k => Fr_trans (Fr_refl _ h) k)
      · exact pk_mono (w_f_X9_text_96 (f_X9_text_74 n) ih h) (fun _ k => Fr_trans (Fr_refl _ h) k)
    · exact pk_mono (w_f_X9_text_167 h) (fun _ k => Fr_trans (Fr_refl _ h) (Fr_mono fs_X9_text_167__X9_text_74 k))
def S_X9_text : CL := [(0, 0, 3), (0, 0, 4), (0, 0, 5), (0, 0, 14), (0, 0, 15), (0, 0, 16), (0, 0, 17), (0, 0, 18), (0, 0, 19), (0, 0, 20), (0, 0, 21), (0, 0, 22), (0, 0, 25), (0, 0, 28), (0, 0, 29), (0, 0, 30), (0, 0, 36), (1, 0, 0), (1, 0, 6), (1, 0, 7), (1, 0, 8), (1, 0, 9), (1, 0, 10), (1, 0, 11), (1, 0, 12), (1, 0, 13), (1, 0, 23), (1, 0, 24), (1, 0, 26), (1, 0, 27), (1, 0, 31), (1, 0, 32), (1, 0, 33), (1, 0, 34), (1, 0, 35), (1, 0, 37), (1, 0, 38)]
theorem fm_X9_text_0_0_36 : (0, 0, 36) ∈ S_X9_text := by decide
theorem fm_X9_text_0_0_29 : (0, 0, 29) ∈ S_X9_text := by decide
theorem fm_X9_text_0_0_28 : (0, 0, 28) ∈ S_X9_text := by decide
theorem fm_X9_text_0_0_25 : (0, 0, 25) ∈ S_X9_text := by decide
theorem fm_X9_text_0_0_22 : (0, 0, 22) ∈ S_X9_text := by decide
theorem fm_X9_text_0_0_21 : (0, 0, 21) ∈ S_X9_text := by decide
theorem fm_X9_text_0_0_20 : (0, 0, 20) ∈ S_X9_text := by decide
theorem fm_X9_text_0_0_19 : (0, 0, 19) ∈ S_X9_text := by decide
theorem fm_X9_text_0_0_15 : (0, 0, 15) ∈ S_X9_text := by decide
theorem fm_X9_text_0_0_3 : (0, 0, 3) ∈ S_X9_text := by decide
theorem fm_X9_text_0_0_14 : (0, 0, 14) ∈ S_X9_text := by decide
theorem fs_X9_next__X9_text : ∀ x ∈ S_X9_next, x ∈ S_X9_text := by decide
theorem fs_X9_text_74__X9_text : ∀ x ∈ S_X9_text_74, x ∈ S_X9_text := by decide
theorem w_f_X9_text (h : HS) : pk (f_X9_text h) (fun a => Fr S_X9_text h a.2) := by
  unfold f_X9_text
  refine pk_if (fun _ => ?_) (fun _ => ?_)
  · exact pk_some (Fr_refl _ h)
  · refine pk_ob1 (w_f_X9_next (sI (sI (sI (sI (sI (sI (sI (sI (sI (sI (sI h 0 14 (eI h 0 3)) 0 3 0) 0 15 0) 0 19 0) 0 20 (-1)) 0 21 0) 0 22 0) 0 25 0) 0 28 4) 0 29 0) 0 36 0)) (fun h_2 k_1 => ?_)
    replace k_1 := Fr_trans (Fr_sI fm_X9_text_0_0_36 (Fr_sI fm_X9_text_0_0_29 (Fr_sI fm_X9_text_0_0_28 (Fr_sI fm_X9_text_0_0_25 (Fr_sI fm_X9_text_0_0_22 (Fr_sI fm_X9_text_0_0_21 (Fr_sI fm_X9_text_0_0_20 (Fr_sI fm_X9_text_0_0_19 (Fr_sI fm_X9_text_0_0_15 (Fr_sI fm_X9_text_0_0_3 (Fr_sI fm_X9_text_0_0_14 (Fr_refl _ h)))))))))))) (Fr_mono fs_X9_next__X9_text k_1)
    exact pk_mono (w_f_X9_text_74 8589934592 h_2) (fun _ k => Fr_trans k_1 (Fr_mono fs_X9_text_74__X9_text k))
def S_X9_fault_24 : CL := []
theorem w_f_X9_fault_24 (h : HS) (y0 : Int32) : pk (f_X9_fault_24 h y0) (fun a => Fr S_X9_fault_24 h a.2) := by
  unfold f_X9_fault_24
  exact pk_some (Fr_refl _ h)
def S_X9_fault : CL := []
theorem fs_X9_fault_24__X9_fault : ∀ x ∈ S_X9_fault_24, x ∈ S_X9_fault := by decide
theorem w_f_X9_fault (h : HS) (p1 : Int32) : pk (f_X9_fault h p1) (fun a => Fr S_X9_fault h a.2) := by
  unfold f_X9_fault
  refine pk_if (fun _ => ?_) (fun _ => ?_)
  · exact pk_mono (w_f_X9_fault_24 h (eI h 0 4)) (fun _ k => Fr_trans (Fr_refl _ h) (Fr_mono fs_X9_fault_24__X9_fault k))
  · refine pk_if (fun _ => ?_) (fun _ => ?_)
    · exact pk_mono (w_f_X9_fault_24 h (eI h 0 5)) (fun _ k => Fr_trans (Fr_refl _ h) (Fr_mono fs_X9_fault_24__X9_fault k))
    · exact pk_mono (w_f_X9_fault_24 h (-1)) (fun _ k => Fr_trans (Fr_refl _ h) (Fr_mono fs_X9_fault_24__X9_fault k))
def S_X9_saysOf_4 : CL := [(3, 0, 40)]
theorem w_f_X9_saysOf_169 (k4 : HS → Int32 → Int32 → Option (Int64 × HS)) (hk_k4 : ∀ (h : HS) (x0 : Int32) (x1 : Int32), pk (k4 h x0 x1) (fun a => Fr S_X9_saysOf_4 h a.2)) (h : HS) (x2 : Int32) (x3 : Int32) : pk (f_X9_saysOf_169 k4 h x2 x3) (fun a => Fr S_X9_saysOf_4 h a.2) := by
  unfold f_X9_saysOf_169
  exact pk_mono (hk_k4 h x2 (x3 + 1)) (fun _ k => Fr_trans (Fr_refl _ h) k)
theorem fm_X9_saysOf_4_3_0_40 : (3, 0, 40) ∈ S_X9_saysOf_4 := by decide
theorem w_f_X9_saysOf_75 (k4 : HS → Int32 → Int32 → Option (Int64 × HS)) (hk_k4 : ∀ (h : HS) (x0 : Int32) (x1 : Int32), pk (k4 h x0 x1) (fun a => Fr S_X9_saysOf_4 h a.2)) (h : HS) (x2 : Int32) (x3 : Int32) (y0 : Int64) (y1 : Int32) : pk (f_X9_saysOf_75 k4 h x2 x3 y0 y1) (fun a => Fr S_X9_saysOf_4 h a.2) := by
  unfold f_X9_saysOf_75
  refine pk_chk (fun _ => ?_)
  exact pk_mono (w_f_X9_saysOf_169 k4 hk_k4 (sJ h 0 40 (vp_updL (eJ h 0 40) ((y1).toNatClampNeg) y0)) (x2 + 1) x3) (fun _ k => Fr_trans (Fr_sJ fm_X9_saysOf_4_3_0_40 (Fr_refl _ h)) k)
theorem w_f_X9_saysOf_40 (k4 : HS → Int32 → Int32 → Option (Int64 × HS)) (hk_k4 : ∀ (h : HS) (x0 : Int32) (x1 : Int32), pk (k4 h x0 x1) (fun a => Fr S_X9_saysOf_4 h a.2)) (h : HS) (x2 : Int32) (x3 : Int32) (x4 : Int32) : pk (f_X9_saysOf_40 k4 h x2 x3 x4) (fun a => Fr S_X9_saysOf_4 h a.2) := by
  unfold f_X9_saysOf_40
  refine pk_if (fun _ => ?_) (fun _ => ?_)
  · refine pk_chk (fun _ => ?_)
    exact pk_mono (w_f_X9_saysOf_75 k4 hk_k4 h x2 x3 ((((eA h 0 13) ((x3).toNatClampNeg))).toInt64) x2) (fun _ k => Fr_trans (Fr_refl _ h) k)
  · refine pk_chk (fun _ => ?_)
    refine pk_chk (fun _ => ?_)
    exact pk_mono (w_f_X9_saysOf_75 k4 hk_k4 h x2 x3 ((((eA h 0 39) ((((eA h 0 13) ((x3).toNatClampNeg))).toNatClampNeg))).toInt64) x2) (fun _ k => Fr_trans (Fr_refl _ h) k)
theorem w_f_X9_saysOf_4  : ∀ (n : Nat) (h : HS) (x2 : Int32) (x3 : Int32), pk (f_X9_saysOf_4  n h x2 x3) (fun a => Fr S_X9_saysOf_4 h a.2) := by
  intro n
  induction n with
  | zero => intro h x2 x3; exact pk_none
  | succ n ih =>
    intro h x2 x3
    rw [f_X9_saysOf_4_s]
    refine pk_chk (fun _ => ?_)
    refine pk_if (fun _ => ?_) (fun _ => ?_)
    · exact pk_some (Fr_refl _ h)
    · refine pk_chk (fun _ => ?_)
      refine pk_if (fun _ => ?_) (fun _ => ?_)
      · exact pk_mono (w_f_X9_saysOf_40 (f_X9_saysOf_4 n) ih h x2 x3 ((eA h 0 12) ((x3).toNatClampNeg))) (fun _ k => Fr_trans (Fr_refl _ h) k)
      · refine pk_if (fun _ => ?_) (fun _ => ?_)
        · exact pk_mono (w_f_X9_saysOf_40 (f_X9_saysOf_4 n) ih h x2 x3 ((eA h 0 12) ((x3).toNatClampNeg))) (fun _ k => Fr_trans (Fr_refl _ h) k)
        · refine pk_if (fun _ => ?_) (fun _ => ?_)
          · refine pk_chk (fun _ => ?_)
            refine pk_chk (fun _ => ?_)
            exact pk_mono (w_f_X9_saysOf_169 (f_X9_saysOf_4 n) ih (sJ h 0 40 (vp_updL (eJ h 0 40) (((x2 - 1)).toNatClampNeg) (-((eJ h 0 40) (((x2 - 1)).toNatClampNeg))))) x2 x3) (fun _ k => Fr_trans (Fr_sJ fm_X9_saysOf_4_3_0_40 (Fr_refl _ h)) k)
          · refine pk_if (fun _ => ?_) (fun _ => ?_)
            · refine pk_chk (fun _ => ?_)
              refine pk_chk (fun _ => ?_)
              exact pk_mono (w_f_X9_saysOf_169 (f_X9_saysOf_4 n) ih (sJ h 0 40 (vp_updL (eJ h 0 40) (((x2 - 1)).toNatClampNeg) (1 - ((eJ h 0 40) (((x2 - 1)).toNatClampNeg))))) x2 x3) (fun _ k => Fr_trans (Fr_sJ fm_X9_saysOf_4_3_0_40 (Fr_refl _ h)) k)
            · refine pk_chk (fun _ => ?_)
              refine pk_chk (fun _ => ?_)
              refine pk_obf (fun r_10 => ?_)
              refine pk_chk (fun _ => ?_)
              exact pk_mono (w_f_X9_saysOf_169 (f_X9_saysOf_4 n) ih (sJ h 0 40 (vp_updL (eJ h 0 40) ((((x2 + (-1)) - 1)).toNatClampNeg) r_10)) (x2 + (-1)) x3) (fun _ k => Fr_trans (Fr_sJ fm_X9_saysOf_4_3_0_40 (Fr_refl _ h)) k)
def S_X9_saysOf : CL := [(3, 0, 40)]
theorem fs_X9_saysOf_4__X9_saysOf : ∀ x ∈ S_X9_saysOf_4, x ∈ S_X9_saysOf := by decide
theorem w_f_X9_saysOf (h : HS) (p1 : Int32) : pk (f_X9_saysOf h p1) (fun a => Fr S_X9_saysOf h a.2) := by
  unfold f_X9_saysOf
  exact pk_mono (w_f_X9_saysOf_4 8589934592 h 0 p1) (fun _ k => Fr_trans (Fr_refl _ h) (Fr_mono fs_X9_saysOf_4__X9_saysOf k))
def S_X9_by_23 : CL := [(1, 0, 0)]
theorem fm_X9_by_23_1_0_0 : (1, 0, 0) ∈ S_X9_by_23 := by decide
theorem w_f_X9_by_23 (h : HS) (x1 : Int32) : pk (f_X9_by_23 h x1) (fun a => Fr S_X9_by_23 h a.2) := by
  unfold f_X9_by_23
  exact pk_some (Fr_sA fm_X9_by_23_1_0_0 (Fr_refl _ h))
def S_X9_by : CL := [(1, 0, 0)]
theorem fs_X9_by_23__X9_by : ∀ x ∈ S_X9_by_23, x ∈ S_X9_by := by decide
theorem w_f_X9_by (h : HS) (p1 : Int32) : pk (f_X9_by h p1) (fun a => Fr S_X9_by h a.2) := by
  unfold f_X9_by
  refine pk_if (fun _ => ?_) (fun _ => ?_)
  · exact pk_mono (w_f_X9_by_23 h p1) (fun _ k => Fr_trans (Fr_refl _ h) (Fr_mono fs_X9_by_23__X9_by k))
  · refine pk_obf (fun r_2 => ?_)
    refine pk_if (fun _ => ?_) (fun _ => ?_)
    · exact pk_some (Fr_refl _ h)
    · exact pk_mono (w_f_X9_by_23 h p1) (fun _ k => Fr_trans (Fr_refl _ h) (Fr_mono fs_X9_by_23__X9_by k))
def S_X9_ordersOf_71 : CL := []
theorem w_f_X9_ordersOf_71 (h : HS) (x2 : Int32) : pk (f_X9_ordersOf_71 h x2) (fun a => Fr S_X9_ordersOf_71 h a.2) := by
  unfold f_X9_ordersOf_71
  exact pk_some (Fr_refl _ h)
def S_X9_ordersOf_4 : CL := []
theorem w_f_X9_ordersOf_64 (k4 : HS → Int32 → Int32 → Int32 → Option (Int32 × HS)) (hk_k4 : ∀ (h : HS) (x0 : Int32) (x1 : Int32) (x2 : Int32), pk (k4 h x0 x1 x2) (fun a => Fr S_X9_ordersOf_4 h a.2)) (h : HS) (x1 : Int32) (x3 : Int32) (y0 : Int32) : pk (f_X9_ordersOf_64 k4 h x1 x3 y0) (fun a => Fr S_X9_ordersOf_4 h a.2) := by
  unfold f_X9_ordersOf_64
  exact pk_mono (hk_k4 h x1 y0 (x3 + 1)) (fun _ k => Fr_trans (Fr_refl _ h) k)
theorem fs_X9_ordersOf_71__X9_ordersOf_4 : ∀ x ∈ S_X9_ordersOf_71, x ∈ S_X9_ordersOf_4 := by decide
theorem w_f_X9_ordersOf_4  : ∀ (n : Nat) (h : HS) (x1 : Int32) (x2 : Int32) (x3 : Int32), pk (f_X9_ordersOf_4  n h x1 x2 x3) (fun a => Fr S_X9_ordersOf_4 h a.2) := by
  intro n
  induction n with
  | zero => intro h x1 x2 x3; exact pk_none
  | succ n ih =>
    intro h x1 x2 x3
    rw [f_X9_ordersOf_4_s]
    refine pk_if (fun _ => ?_) (fun _ => ?_)
    · exact pk_mono (w_f_X9_ordersOf_71 h x2) (fun _ k => Fr_trans (Fr_refl _ h) (Fr_mono fs_X9_ordersOf_71__X9_ordersOf_4 k))
    · refine pk_chk (fun _ => ?_)
      refine pk_if (fun _ => ?_) (fun _ => ?_)
      · exact pk_mono (w_f_X9_ordersOf_71 h x2) (fun _ k => Fr_trans (Fr_refl _ h) (Fr_mono fs_X9_ordersOf_71__X9_ordersOf_4 k))
      · refine pk_chk (fun _ => ?_)
        refine pk_if (fun _ => ?_) (fun _ => ?_)
        · refine pk_chk (fun _ => ?_)
          exact pk_mono (w_f_X9_ordersOf_64 (f_X9_ordersOf_4 n) ih h x1 x3 ((eA h 0 8) ((((24 * ((eA h 0 0) 4)) + x3)).toNatClampNeg))) (fun _ k => Fr_trans (Fr_refl _ h) k)
        · exact pk_mono (w_f_X9_ordersOf_64 (f_X9_ordersOf_4 n) ih h x1 x3 x2) (fun _ k => Fr_trans (Fr_refl _ h) k)
def S_X9_ordersOf : CL := []
theorem fs_X9_ordersOf_4__X9_ordersOf : ∀ x ∈ S_X9_ordersOf_4, x ∈ S_X9_ordersOf := by decide
theorem w_f_X9_ordersOf (h : HS) (p1 : Int32) : pk (f_X9_ordersOf h p1) (fun a => Fr S_X9_ordersOf h a.2) := by
  unfold f_X9_ordersOf
  exact pk_mono (w_f_X9_ordersOf_4 8589934592 h p1 (-1) 0) (fun _ k => Fr_trans (Fr_refl _ h) (Fr_mono fs_X9_ordersOf_4__X9_ordersOf k))
def S_X9_names : CL := [(1, 0, 39)]
theorem fm_X9_names_1_0_39 : (1, 0, 39) ∈ S_X9_names := by decide
theorem fs_X9_ofGoose__X9_names : ∀ x ∈ S_X9_ofGoose, x ∈ S_X9_names := by decide
theorem w_f_X9_names (h : HS) (p1 : Int32) (p2 : Int32) (p3 : Int32) (p4 : Int32) : pk (f_X9_names h p1 p2 p3 p4) (fun a => Fr S_X9_names h a) := by
  unfold f_X9_names
  refine pk_ob2 (w_f_X9_ofGoose (sA h 0 39 (upd (eA h 0 39) 0 p1)) p1 0) (fun r_1 h_1 k_1 => ?_)
  replace k_1 := Fr_trans (Fr_sA fm_X9_names_1_0_39 (Fr_refl _ h)) (Fr_mono fs_X9_ofGoose__X9_names k_1)
  refine pk_ob2 (w_f_X9_ofGoose (sA h_1 0 39 (upd (eA h_1 0 39) 1 r_1)) p1 1) (fun r_2 h_2 k_2 => ?_)
  replace k_2 := Fr_trans (Fr_sA fm_X9_names_1_0_39 k_1) (Fr_mono fs_X9_ofGoose__X9_names k_2)
  exact pk_some (Fr_sA fm_X9_names_1_0_39 (Fr_sA fm_X9_names_1_0_39 (Fr_sA fm_X9_names_1_0_39 (Fr_sA fm_X9_names_1_0_39 k_2))))
def S_X9_inkOf : CL := [(1, 0, 39), (3, 0, 40)]
theorem fs_X9_ordersOf__X9_inkOf : ∀ x ∈ S_X9_ordersOf, x ∈ S_X9_inkOf := by decide
theorem fs_X9_names__X9_inkOf : ∀ x ∈ S_X9_names, x ∈ S_X9_inkOf := by decide
theorem fs_X9_saysOf__X9_inkOf : ∀ x ∈ S_X9_saysOf, x ∈ S_X9_inkOf := by decide
theorem w_f_X9_inkOf (h : HS) (p1 : Int32) (p2 : Int32) (p3 : Int32) : pk (f_X9_inkOf h p1 p2 p3) (fun a => Fr S_X9_inkOf h a.2) := by
  unfold f_X9_inkOf
  refine pk_ob2 (w_f_X9_ordersOf h 2) (fun r_1 h_1 k_1 => ?_)
  replace k_1 := Fr_trans (Fr_refl _ h) (Fr_mono fs_X9_ordersOf__X9_inkOf k_1)
  refine pk_if (fun _ => ?_) (fun _ => ?_)
  · exact pk_some k_1
  · refine pk_ob1 (w_f_X9_names h_1 p1 p2 p3 ((eA h_1 0 0) 121)) (fun h_3 k_2 => ?_)
    replace k_2 := Fr_trans k_1 (Fr_mono fs_X9_names__X9_inkOf k_2)
    refine pk_ob2 (w_f_X9_saysOf h_3 r_1) (fun r_4 h_4 k_3 => ?_)
    replace k_3 := Fr_trans k_2 (Fr_mono fs_X9_saysOf__X9_inkOf k_3)
    refine pk_obf (fun r_5 => ?_)
    exact pk_some k_3
def S_X9_ink_27 : CL := []
theorem w_f_X9_ink_27 (h : HS) (y0 : Int32) : pk (f_X9_ink_27 h y0) (fun a => Fr S_X9_ink_27 h a.2) := by
  unfold f_X9_ink_27
  exact pk_some (Fr_refl _ h)
def S_X9_ink_26 : CL := []
theorem fs_X9_ink_27__X9_ink_26 : ∀ x ∈ S_X9_ink_27, x ∈ S_X9_ink_26 := by decide
theorem w_f_X9_ink_26 (h : HS) : pk (f_X9_ink_26 h) (fun a => Fr S_X9_ink_26 h a.2) := by
  unfold f_X9_ink_26
  exact pk_mono (w_f_X9_ink_27 h (-1)) (fun _ k => Fr_trans (Fr_refl _ h) (Fr_mono fs_X9_ink_27__X9_ink_26 k))
def S_X9_ink : CL := [(1, 0, 39), (3, 0, 40)]
theorem fs_X9_isGoose__X9_ink : ∀ x ∈ S_X9_isGoose, x ∈ S_X9_ink := by decide
theorem fs_X9_ink_26__X9_ink : ∀ x ∈ S_X9_ink_26, x ∈ S_X9_ink := by decide
theorem fs_X9_inkOf__X9_ink : ∀ x ∈ S_X9_inkOf, x ∈ S_X9_ink := by decide
theorem fs_X9_ink_27__X9_ink : ∀ x ∈ S_X9_ink_27, x ∈ S_X9_ink := by decide
theorem w_f_X9_ink (h : HS) (p1 : Int32) (p2 : Int32) (p3 : Int32) : pk (f_X9_ink h p1 p2 p3) (fun a => Fr S_X9_ink h a.2) := by
  unfold f_X9_ink
  refine pk_ob2 (w_f_X9_isGoose h p1) (fun r_1 h_1 k_1 => ?_)
  replace k_1 := Fr_trans (Fr_refl _ h) (Fr_mono fs_X9_isGoose__X9_ink k_1)
  refine pk_if (fun _ => ?_) (fun _ => ?_)
  · exact pk_mono (w_f_X9_ink_26 h_1) (fun _ k => Fr_trans k_1 (Fr_mono fs_X9_ink_26__X9_ink k))
  · refine pk_obf (fun r_3 => ?_)
    refine pk_if (fun _ => ?_) (fun _ => ?_)
    · exact pk_mono (w_f_X9_ink_26 h_1) (fun _ k => Fr_trans k_1 (Fr_mono fs_X9_ink_26__X9_ink k))
    · refine pk_ob2 (w_f_X9_inkOf h_1 p1 p2 p3) (fun r_5 h_5 k_2 => ?_)
      replace k_2 := Fr_trans k_1 (Fr_mono fs_X9_inkOf__X9_ink k_2)
      exact pk_mono (w_f_X9_ink_27 h_5 r_5) (fun _ k => Fr_trans k_2 (Fr_mono fs_X9_ink_27__X9_ink k))
def S_X9_fill_43 : CL := []
theorem w_f_X9_fill_43 (h : HS) : pk (f_X9_fill_43 h) (fun a => Fr S_X9_fill_43 h a.2) := by
  unfold f_X9_fill_43
  exact pk_some (Fr_refl _ h)
def S_X9_fill : CL := [(1, 0, 0), (1, 0, 39), (3, 0, 40)]
theorem fm_X9_fill_1_0_0 : (1, 0, 0) ∈ S_X9_fill := by decide
theorem fs_X9_isHome__X9_fill : ∀ x ∈ S_X9_isHome, x ∈ S_X9_fill := by decide
theorem fs_X9_fill_43__X9_fill : ∀ x ∈ S_X9_fill_43, x ∈ S_X9_fill := by decide
theorem fs_X9_ofGoose__X9_fill : ∀ x ∈ S_X9_ofGoose, x ∈ S_X9_fill := by decide
theorem fs_X9_inkOf__X9_fill : ∀ x ∈ S_X9_inkOf, x ∈ S_X9_fill := by decide
theorem fs_X9_keepsStep__X9_fill : ∀ x ∈ S_X9_keepsStep, x ∈ S_X9_fill := by decide
theorem fs_X9_puts__X9_fill : ∀ x ∈ S_X9_puts, x ∈ S_X9_fill := by decide
theorem w_f_X9_fill (h : HS) (p1 : Int32) (p2 : Int32) (p3 : Int32) : pk (f_X9_fill h p1 p2 p3) (fun a => Fr S_X9_fill h a.2) := by
  unfold f_X9_fill
  refine pk_ob2 (w_f_X9_isHome h p1) (fun r_1 h_1 k_1 => ?_)
  replace k_1 := Fr_trans (Fr_refl _ h) (Fr_mono fs_X9_isHome__X9_fill k_1)
  refine pk_if (fun _ => ?_) (fun _ => ?_)
  · exact pk_mono (w_f_X9_fill_43 h_1) (fun _ k => Fr_trans k_1 (Fr_mono fs_X9_fill_43__X9_fill k))
  · refine pk_ob2 (w_f_X9_ofGoose h_1 p1 2) (fun r_3 h_3 k_2 => ?_)
    replace k_2 := Fr_trans k_1 (Fr_mono fs_X9_ofGoose__X9_fill k_2)
    refine pk_if (fun _ => ?_) (fun _ => ?_)
    · refine pk_obf (fun r_5 => ?_)
      refine pk_if (fun _ => ?_) (fun _ => ?_)
      · exact pk_mono (w_f_X9_fill_43 h_3) (fun _ k => Fr_trans k_2 (Fr_mono fs_X9_fill_43__X9_fill k))
      · refine pk_ob2 (w_f_X9_inkOf h_3 p1 p2 p3) (fun r_7 h_7 k_3 => ?_)
        replace k_3 := Fr_trans k_2 (Fr_mono fs_X9_inkOf__X9_fill k_3)
        refine pk_if (fun _ => ?_) (fun _ => ?_)
        · refine pk_ob2 (w_f_X9_inkOf h_7 p1 p2 p3) (fun r_9 h_9 k_4 => ?_)
          replace k_4 := Fr_trans k_3 (Fr_mono fs_X9_inkOf__X9_fill k_4)
          refine pk_ob1 (w_f_X9_keepsStep h_9) (fun h_10 k_5 => ?_)
          replace k_5 := Fr_trans k_4 (Fr_mono fs_X9_keepsStep__X9_fill k_5)
          refine pk_ob1 (w_f_X9_puts h_10 p1 2 p2) (fun h_11 k_6 => ?_)
          replace k_6 := Fr_trans k_5 (Fr_mono fs_X9_puts__X9_fill k_6)
          refine pk_ob1 (w_f_X9_puts h_11 p1 3 p3) (fun h_12 k_7 => ?_)
          replace k_7 := Fr_trans k_6 (Fr_mono fs_X9_puts__X9_fill k_7)
          exact pk_some (Fr_sA fm_X9_fill_1_0_0 k_7)
        · exact pk_mono (w_f_X9_fill_43 h_7) (fun _ k => Fr_trans k_3 (Fr_mono fs_X9_fill_43__X9_fill k))
    · exact pk_mono (w_f_X9_fill_43 h_3) (fun _ k => Fr_trans k_2 (Fr_mono fs_X9_fill_43__X9_fill k))
def S_X9_send_27 : CL := []
theorem w_f_X9_send_27 (h : HS) : pk (f_X9_send_27 h) (fun a => Fr S_X9_send_27 h a.2) := by
  unfold f_X9_send_27
  exact pk_some (Fr_refl _ h)
def S_X9_send : CL := [(1, 0, 0)]
theorem fs_X9_isHome__X9_send : ∀ x ∈ S_X9_isHome, x ∈ S_X9_send := by decide
theorem fs_X9_send_27__X9_send : ∀ x ∈ S_X9_send_27, x ∈ S_X9_send := by decide
theorem fs_X9_ofGoose__X9_send : ∀ x ∈ S_X9_ofGoose, x ∈ S_X9_send := by decide
theorem fs_X9_isMarket__X9_send : ∀ x ∈ S_X9_isMarket, x ∈ S_X9_send := by decide
theorem fs_X9_keepsStep__X9_send : ∀ x ∈ S_X9_keepsStep, x ∈ S_X9_send := by decide
theorem fs_X9_puts__X9_send : ∀ x ∈ S_X9_puts, x ∈ S_X9_send := by decide
theorem w_f_X9_send (h : HS) (p1 : Int32) (p2 : Int32) : pk (f_X9_send h p1 p2) (fun a => Fr S_X9_send h a.2) := by
  unfold f_X9_send
  refine pk_ob2 (w_f_X9_isHome h p1) (fun r_1 h_1 k_1 => ?_)
  replace k_1 := Fr_trans (Fr_refl _ h) (Fr_mono fs_X9_isHome__X9_send k_1)
  refine pk_if (fun _ => ?_) (fun _ => ?_)
  · exact pk_mono (w_f_X9_send_27 h_1) (fun _ k => Fr_trans k_1 (Fr_mono fs_X9_send_27__X9_send k))
  · refine pk_ob2 (w_f_X9_ofGoose h_1 p1 8) (fun r_3 h_3 k_2 => ?_)
    replace k_2 := Fr_trans k_1 (Fr_mono fs_X9_ofGoose__X9_send k_2)
    refine pk_if (fun _ => ?_) (fun _ => ?_)
    · exact pk_mono (w_f_X9_send_27 h_3) (fun _ k => Fr_trans k_2 (Fr_mono fs_X9_send_27__X9_send k))
    · refine pk_ob2 (w_f_X9_isMarket h_3 p2) (fun r_5 h_5 k_3 => ?_)
      replace k_3 := Fr_trans k_2 (Fr_mono fs_X9_isMarket__X9_send k_3)
      refine pk_if (fun _ => ?_) (fun _ => ?_)
      · exact pk_mono (w_f_X9_send_27 h_5) (fun _ k => Fr_trans k_3 (Fr_mono fs_X9_send_27__X9_send k))
      · refine pk_ob1 (w_f_X9_keepsStep h_5) (fun h_7 k_4 => ?_)
        replace k_4 := Fr_trans k_3 (Fr_mono fs_X9_keepsStep__X9_send k_4)
        refine pk_ob1 (w_f_X9_puts h_7 p1 4 1) (fun h_8 k_5 => ?_)
        replace k_5 := Fr_trans k_4 (Fr_mono fs_X9_puts__X9_send k_5)
        refine pk_ob1 (w_f_X9_puts h_8 p1 5 p2) (fun h_9 k_6 => ?_)
        replace k_6 := Fr_trans k_5 (Fr_mono fs_X9_puts__X9_send k_6)
        refine pk_chk (fun _ => ?_)
        refine pk_ob1 (w_f_X9_puts h_9 p1 6 (((eA h_9 0 0) 121) + ((eA h_9 0 0) (((10 + (3 * p2))).toNatClampNeg)))) (fun h_11 k_7 => ?_)
        replace k_7 := Fr_trans k_6 (Fr_mono fs_X9_puts__X9_send k_7)
        refine pk_ob2 (w_f_X9_ofGoose h_11 p1 6) (fun r_12 h_12 k_8 => ?_)
        replace k_8 := Fr_trans k_7 (Fr_mono fs_X9_ofGoose__X9_send k_8)
        exact pk_some k_8
def S_X9_fatten_29 : CL := []
theorem w_f_X9_fatten_29 (h : HS) : pk (f_X9_fatten_29 h) (fun a => Fr S_X9_fatten_29 h a.2) := by
  unfold f_X9_fatten_29
  exact pk_some (Fr_refl _ h)
def S_X9_fatten : CL := [(1, 0, 0)]
theorem fm_X9_fatten_1_0_0 : (1, 0, 0) ∈ S_X9_fatten := by decide
theorem fs_X9_isHome__X9_fatten : ∀ x ∈ S_X9_isHome, x ∈ S_X9_fatten := by decide
theorem fs_X9_fatten_29__X9_fatten : ∀ x ∈ S_X9_fatten_29, x ∈ S_X9_fatten := by decide
theorem fs_X9_ofGoose__X9_fatten : ∀ x ∈ S_X9_ofGoose, x ∈ S_X9_fatten := by decide
theorem fs_X9_keepsStep__X9_fatten : ∀ x ∈ S_X9_keepsStep, x ∈ S_X9_fatten := by decide
theorem fs_X9_puts__X9_fatten : ∀ x ∈ S_X9_puts, x ∈ S_X9_fatten := by decide
theorem w_f_X9_fatten (h : HS) (p1 : Int32) : pk (f_X9_fatten h p1) (fun a => Fr S_X9_fatten h a.2) := by
  unfold f_X9_fatten
  refine pk_ob2 (w_f_X9_isHome h p1) (fun r_1 h_1 k_1 => ?_)
  replace k_1 := Fr_trans (Fr_refl _ h) (Fr_mono fs_X9_isHome__X9_fatten k_1)
  refine pk_if (fun _ => ?_) (fun _ => ?_)
  · exact pk_mono (w_f_X9_fatten_29 h_1) (fun _ k => Fr_trans k_1 (Fr_mono fs_X9_fatten_29__X9_fatten k))
  · refine pk_ob2 (w_f_X9_ofGoose h_1 p1 0) (fun r_3 h_3 k_2 => ?_)
    replace k_2 := Fr_trans k_1 (Fr_mono fs_X9_ofGoose__X9_fatten k_2)
    refine pk_if (fun _ => ?_) (fun _ => ?_)
    · exact pk_mono (w_f_X9_fatten_29 h_3) (fun _ k => Fr_trans k_2 (Fr_mono fs_X9_fatten_29__X9_fatten k))
    · refine pk_if (fun _ => ?_) (fun _ => ?_)
      · exact pk_mono (w_f_X9_fatten_29 h_3) (fun _ k => Fr_trans k_2 (Fr_mono fs_X9_fatten_29__X9_fatten k))
      · refine pk_ob1 (w_f_X9_keepsStep h_3) (fun h_6 k_3 => ?_)
        replace k_3 := Fr_trans k_2 (Fr_mono fs_X9_keepsStep__X9_fatten k_3)
        refine pk_ob2 (w_f_X9_ofGoose h_6 p1 0) (fun r_7 h_7 k_4 => ?_)
        replace k_4 := Fr_trans k_3 (Fr_mono fs_X9_ofGoose__X9_fatten k_4)
        refine pk_ob1 (w_f_X9_puts h_7 p1 0 (r_7 + 1)) (fun h_8 k_5 => ?_)
        replace k_5 := Fr_trans k_4 (Fr_mono fs_X9_puts__X9_fatten k_5)
        refine pk_ob2 (w_f_X9_ofGoose (sA h_8 0 0 (upd (eA h_8 0 0) 120 (((eA h_8 0 0) 120) - 1))) p1 0) (fun r_9 h_9 k_6 => ?_)
        replace k_6 := Fr_trans (Fr_sA fm_X9_fatten_1_0_0 k_5) (Fr_mono fs_X9_ofGoose__X9_fatten k_6)
        exact pk_some k_6
def S_X9_pluck_17 : CL := []
theorem w_f_X9_pluck_17 (h : HS) : pk (f_X9_pluck_17 h) (fun a => Fr S_X9_pluck_17 h a.2) := by
  unfold f_X9_pluck_17
  exact pk_some (Fr_refl _ h)
def S_X9_pluck : CL := [(1, 0, 0)]
theorem fs_X9_isHome__X9_pluck : ∀ x ∈ S_X9_isHome, x ∈ S_X9_pluck := by decide
theorem fs_X9_pluck_17__X9_pluck : ∀ x ∈ S_X9_pluck_17, x ∈ S_X9_pluck := by decide
theorem fs_X9_ofGoose__X9_pluck : ∀ x ∈ S_X9_ofGoose, x ∈ S_X9_pluck := by decide
theorem fs_X9_keepsStep__X9_pluck : ∀ x ∈ S_X9_keepsStep, x ∈ S_X9_pluck := by decide
theorem fs_X9_puts__X9_pluck : ∀ x ∈ S_X9_puts, x ∈ S_X9_pluck := by decide
theorem w_f_X9_pluck (h : HS) (p1 : Int32) : pk (f_X9_pluck h p1) (fun a => Fr S_X9_pluck h a.2) := by
  unfold f_X9_pluck
  refine pk_ob2 (w_f_X9_isHome h p1) (fun r_1 h_1 k_1 => ?_)
  replace k_1 := Fr_trans (Fr_refl _ h) (Fr_mono fs_X9_isHome__X9_pluck k_1)
  refine pk_if (fun _ => ?_) (fun _ => ?_)
  · exact pk_mono (w_f_X9_pluck_17 h_1) (fun _ k => Fr_trans k_1 (Fr_mono fs_X9_pluck_17__X9_pluck k))
  · refine pk_ob2 (w_f_X9_ofGoose h_1 p1 1) (fun r_3 h_3 k_2 => ?_)
    replace k_2 := Fr_trans k_1 (Fr_mono fs_X9_ofGoose__X9_pluck k_2)
    refine pk_if (fun _ => ?_) (fun _ => ?_)
    · exact pk_mono (w_f_X9_pluck_17 h_3) (fun _ k => Fr_trans k_2 (Fr_mono fs_X9_pluck_17__X9_pluck k))
    · refine pk_ob1 (w_f_X9_keepsStep h_3) (fun h_5 k_3 => ?_)
      replace k_3 := Fr_trans k_2 (Fr_mono fs_X9_keepsStep__X9_pluck k_3)
      refine pk_ob2 (w_f_X9_ofGoose h_5 p1 1) (fun r_6 h_6 k_4 => ?_)
      replace k_4 := Fr_trans k_3 (Fr_mono fs_X9_ofGoose__X9_pluck k_4)
      refine pk_ob1 (w_f_X9_puts h_6 p1 1 (r_6 - 1)) (fun h_7 k_5 => ?_)
      replace k_5 := Fr_trans k_4 (Fr_mono fs_X9_puts__X9_pluck k_5)
      refine pk_ob2 (w_f_X9_ofGoose h_7 p1 1) (fun r_8 h_8 k_6 => ?_)
      replace k_6 := Fr_trans k_5 (Fr_mono fs_X9_ofGoose__X9_pluck k_6)
      exact pk_some k_6
def S_X9_name_19 : CL := []
theorem w_f_X9_name_19 (h : HS) : pk (f_X9_name_19 h) (fun a => Fr S_X9_name_19 h a.2) := by
  unfold f_X9_name_19
  exact pk_some (Fr_refl _ h)
def S_X9_name : CL := [(1, 0, 0)]
theorem fs_X9_isHome__X9_name : ∀ x ∈ S_X9_isHome, x ∈ S_X9_name := by decide
theorem fs_X9_name_19__X9_name : ∀ x ∈ S_X9_name_19, x ∈ S_X9_name := by decide
theorem fs_X9_ofGoose__X9_name : ∀ x ∈ S_X9_ofGoose, x ∈ S_X9_name := by decide
theorem fs_X9_keepsStep__X9_name : ∀ x ∈ S_X9_keepsStep, x ∈ S_X9_name := by decide
theorem fs_X9_puts__X9_name : ∀ x ∈ S_X9_puts, x ∈ S_X9_name := by decide
theorem w_f_X9_name (h : HS) (p1 : Int32) : pk (f_X9_name h p1) (fun a => Fr S_X9_name h a.2) := by
  unfold f_X9_name
  refine pk_ob2 (w_f_X9_isHome h p1) (fun r_1 h_1 k_1 => ?_)
  replace k_1 := Fr_trans (Fr_refl _ h) (Fr_mono fs_X9_isHome__X9_name k_1)
  refine pk_if (fun _ => ?_) (fun _ => ?_)
  · exact pk_mono (w_f_X9_name_19 h_1) (fun _ k => Fr_trans k_1 (Fr_mono fs_X9_name_19__X9_name k))
  · refine pk_ob2 (w_f_X9_ofGoose h_1 p1 8) (fun r_3 h_3 k_2 => ?_)
    replace k_2 := Fr_trans k_1 (Fr_mono fs_X9_ofGoose__X9_name k_2)
    refine pk_if (fun _ => ?_) (fun _ => ?_)
    · exact pk_mono (w_f_X9_name_19 h_3) (fun _ k => Fr_trans k_2 (Fr_mono fs_X9_name_19__X9_name k))
    · refine pk_ob1 (w_f_X9_keepsStep h_3) (fun h_5 k_3 => ?_)
      replace k_3 := Fr_trans k_2 (Fr_mono fs_X9_keepsStep__X9_name k_3)
      refine pk_ob1 (w_f_X9_puts h_5 p1 8 1) (fun h_6 k_4 => ?_)
      replace k_4 := Fr_trans k_3 (Fr_mono fs_X9_puts__X9_name k_4)
      exact pk_some k_4
def S_X9_marketTells_56 : CL := []
theorem w_f_X9_marketTells_56 (h : HS) (y0 : Int32) : pk (f_X9_marketTells_56 h y0) (fun a => Fr S_X9_marketTells_56 h a.2) := by
  unfold f_X9_marketTells_56
  exact pk_some (Fr_refl _ h)
def S_X9_marketTells : CL := [(1, 0, 39), (3, 0, 40)]
theorem fm_X9_marketTells_1_0_39 : (1, 0, 39) ∈ S_X9_marketTells := by decide
theorem fs_X9_ordersOf__X9_marketTells : ∀ x ∈ S_X9_ordersOf, x ∈ S_X9_marketTells := by decide
theorem fs_X9_marketTells_56__X9_marketTells : ∀ x ∈ S_X9_marketTells_56, x ∈ S_X9_marketTells := by decide
theorem fs_X9_names__X9_marketTells : ∀ x ∈ S_X9_names, x ∈ S_X9_marketTells := by decide
theorem fs_X9_saysOf__X9_marketTells : ∀ x ∈ S_X9_saysOf, x ∈ S_X9_marketTells := by decide
theorem w_f_X9_marketTells (h : HS) (p1 : Int32) (p2 : Int32) (p3 : Int32) (p4 : Int32) (p5 : Int32) (p6 : Int32) : pk (f_X9_marketTells h p1 p2 p3 p4 p5 p6) (fun a => Fr S_X9_marketTells h a.2) := by
  unfold f_X9_marketTells
  refine pk_chk (fun _ => ?_)
  refine pk_chk (fun _ => ?_)
  refine pk_ob2 (w_f_X9_ordersOf h p1) (fun r_3 h_3 k_1 => ?_)
  replace k_1 := Fr_trans (Fr_refl _ h) (Fr_mono fs_X9_ordersOf__X9_marketTells k_1)
  refine pk_if (fun _ => ?_) (fun _ => ?_)
  · refine pk_if (fun _ => ?_) (fun _ => ?_)
    · exact pk_mono (w_f_X9_marketTells_56 h_3 ((eA h 0 0) ((((10 + (3 * p5)) + 1)).toNatClampNeg))) (fun _ k => Fr_trans k_1 (Fr_mono fs_X9_marketTells_56__X9_marketTells k))
    · exact pk_mono (w_f_X9_marketTells_56 h_3 ((eA h 0 0) ((((10 + (3 * p5)) + 2)).toNatClampNeg))) (fun _ k => Fr_trans k_1 (Fr_mono fs_X9_marketTells_56__X9_marketTells k))
  · refine pk_ob1 (w_f_X9_names h_3 p2 p3 p4 p6) (fun h_5 k_2 => ?_)
    replace k_2 := Fr_trans k_1 (Fr_mono fs_X9_names__X9_marketTells k_2)
    refine pk_ob2 (w_f_X9_saysOf (sA (sA (sA h_5 0 39 (upd (eA h_5 0 39) 6 p5)) 0 39 (upd (upd (eA h_5 0 39) 6 p5) 7 ((eA h 0 0) ((((10 + (3 * p5)) + 1)).toNatClampNeg)))) 0 39 (upd (upd (upd (eA h_5 0 39) 6 p5) 7 ((eA h 0 0) ((((10 + (3 * p5)) + 1)).toNatClampNeg))) 8 ((eA h 0 0) ((((10 + (3 * p5)) + 2)).toNatClampNeg)))) r_3) (fun r_6 h_6 k_3 => ?_)
    replace k_3 := Fr_trans (Fr_sA fm_X9_marketTells_1_0_39 (Fr_sA fm_X9_marketTells_1_0_39 (Fr_sA fm_X9_marketTells_1_0_39 k_2))) (Fr_mono fs_X9_saysOf__X9_marketTells k_3)
    refine pk_obf (fun r_7 => ?_)
    exact pk_some k_3
def S_X9_marketOf : CL := [(1, 0, 39), (3, 0, 40)]
theorem fs_X9_ofGoose__X9_marketOf : ∀ x ∈ S_X9_ofGoose, x ∈ S_X9_marketOf := by decide
theorem fs_X9_marketTells__X9_marketOf : ∀ x ∈ S_X9_marketTells, x ∈ S_X9_marketOf := by decide
theorem w_f_X9_marketOf (h : HS) (p1 : Int32) (p2 : Int32) : pk (f_X9_marketOf h p1 p2) (fun a => Fr S_X9_marketOf h a.2) := by
  unfold f_X9_marketOf
  refine pk_ob2 (w_f_X9_ofGoose h p2 2) (fun r_1 h_1 k_1 => ?_)
  replace k_1 := Fr_trans (Fr_refl _ h) (Fr_mono fs_X9_ofGoose__X9_marketOf k_1)
  refine pk_ob2 (w_f_X9_ofGoose h_1 p2 3) (fun r_2 h_2 k_2 => ?_)
  replace k_2 := Fr_trans k_1 (Fr_mono fs_X9_ofGoose__X9_marketOf k_2)
  refine pk_ob2 (w_f_X9_ofGoose h_2 p2 5) (fun r_3 h_3 k_3 => ?_)
  replace k_3 := Fr_trans k_2 (Fr_mono fs_X9_ofGoose__X9_marketOf k_3)
  refine pk_ob2 (w_f_X9_ofGoose h_3 p2 6) (fun r_4 h_4 k_4 => ?_)
  replace k_4 := Fr_trans k_3 (Fr_mono fs_X9_ofGoose__X9_marketOf k_4)
  refine pk_ob2 (w_f_X9_marketTells h_4 p1 p2 r_1 r_2 r_3 r_4) (fun r_5 h_5 k_5 => ?_)
  replace k_5 := Fr_trans k_4 (Fr_mono fs_X9_marketTells__X9_marketOf k_5)
  exact pk_some k_5
def S_X9_isTrueBy_53 : CL := []
theorem w_f_X9_isTrueBy_53 (h : HS) (y0 : Int32) : pk (f_X9_isTrueBy_53 h y0) (fun a => Fr S_X9_isTrueBy_53 h a.2) := by
  unfold f_X9_isTrueBy_53
  refine pk_chk (fun _ => ?_)
  exact pk_some (Fr_refl _ h)
def S_X9_isTrueBy : CL := [(1, 0, 39), (3, 0, 40)]
theorem fm_X9_isTrueBy_1_0_39 : (1, 0, 39) ∈ S_X9_isTrueBy := by decide
theorem fs_X9_ordersOf__X9_isTrueBy : ∀ x ∈ S_X9_ordersOf, x ∈ S_X9_isTrueBy := by decide
theorem fs_X9_names__X9_isTrueBy : ∀ x ∈ S_X9_names, x ∈ S_X9_isTrueBy := by decide
theorem fs_X9_saysOf__X9_isTrueBy : ∀ x ∈ S_X9_saysOf, x ∈ S_X9_isTrueBy := by decide
theorem fs_X9_isTrueBy_53__X9_isTrueBy : ∀ x ∈ S_X9_isTrueBy_53, x ∈ S_X9_isTrueBy := by decide
theorem w_f_X9_isTrueBy (h : HS) (p1 : Int32) (p2 : Int32) (p3 : Int32) (p4 : Int32) : pk (f_X9_isTrueBy h p1 p2 p3 p4) (fun a => Fr S_X9_isTrueBy h a.2) := by
  unfold f_X9_isTrueBy
  refine pk_ob2 (w_f_X9_ordersOf h 3) (fun r_1 h_1 k_1 => ?_)
  replace k_1 := Fr_trans (Fr_refl _ h) (Fr_mono fs_X9_ordersOf__X9_isTrueBy k_1)
  refine pk_if (fun _ => ?_) (fun _ => ?_)
  · exact pk_some k_1
  · refine pk_ob1 (w_f_X9_names h_1 p1 p2 p3 ((eA h_1 0 0) 121)) (fun h_3 k_2 => ?_)
    replace k_2 := Fr_trans k_1 (Fr_mono fs_X9_names__X9_isTrueBy k_2)
    refine pk_ob2 (w_f_X9_saysOf (sA h_3 0 39 (upd (eA h_3 0 39) 2 p4)) r_1) (fun r_4 h_4 k_3 => ?_)
    replace k_3 := Fr_trans (Fr_sA fm_X9_isTrueBy_1_0_39 k_2) (Fr_mono fs_X9_saysOf__X9_isTrueBy k_3)
    refine pk_if (fun _ => ?_) (fun _ => ?_)
    · exact pk_mono (w_f_X9_isTrueBy_53 h_4 0) (fun _ k => Fr_trans k_3 (Fr_mono fs_X9_isTrueBy_53__X9_isTrueBy k))
    · exact pk_mono (w_f_X9_isTrueBy_53 h_4 1) (fun _ k => Fr_trans k_3 (Fr_mono fs_X9_isTrueBy_53__X9_isTrueBy k))
def S_X9_isTrue : CL := [(1, 0, 39), (3, 0, 40)]
theorem fs_X9_ofGoose__X9_isTrue : ∀ x ∈ S_X9_ofGoose, x ∈ S_X9_isTrue := by decide
theorem fs_X9_isTrueBy__X9_isTrue : ∀ x ∈ S_X9_isTrueBy, x ∈ S_X9_isTrue := by decide
theorem w_f_X9_isTrue (h : HS) (p1 : Int32) : pk (f_X9_isTrue h p1) (fun a => Fr S_X9_isTrue h a.2) := by
  unfold f_X9_isTrue
  refine pk_ob2 (w_f_X9_ofGoose h p1 2) (fun r_1 h_1 k_1 => ?_)
  replace k_1 := Fr_trans (Fr_refl _ h) (Fr_mono fs_X9_ofGoose__X9_isTrue k_1)
  refine pk_ob2 (w_f_X9_ofGoose h_1 p1 3) (fun r_2 h_2 k_2 => ?_)
  replace k_2 := Fr_trans k_1 (Fr_mono fs_X9_ofGoose__X9_isTrue k_2)
  refine pk_ob2 (w_f_X9_ofGoose h_2 p1 1) (fun r_3 h_3 k_3 => ?_)
  replace k_3 := Fr_trans k_2 (Fr_mono fs_X9_ofGoose__X9_isTrue k_3)
  refine pk_ob2 (w_f_X9_isTrueBy h_3 p1 r_1 r_2 r_3) (fun r_4 h_4 k_4 => ?_)
  replace k_4 := Fr_trans k_3 (Fr_mono fs_X9_isTrueBy__X9_isTrue k_4)
  refine pk_chk (fun _ => ?_)
  exact pk_some k_4
def S_X9_comesThere_50 : CL := [(1, 0, 0)]
theorem fs_X9_puts__X9_comesThere_50 : ∀ x ∈ S_X9_puts, x ∈ S_X9_comesThere_50 := by decide
theorem w_f_X9_comesThere_50 (h : HS) (x1 : Int32) (x2 : Int32) : pk (f_X9_comesThere_50 h x1 x2) (fun a => Fr S_X9_comesThere_50 h a) := by
  unfold f_X9_comesThere_50
  refine pk_ob1 (w_f_X9_puts h x1 4 x2) (fun h_9 k_1 => ?_)
  replace k_1 := Fr_trans (Fr_refl _ h) (Fr_mono fs_X9_puts__X9_comesThere_50 k_1)
  refine pk_ob1 (w_f_X9_puts h_9 x1 7 ((eA h_9 0 0) 121)) (fun h_10 k_2 => ?_)
  replace k_2 := Fr_trans k_1 (Fr_mono fs_X9_puts__X9_comesThere_50 k_2)
  exact pk_some k_2
def S_X9_comesThere_49 : CL := [(1, 0, 0)]
theorem fs_X9_comesThere_50__X9_comesThere_49 : ∀ x ∈ S_X9_comesThere_50, x ∈ S_X9_comesThere_49 := by decide
theorem w_f_X9_comesThere_49 (h : HS) (x1 : Int32) (y0 : Int32) : pk (f_X9_comesThere_49 h x1 y0) (fun a => Fr S_X9_comesThere_49 h a) := by
  unfold f_X9_comesThere_49
  exact pk_mono (w_f_X9_comesThere_50 h x1 y0) (fun _ k => Fr_trans (Fr_refl _ h) (Fr_mono fs_X9_comesThere_50__X9_comesThere_49 k))
def S_X9_comesThere : CL := [(1, 0, 0), (1, 0, 39), (3, 0, 40)]
theorem fs_X9_draw__X9_comesThere : ∀ x ∈ S_X9_draw, x ∈ S_X9_comesThere := by decide
theorem fs_X9_marketOf__X9_comesThere : ∀ x ∈ S_X9_marketOf, x ∈ S_X9_comesThere := by decide
theorem fs_X9_comesThere_50__X9_comesThere : ∀ x ∈ S_X9_comesThere_50, x ∈ S_X9_comesThere := by decide
theorem fs_X9_ofGoose__X9_comesThere : ∀ x ∈ S_X9_ofGoose, x ∈ S_X9_comesThere := by decide
theorem fs_X9_comesThere_49__X9_comesThere : ∀ x ∈ S_X9_comesThere_49, x ∈ S_X9_comesThere := by decide
theorem w_f_X9_comesThere (h : HS) (p1 : Int32) : pk (f_X9_comesThere h p1) (fun a => Fr S_X9_comesThere h a) := by
  unfold f_X9_comesThere
  refine pk_ob2 (w_f_X9_draw h) (fun r_1 h_1 k_1 => ?_)
  replace k_1 := Fr_trans (Fr_refl _ h) (Fr_mono fs_X9_draw__X9_comesThere k_1)
  refine pk_ob2 (w_f_X9_marketOf h_1 0 p1) (fun r_2 h_2 k_2 => ?_)
  replace k_2 := Fr_trans k_1 (Fr_mono fs_X9_marketOf__X9_comesThere k_2)
  refine pk_if (fun _ => ?_) (fun _ => ?_)
  · exact pk_mono (w_f_X9_comesThere_50 h_2 p1 2) (fun _ k => Fr_trans k_2 (Fr_mono fs_X9_comesThere_50__X9_comesThere k))
  · refine pk_ob2 (w_f_X9_ofGoose h_2 p1 2) (fun r_4 h_4 k_3 => ?_)
    replace k_3 := Fr_trans k_2 (Fr_mono fs_X9_ofGoose__X9_comesThere k_3)
    refine pk_if (fun _ => ?_) (fun _ => ?_)
    · exact pk_mono (w_f_X9_comesThere_50 h_4 p1 3) (fun _ k => Fr_trans k_3 (Fr_mono fs_X9_comesThere_50__X9_comesThere k))
    · refine pk_ob2 (w_f_X9_draw h_4) (fun r_6 h_6 k_4 => ?_)
      replace k_4 := Fr_trans k_3 (Fr_mono fs_X9_draw__X9_comesThere k_4)
      refine pk_ob2 (w_f_X9_marketOf h_6 1 p1) (fun r_7 h_7 k_5 => ?_)
      replace k_5 := Fr_trans k_4 (Fr_mono fs_X9_marketOf__X9_comesThere k_5)
      refine pk_if (fun _ => ?_) (fun _ => ?_)
      · exact pk_mono (w_f_X9_comesThere_49 h_7 p1 3) (fun _ k => Fr_trans k_5 (Fr_mono fs_X9_comesThere_49__X9_comesThere k))
      · exact pk_mono (w_f_X9_comesThere_49 h_7 p1 4) (fun _ k => Fr_trans k_5 (Fr_mono fs_X9_comesThere_49__X9_comesThere k))
def S_X9_hungers_132 : CL := []
theorem w_f_X9_hungers_132 (h : HS) : pk (f_X9_hungers_132 h) (fun a => Fr S_X9_hungers_132 h a) := by
  unfold f_X9_hungers_132
  exact pk_some (Fr_refl _ h)
def S_X9_hungers_100 : CL := [(1, 0, 0)]
theorem fm_X9_hungers_100_1_0_0 : (1, 0, 0) ∈ S_X9_hungers_100 := by decide
theorem fs_X9_hungers_132__X9_hungers_100 : ∀ x ∈ S_X9_hungers_132, x ∈ S_X9_hungers_100 := by decide
theorem fs_X9_puts__X9_hungers_100 : ∀ x ∈ S_X9_puts, x ∈ S_X9_hungers_100 := by decide
theorem w_f_X9_hungers_100 (h : HS) (x2 : Int32) (y0 : Int32) (y1 : Int32) : pk (f_X9_hungers_100 h x2 y0 y1) (fun a => Fr S_X9_hungers_100 h a) := by
  unfold f_X9_hungers_100
  refine pk_chk (fun _ => ?_)
  refine pk_if (fun _ => ?_) (fun _ => ?_)
  · exact pk_mono (w_f_X9_hungers_132 (sA h 0 0 (upd (eA h 0 0) ((y1).toNatClampNeg) y0))) (fun _ k => Fr_trans (Fr_sA fm_X9_hungers_100_1_0_0 (Fr_refl _ h)) (Fr_mono fs_X9_hungers_132__X9_hungers_100 k))
  · refine pk_ob1 (w_f_X9_puts (sA h 0 0 (upd (eA h 0 0) ((y1).toNatClampNeg) y0)) x2 4 5) (fun h_12 k_1 => ?_)
    replace k_1 := Fr_trans (Fr_sA fm_X9_hungers_100_1_0_0 (Fr_refl _ h)) (Fr_mono fs_X9_puts__X9_hungers_100 k_1)
    refine pk_ob1 (w_f_X9_puts h_12 x2 7 ((eA h_12 0 0) 121)) (fun h_13 k_2 => ?_)
    replace k_2 := Fr_trans k_1 (Fr_mono fs_X9_puts__X9_hungers_100 k_2)
    exact pk_mono (w_f_X9_hungers_132 h_13) (fun _ k => Fr_trans k_2 (Fr_mono fs_X9_hungers_132__X9_hungers_100 k))
def S_X9_hungers_74 : CL := [(1, 0, 0)]
theorem fs_X9_hungers_100__X9_hungers_74 : ∀ x ∈ S_X9_hungers_100, x ∈ S_X9_hungers_74 := by decide
theorem fs_X9_ofGoose__X9_hungers_74 : ∀ x ∈ S_X9_ofGoose, x ∈ S_X9_hungers_74 := by decide
theorem w_f_X9_hungers_74 (h : HS) (x2 : Int32) : pk (f_X9_hungers_74 h x2) (fun a => Fr S_X9_hungers_74 h a) := by
  unfold f_X9_hungers_74
  refine pk_if (fun _ => ?_) (fun _ => ?_)
  · exact pk_mono (w_f_X9_hungers_100 h x2 0 120) (fun _ k => Fr_trans (Fr_refl _ h) (Fr_mono fs_X9_hungers_100__X9_hungers_74 k))
  · refine pk_ob2 (w_f_X9_ofGoose h x2 0) (fun r_9 h_9 k_1 => ?_)
    replace k_1 := Fr_trans (Fr_refl _ h) (Fr_mono fs_X9_ofGoose__X9_hungers_74 k_1)
    exact pk_mono (w_f_X9_hungers_100 h_9 x2 r_9 120) (fun _ k => Fr_trans k_1 (Fr_mono fs_X9_hungers_100__X9_hungers_74 k))
def S_X9_hungers_38 : CL := [(1, 0, 0)]
theorem w_f_X9_hungers_68 (k38 : HS → Int32 → Option HS) (hk_k38 : ∀ (h : HS) (x0 : Int32), pk (k38 h x0) (fun a => Fr S_X9_hungers_38 h a)) (h : HS) (x2 : Int32) : pk (f_X9_hungers_68 k38 h x2) (fun a => Fr S_X9_hungers_38 h a) := by
  unfold f_X9_hungers_68
  exact pk_mono (hk_k38 h (x2 + 1)) (fun _ k => Fr_trans (Fr_refl _ h) k)
theorem fs_X9_hungers_74__X9_hungers_38 : ∀ x ∈ S_X9_hungers_74, x ∈ S_X9_hungers_38 := by decide
theorem fs_X9_ofGoose__X9_hungers_38 : ∀ x ∈ S_X9_ofGoose, x ∈ S_X9_hungers_38 := by decide
theorem w_f_X9_hungers_38  : ∀ (n : Nat) (h : HS) (x2 : Int32), pk (f_X9_hungers_38  n h x2) (fun a => Fr S_X9_hungers_38 h a) := by
  intro n
  induction n with
  | zero => intro h x2; exact pk_none
  | succ n ih =>
    intro h x2
    rw [f_X9_hungers_38_s]
    refine pk_if (fun _ => ?_) (fun _ => ?_)
    · exact pk_mono (w_f_X9_hungers_74 h x2) (fun _ k => Fr_trans (Fr_refl _ h) (Fr_mono fs_X9_hungers_74__X9_hungers_38 k))
    · refine pk_ob2 (w_f_X9_ofGoose h x2 4) (fun r_4 h_4 k_1 => ?_)
      replace k_1 := Fr_trans (Fr_refl _ h) (Fr_mono fs_X9_ofGoose__X9_hungers_38 k_1)
      refine pk_if (fun _ => ?_) (fun _ => ?_)
      · refine pk_ob2 (w_f_X9_ofGoose h_4 x2 8) (fun r_6 h_6 k_2 => ?_)
        replace k_2 := Fr_trans k_1 (Fr_mono fs_X9_ofGoose__X9_hungers_38 k_2)
        refine pk_if (fun _ => ?_) (fun _ => ?_)
        · exact pk_mono (w_f_X9_hungers_68 (f_X9_hungers_38 n) ih h_6 x2) (fun _ k => Fr_trans k_2 k)
        · exact pk_mono (w_f_X9_hungers_74 h_6 x2) (fun _ k => Fr_trans k_2 (Fr_mono fs_X9_hungers_74__X9_hungers_38 k))
      · exact pk_mono (w_f_X9_hungers_68 (f_X9_hungers_38 n) ih h_4 x2) (fun _ k => Fr_trans k_1 k)
def S_X9_hungers : CL := [(1, 0, 0)]
theorem fm_X9_hungers_1_0_0 : (1, 0, 0) ∈ S_X9_hungers := by decide
theorem fs_X9_geeseOf__X9_hungers : ∀ x ∈ S_X9_geeseOf, x ∈ S_X9_hungers := by decide
theorem fs_X9_hungers_38__X9_hungers : ∀ x ∈ S_X9_hungers_38, x ∈ S_X9_hungers := by decide
theorem w_f_X9_hungers (h : HS) : pk (f_X9_hungers h) (fun a => Fr S_X9_hungers h a) := by
  unfold f_X9_hungers
  refine pk_ob2 (w_f_X9_geeseOf h 0) (fun r_1 h_1 k_1 => ?_)
  replace k_1 := Fr_trans (Fr_refl _ h) (Fr_mono fs_X9_geeseOf__X9_hungers k_1)
  refine pk_if (fun _ => ?_) (fun _ => ?_)
  · exact pk_mono (w_f_X9_hungers_38 8589934592 h_1 0) (fun _ k => Fr_trans k_1 (Fr_mono fs_X9_hungers_38__X9_hungers k))
  · exact pk_some (Fr_sA fm_X9_hungers_1_0_0 k_1)
def S_X9_pass_25 : CL := []
theorem w_f_X9_pass_25 (h : HS) : pk (f_X9_pass_25 h) (fun a => Fr S_X9_pass_25 h a.2) := by
  unfold f_X9_pass_25
  exact pk_some (Fr_refl _ h)
def S_X9_pass_33 : CL := [(1, 0, 0), (1, 0, 39), (3, 0, 40)]
theorem w_f_X9_pass_93 (k33 : HS → Int32 → Int32 → Option (Int32 × HS)) (hk_k33 : ∀ (h : HS) (x0 : Int32) (x1 : Int32), pk (k33 h x0 x1) (fun a => Fr S_X9_pass_33 h a.2)) (k51 : HS → Int32 → Int32 → Int32 → Option (Int32 × HS)) (hk_k51 : ∀ (h : HS) (x0 : Int32) (x1 : Int32) (x2 : Int32), pk (k51 h x0 x1 x2) (fun a => Fr S_X9_pass_33 h a.2)) (h : HS) (x1 : Int32) (x2 : Int32) (x3 : Int32) : pk (f_X9_pass_93 k33 k51 h x1 x2 x3) (fun a => Fr S_X9_pass_33 h a.2) := by
  unfold f_X9_pass_93
  exact pk_mono (hk_k51 h x1 x2 (x3 + 1)) (fun _ k => Fr_trans (Fr_refl _ h) k)
theorem fs_X9_hungers__X9_pass_33 : ∀ x ∈ S_X9_hungers, x ∈ S_X9_pass_33 := by decide
theorem fs_X9_ofGoose__X9_pass_33 : ∀ x ∈ S_X9_ofGoose, x ∈ S_X9_pass_33 := by decide
theorem fs_X9_comesThere__X9_pass_33 : ∀ x ∈ S_X9_comesThere, x ∈ S_X9_pass_33 := by decide
theorem w_f_X9_pass_51 (k33 : HS → Int32 → Int32 → Option (Int32 × HS)) (hk_k33 : ∀ (h : HS) (x0 : Int32) (x1 : Int32), pk (k33 h x0 x1) (fun a => Fr S_X9_pass_33 h a.2)) : ∀ (n : Nat) (h : HS) (x1 : Int32) (x2 : Int32) (x3 : Int32), pk (f_X9_pass_51 k33 n h x1 x2 x3) (fun a => Fr S_X9_pass_33 h a.2) := by
  intro n
  induction n with
  | zero => intro h x1 x2 x3; exact pk_none
  | succ n ih =>
    intro h x1 x2 x3
    rw [f_X9_pass_51_s]
    refine pk_if (fun _ => ?_) (fun _ => ?_)
    · refine pk_ob1 (w_f_X9_hungers h) (fun h_7 k_1 => ?_)
      replace k_1 := Fr_trans (Fr_refl _ h) (Fr_mono fs_X9_hungers__X9_pass_33 k_1)
      exact pk_mono (hk_k33 h_7 x1 (x2 + 1)) (fun _ k => Fr_trans k_1 k)
    · refine pk_ob2 (w_f_X9_ofGoose h x3 4) (fun r_8 h_8 k_2 => ?_)
      replace k_2 := Fr_trans (Fr_refl _ h) (Fr_mono fs_X9_ofGoose__X9_pass_33 k_2)
      refine pk_if (fun _ => ?_) (fun _ => ?_)
      · refine pk_ob2 (w_f_X9_ofGoose h_8 x3 6) (fun r_10 h_10 k_3 => ?_)
        replace k_3 := Fr_trans k_2 (Fr_mono fs_X9_ofGoose__X9_pass_33 k_3)
        refine pk_if (fun _ => ?_) (fun _ => ?_)
        · refine pk_ob1 (w_f_X9_comesThere h_10 x3) (fun h_12 k_4 => ?_)
          replace k_4 := Fr_trans k_3 (Fr_mono fs_X9_comesThere__X9_pass_33 k_4)
          exact pk_mono (w_f_X9_pass_93 k33 hk_k33 (f_X9_pass_51 k33 n) ih h_12 x1 x2 x3) (fun _ k => Fr_trans k_4 k)
        · exact pk_mono (w_f_X9_pass_93 k33 hk_k33 (f_X9_pass_51 k33 n) ih h_10 x1 x2 x3) (fun _ k => Fr_trans k_3 k)
      · exact pk_mono (w_f_X9_pass_93 k33 hk_k33 (f_X9_pass_51 k33 n) ih h_8 x1 x2 x3) (fun _ k => Fr_trans k_2 k)
theorem fm_X9_pass_33_1_0_0 : (1, 0, 0) ∈ S_X9_pass_33 := by decide
theorem w_f_X9_pass_33  : ∀ (n : Nat) (h : HS) (x1 : Int32) (x2 : Int32), pk (f_X9_pass_33  n h x1 x2) (fun a => Fr S_X9_pass_33 h a.2) := by
  intro n
  induction n with
  | zero => intro h x1 x2; exact pk_none
  | succ n ih =>
    intro h x1 x2
    rw [f_X9_pass_33_s]
    refine pk_if (fun _ => ?_) (fun _ => ?_)
    · exact pk_some (Fr_refl _ h)
    · exact pk_mono (w_f_X9_pass_51 (f_X9_pass_33 n) ih 8589934592 (sA h 0 0 (upd (eA h 0 0) 121 (((eA h 0 0) 121) + 1))) x1 x2 0) (fun _ k => Fr_trans (Fr_sA fm_X9_pass_33_1_0_0 (Fr_refl _ h)) k)
def S_X9_pass : CL := [(1, 0, 0), (1, 0, 39), (3, 0, 40)]
theorem fs_X9_pass_25__X9_pass : ∀ x ∈ S_X9_pass_25, x ∈ S_X9_pass := by decide
theorem fs_X9_keepsStep__X9_pass : ∀ x ∈ S_X9_keepsStep, x ∈ S_X9_pass := by decide
theorem fs_X9_pass_33__X9_pass : ∀ x ∈ S_X9_pass_33, x ∈ S_X9_pass := by decide
theorem w_f_X9_pass (h : HS) (p1 : Int32) : pk (f_X9_pass h p1) (fun a => Fr S_X9_pass h a.2) := by
  unfold f_X9_pass
  refine pk_obf (fun r_1 => ?_)
  refine pk_if (fun _ => ?_) (fun _ => ?_)
  · exact pk_mono (w_f_X9_pass_25 h) (fun _ k => Fr_trans (Fr_refl _ h) (Fr_mono fs_X9_pass_25__X9_pass k))
  · refine pk_if (fun _ => ?_) (fun _ => ?_)
    · refine pk_ob1 (w_f_X9_keepsStep h) (fun h_4 k_1 => ?_)
      replace k_1 := Fr_trans (Fr_refl _ h) (Fr_mono fs_X9_keepsStep__X9_pass k_1)
      exact pk_mono (w_f_X9_pass_33 8589934592 h_4 p1 0) (fun _ k => Fr_trans k_1 (Fr_mono fs_X9_pass_33__X9_pass k))
    · exact pk_mono (w_f_X9_pass_25 h) (fun _ k => Fr_trans (Fr_refl _ h) (Fr_mono fs_X9_pass_25__X9_pass k))
def S_X9_played_21 : CL := [(1, 0, 0), (1, 0, 39), (3, 0, 40)]
theorem w_f_X9_played_154 (k21 : HS → Int32 → Int32 → Option (Int32 × HS)) (hk_k21 : ∀ (h : HS) (x0 : Int32) (x1 : Int32), pk (k21 h x0 x1) (fun a => Fr S_X9_played_21 h a.2)) (h : HS) (x1 : Int32) (x2 : Int32) (x4 : Int32) : pk (f_X9_played_154 k21 h x1 x2 x4) (fun a => Fr S_X9_played_21 h a.2) := by
  unfold f_X9_played_154
  refine pk_if (fun _ => ?_) (fun _ => ?_)
  · exact pk_some (Fr_refl _ h)
  · exact pk_mono (hk_k21 h x1 (x2 + 1)) (fun _ k => Fr_trans (Fr_refl _ h) k)
theorem fs_X9_fill__X9_played_21 : ∀ x ∈ S_X9_fill, x ∈ S_X9_played_21 := by decide
theorem fs_X9_send__X9_played_21 : ∀ x ∈ S_X9_send, x ∈ S_X9_played_21 := by decide
theorem fs_X9_fatten__X9_played_21 : ∀ x ∈ S_X9_fatten, x ∈ S_X9_played_21 := by decide
theorem fs_X9_pass__X9_played_21 : ∀ x ∈ S_X9_pass, x ∈ S_X9_played_21 := by decide
theorem w_f_X9_played_21  : ∀ (n : Nat) (h : HS) (x1 : Int32) (x2 : Int32), pk (f_X9_played_21  n h x1 x2) (fun a => Fr S_X9_played_21 h a.2) := by
  intro n
  induction n with
  | zero => intro h x1 x2; exact pk_none
  | succ n ih =>
    intro h x1 x2
    rw [f_X9_played_21_s]
    refine pk_chk (fun _ => ?_)
    refine pk_if (fun _ => ?_) (fun _ => ?_)
    · exact pk_some (Fr_refl _ h)
    · refine pk_chk (fun _ => ?_)
      refine pk_if (fun _ => ?_) (fun _ => ?_)
      · refine pk_chk (fun _ => ?_)
        refine pk_chk (fun _ => ?_)
        refine pk_chk (fun _ => ?_)
        refine pk_ob2 (w_f_X9_fill h ((eA h 0 9) ((((24 * x1) + x2)).toNatClampNeg)) ((eA h 0 10) ((((24 * x1) + x2)).toNatClampNeg)) ((eA h 0 11) ((((24 * x1) + x2)).toNatClampNeg))) (fun r_10 h_10 k_1 => ?_)
        replace k_1 := Fr_trans (Fr_refl _ h) (Fr_mono fs_X9_fill__X9_played_21 k_1)
        exact pk_mono (w_f_X9_played_154 (f_X9_played_21 n) ih h_10 x1 x2 r_10) (fun _ k => Fr_trans k_1 k)
      · refine pk_if (fun _ => ?_) (fun _ => ?_)
        · refine pk_chk (fun _ => ?_)
          refine pk_chk (fun _ => ?_)
          refine pk_ob2 (w_f_X9_send h ((eA h 0 9) ((((24 * x1) + x2)).toNatClampNeg)) ((eA h 0 10) ((((24 * x1) + x2)).toNatClampNeg))) (fun r_14 h_14 k_2 => ?_)
          replace k_2 := Fr_trans (Fr_refl _ h) (Fr_mono fs_X9_send__X9_played_21 k_2)
          exact pk_mono (w_f_X9_played_154 (f_X9_played_21 n) ih h_14 x1 x2 r_14) (fun _ k => Fr_trans k_2 k)
        · refine pk_if (fun _ => ?_) (fun _ => ?_)
          · refine pk_chk (fun _ => ?_)
            refine pk_ob2 (w_f_X9_fatten h ((eA h 0 9) ((((24 * x1) + x2)).toNatClampNeg))) (fun r_17 h_17 k_3 => ?_)
            replace k_3 := Fr_trans (Fr_refl _ h) (Fr_mono fs_X9_fatten__X9_played_21 k_3)
            exact pk_mono (w_f_X9_played_154 (f_X9_played_21 n) ih h_17 x1 x2 r_17) (fun _ k => Fr_trans k_3 k)
          · refine pk_if (fun _ => ?_) (fun _ => ?_)
            · refine pk_chk (fun _ => ?_)
              refine pk_ob2 (w_f_X9_pass h ((eA h 0 9) ((((24 * x1) + x2)).toNatClampNeg))) (fun r_20 h_20 k_4 => ?_)
              replace k_4 := Fr_trans (Fr_refl _ h) (Fr_mono fs_X9_pass__X9_played_21 k_4)
              exact pk_mono (w_f_X9_played_154 (f_X9_played_21 n) ih h_20 x1 x2 r_20) (fun _ k => Fr_trans k_4 k)
            · exact pk_mono (w_f_X9_played_154 (f_X9_played_21 n) ih h x1 x2 0) (fun _ k => Fr_trans (Fr_refl _ h) k)
def S_X9_played : CL := [(1, 0, 0), (1, 0, 39), (3, 0, 40)]
theorem fs_X9_played_21__X9_played : ∀ x ∈ S_X9_played_21, x ∈ S_X9_played := by decide
theorem w_f_X9_played (h : HS) (p1 : Int32) : pk (f_X9_played h p1) (fun a => Fr S_X9_played h a.2) := by
  unfold f_X9_played
  refine pk_obf (fun r_1 => ?_)
  refine pk_if (fun _ => ?_) (fun _ => ?_)
  · exact pk_some (Fr_refl _ h)
  · exact pk_mono (w_f_X9_played_21 8589934592 h p1 0) (fun _ k => Fr_trans (Fr_refl _ h) (Fr_mono fs_X9_played_21__X9_played k))
def S_X9_of_18 : CL := []
theorem w_f_X9_of_18 (h : HS) : pk (f_X9_of_18 h) (fun a => Fr S_X9_of_18 h a.2) := by
  unfold f_X9_of_18
  exact pk_some (Fr_refl _ h)
def S_X9_of_47 : CL := []
theorem w_f_X9_of_47 (h : HS) (y0 : Int32) : pk (f_X9_of_47 h y0) (fun a => Fr S_X9_of_47 h a.2) := by
  unfold f_X9_of_47
  exact pk_some (Fr_refl _ h)
def S_X9_of : CL := [(1, 0, 39), (3, 0, 40)]
theorem fs_X9_isGoose__X9_of : ∀ x ∈ S_X9_isGoose, x ∈ S_X9_of := by decide
theorem fs_X9_of_18__X9_of : ∀ x ∈ S_X9_of_18, x ∈ S_X9_of := by decide
theorem fs_X9_isTrue__X9_of : ∀ x ∈ S_X9_isTrue, x ∈ S_X9_of := by decide
theorem fs_X9_of_47__X9_of : ∀ x ∈ S_X9_of_47, x ∈ S_X9_of := by decide
theorem fs_X9_ofGoose__X9_of : ∀ x ∈ S_X9_ofGoose, x ∈ S_X9_of := by decide
theorem w_f_X9_of (h : HS) (p1 : Int32) (p2 : Int32) : pk (f_X9_of h p1 p2) (fun a => Fr S_X9_of h a.2) := by
  unfold f_X9_of
  refine pk_ob2 (w_f_X9_isGoose h p1) (fun r_1 h_1 k_1 => ?_)
  replace k_1 := Fr_trans (Fr_refl _ h) (Fr_mono fs_X9_isGoose__X9_of k_1)
  refine pk_if (fun _ => ?_) (fun _ => ?_)
  · exact pk_mono (w_f_X9_of_18 h_1) (fun _ k => Fr_trans k_1 (Fr_mono fs_X9_of_18__X9_of k))
  · refine pk_obf (fun r_3 => ?_)
    refine pk_if (fun _ => ?_) (fun _ => ?_)
    · exact pk_mono (w_f_X9_of_18 h_1) (fun _ k => Fr_trans k_1 (Fr_mono fs_X9_of_18__X9_of k))
    · refine pk_if (fun _ => ?_) (fun _ => ?_)
      · refine pk_ob2 (w_f_X9_isTrue h_1 p1) (fun r_6 h_6 k_2 => ?_)
        replace k_2 := Fr_trans k_1 (Fr_mono fs_X9_isTrue__X9_of k_2)
        refine pk_if (fun _ => ?_) (fun _ => ?_)
        · exact pk_mono (w_f_X9_of_47 h_6 0) (fun _ k => Fr_trans k_2 (Fr_mono fs_X9_of_47__X9_of k))
        · exact pk_mono (w_f_X9_of_47 h_6 1) (fun _ k => Fr_trans k_2 (Fr_mono fs_X9_of_47__X9_of k))
      · refine pk_ob2 (w_f_X9_ofGoose h_1 p1 p2) (fun r_8 h_8 k_3 => ?_)
        replace k_3 := Fr_trans k_1 (Fr_mono fs_X9_ofGoose__X9_of k_3)
        exact pk_some k_3
def S_X9_brought_51 : CL := []
theorem w_f_X9_brought_51 (h : HS) : pk (f_X9_brought_51 h) (fun a => Fr S_X9_brought_51 h a.2) := by
  unfold f_X9_brought_51
  exact pk_some (Fr_refl _ h)
def S_X9_brought_79 : CL := []
theorem w_f_X9_brought_79 (h : HS) (y0 : Int32) : pk (f_X9_brought_79 h y0) (fun a => Fr S_X9_brought_79 h a.2) := by
  unfold f_X9_brought_79
  exact pk_some (Fr_refl _ h)
def S_X9_brought_66 : CL := []
theorem fs_X9_ofGoose__X9_brought_66 : ∀ x ∈ S_X9_ofGoose, x ∈ S_X9_brought_66 := by decide
theorem fs_X9_brought_79__X9_brought_66 : ∀ x ∈ S_X9_brought_79, x ∈ S_X9_brought_66 := by decide
theorem w_f_X9_brought_66 (h : HS) (x1 : Int32) : pk (f_X9_brought_66 h x1) (fun a => Fr S_X9_brought_66 h a.2) := by
  unfold f_X9_brought_66
  refine pk_ob2 (w_f_X9_ofGoose h x1 3) (fun r_13 h_13 k_1 => ?_)
  replace k_1 := Fr_trans (Fr_refl _ h) (Fr_mono fs_X9_ofGoose__X9_brought_66 k_1)
  refine pk_obf (fun r_14 => ?_)
  exact pk_mono (w_f_X9_brought_79 h_13 r_14) (fun _ k => Fr_trans k_1 (Fr_mono fs_X9_brought_79__X9_brought_66 k))
def S_X9_brought_48 : CL := [(1, 0, 39), (3, 0, 40)]
theorem fs_X9_isTrue__X9_brought_48 : ∀ x ∈ S_X9_isTrue, x ∈ S_X9_brought_48 := by decide
theorem fs_X9_brought_79__X9_brought_48 : ∀ x ∈ S_X9_brought_79, x ∈ S_X9_brought_48 := by decide
theorem fs_X9_brought_66__X9_brought_48 : ∀ x ∈ S_X9_brought_66, x ∈ S_X9_brought_48 := by decide
theorem fs_X9_brought_51__X9_brought_48 : ∀ x ∈ S_X9_brought_51, x ∈ S_X9_brought_48 := by decide
theorem w_f_X9_brought_48 (h : HS) (x1 : Int32) (x4 : Int32) (y0 : Int32) (y1 : Int32) : pk (f_X9_brought_48 h x1 x4 y0 y1) (fun a => Fr S_X9_brought_48 h a.2) := by
  unfold f_X9_brought_48
  refine pk_if (fun _ => ?_) (fun _ => ?_)
  · refine pk_if (fun _ => ?_) (fun _ => ?_)
    · refine pk_ob2 (w_f_X9_isTrue h x1) (fun r_11 h_11 k_1 => ?_)
      replace k_1 := Fr_trans (Fr_refl _ h) (Fr_mono fs_X9_isTrue__X9_brought_48 k_1)
      refine pk_if (fun _ => ?_) (fun _ => ?_)
      · exact pk_mono (w_f_X9_brought_79 h_11 0) (fun _ k => Fr_trans k_1 (Fr_mono fs_X9_brought_79__X9_brought_48 k))
      · exact pk_mono (w_f_X9_brought_66 h_11 x1) (fun _ k => Fr_trans k_1 (Fr_mono fs_X9_brought_66__X9_brought_48 k))
    · exact pk_mono (w_f_X9_brought_66 h x1) (fun _ k => Fr_trans (Fr_refl _ h) (Fr_mono fs_X9_brought_66__X9_brought_48 k))
  · exact pk_mono (w_f_X9_brought_51 h) (fun _ k => Fr_trans (Fr_refl _ h) (Fr_mono fs_X9_brought_51__X9_brought_48 k))
def S_X9_brought : CL := [(1, 0, 39), (3, 0, 40)]
theorem fs_X9_ofGoose__X9_brought : ∀ x ∈ S_X9_ofGoose, x ∈ S_X9_brought := by decide
theorem fs_X9_brought_51__X9_brought : ∀ x ∈ S_X9_brought_51, x ∈ S_X9_brought := by decide
theorem fs_X9_brought_48__X9_brought : ∀ x ∈ S_X9_brought_48, x ∈ S_X9_brought := by decide
theorem w_f_X9_brought (h : HS) (p1 : Int32) (p2 : Int32) (p3 : Int32) (p4 : Int32) : pk (f_X9_brought h p1 p2 p3 p4) (fun a => Fr S_X9_brought h a.2) := by
  unfold f_X9_brought
  refine pk_ob2 (w_f_X9_ofGoose h p1 2) (fun r_1 h_1 k_1 => ?_)
  replace k_1 := Fr_trans (Fr_refl _ h) (Fr_mono fs_X9_ofGoose__X9_brought k_1)
  refine pk_if (fun _ => ?_) (fun _ => ?_)
  · refine pk_ob2 (w_f_X9_ofGoose h_1 p1 7) (fun r_3 h_3 k_2 => ?_)
    replace k_2 := Fr_trans k_1 (Fr_mono fs_X9_ofGoose__X9_brought k_2)
    refine pk_if (fun _ => ?_) (fun _ => ?_)
    · exact pk_mono (w_f_X9_brought_51 h_3) (fun _ k => Fr_trans k_2 (Fr_mono fs_X9_brought_51__X9_brought k))
    · refine pk_ob2 (w_f_X9_ofGoose h_3 p1 7) (fun r_5 h_5 k_3 => ?_)
      replace k_3 := Fr_trans k_2 (Fr_mono fs_X9_ofGoose__X9_brought k_3)
      refine pk_if (fun _ => ?_) (fun _ => ?_)
      · exact pk_mono (w_f_X9_brought_51 h_5) (fun _ k => Fr_trans k_3 (Fr_mono fs_X9_brought_51__X9_brought k))
      · refine pk_ob2 (w_f_X9_ofGoose h_5 p1 4) (fun r_7 h_7 k_4 => ?_)
        replace k_4 := Fr_trans k_3 (Fr_mono fs_X9_ofGoose__X9_brought k_4)
        refine pk_if (fun _ => ?_) (fun _ => ?_)
        · exact pk_mono (w_f_X9_brought_48 h_7 p1 p4 2 r_7) (fun _ k => Fr_trans k_4 (Fr_mono fs_X9_brought_48__X9_brought k))
        · exact pk_mono (w_f_X9_brought_48 h_7 p1 p4 4 r_7) (fun _ k => Fr_trans k_4 (Fr_mono fs_X9_brought_48__X9_brought k))
  · exact pk_mono (w_f_X9_brought_51 h_1) (fun _ k => Fr_trans k_1 (Fr_mono fs_X9_brought_51__X9_brought k))
def S_X9_knownBy_6 : CL := [(1, 0, 39), (3, 0, 40)]
theorem fs_X9_brought__X9_knownBy_6 : ∀ x ∈ S_X9_brought, x ∈ S_X9_knownBy_6 := by decide
theorem w_f_X9_knownBy_6  : ∀ (n : Nat) (h : HS) (x1 : Int32) (x2 : Int32) (x3 : Int32) (x4 : Int32) (x5 : Int32), pk (f_X9_knownBy_6  n h x1 x2 x3 x4 x5) (fun a => Fr S_X9_knownBy_6 h a.2) := by
  intro n
  induction n with
  | zero => intro h x1 x2 x3 x4 x5; exact pk_none
  | succ n ih =>
    intro h x1 x2 x3 x4 x5
    rw [f_X9_knownBy_6_s]
    refine pk_if (fun _ => ?_) (fun _ => ?_)
    · exact pk_some (Fr_refl _ h)
    · refine pk_ob2 (w_f_X9_brought h x5 x1 x2 x3) (fun r_2 h_2 k_1 => ?_)
      replace k_1 := Fr_trans (Fr_refl _ h) (Fr_mono fs_X9_brought__X9_knownBy_6 k_1)
      exact pk_mono (ih h_2 x1 x2 x3 (x4 ||| r_2) (x5 + 1)) (fun _ k => Fr_trans k_1 k)
def S_X9_knownBy : CL := [(1, 0, 39), (3, 0, 40)]
theorem fs_X9_knownBy_6__X9_knownBy : ∀ x ∈ S_X9_knownBy_6, x ∈ S_X9_knownBy := by decide
theorem w_f_X9_knownBy (h : HS) (p1 : Int32) (p2 : Int32) (p3 : Int32) : pk (f_X9_knownBy h p1 p2 p3) (fun a => Fr S_X9_knownBy h a.2) := by
  unfold f_X9_knownBy
  exact pk_mono (w_f_X9_knownBy_6 8589934592 h p1 p2 p3 0 0) (fun _ k => Fr_trans (Fr_refl _ h) (Fr_mono fs_X9_knownBy_6__X9_knownBy k))
def S_X9_known_18 : CL := []
theorem w_f_X9_known_18 (h : HS) : pk (f_X9_known_18 h) (fun a => Fr S_X9_known_18 h a.2) := by
  unfold f_X9_known_18
  exact pk_some (Fr_refl _ h)
def S_X9_known_52 : CL := []
theorem w_f_X9_known_52 (h : HS) (y0 : Int32) (y1 : Int32) : pk (f_X9_known_52 h y0 y1) (fun a => Fr S_X9_known_52 h a.2) := by
  unfold f_X9_known_52
  exact pk_some (Fr_refl _ h)
def S_X9_known_36 : CL := [(1, 0, 39), (3, 0, 40)]
theorem fs_X9_knownBy__X9_known_36 : ∀ x ∈ S_X9_knownBy, x ∈ S_X9_known_36 := by decide
theorem fs_X9_known_52__X9_known_36 : ∀ x ∈ S_X9_known_52, x ∈ S_X9_known_36 := by decide
theorem w_f_X9_known_36 (h : HS) (x1 : Int32) (x2 : Int32) (y0 : Int32) : pk (f_X9_known_36 h x1 x2 y0) (fun a => Fr S_X9_known_36 h a.2) := by
  unfold f_X9_known_36
  refine pk_ob2 (w_f_X9_knownBy h x1 x2 1) (fun r_7 h_7 k_1 => ?_)
  replace k_1 := Fr_trans (Fr_refl _ h) (Fr_mono fs_X9_knownBy__X9_known_36 k_1)
  refine pk_if (fun _ => ?_) (fun _ => ?_)
  · exact pk_mono (w_f_X9_known_52 h_7 2 y0) (fun _ k => Fr_trans k_1 (Fr_mono fs_X9_known_52__X9_known_36 k))
  · exact pk_mono (w_f_X9_known_52 h_7 0 y0) (fun _ k => Fr_trans k_1 (Fr_mono fs_X9_known_52__X9_known_36 k))
def S_X9_known : CL := [(1, 0, 39), (3, 0, 40)]
theorem fs_X9_known_18__X9_known : ∀ x ∈ S_X9_known_18, x ∈ S_X9_known := by decide
theorem fs_X9_knownBy__X9_known : ∀ x ∈ S_X9_knownBy, x ∈ S_X9_known := by decide
theorem fs_X9_known_36__X9_known : ∀ x ∈ S_X9_known_36, x ∈ S_X9_known := by decide
theorem w_f_X9_known (h : HS) (p1 : Int32) (p2 : Int32) : pk (f_X9_known h p1 p2) (fun a => Fr S_X9_known h a.2) := by
  unfold f_X9_known
  refine pk_obf (fun r_1 => ?_)
  refine pk_if (fun _ => ?_) (fun _ => ?_)
  · exact pk_mono (w_f_X9_known_18 h) (fun _ k => Fr_trans (Fr_refl _ h) (Fr_mono fs_X9_known_18__X9_known k))
  · refine pk_obf (fun r_3 => ?_)
    refine pk_if (fun _ => ?_) (fun _ => ?_)
    · exact pk_mono (w_f_X9_known_18 h) (fun _ k => Fr_trans (Fr_refl _ h) (Fr_mono fs_X9_known_18__X9_known k))
    · refine pk_ob2 (w_f_X9_knownBy h p1 p2 0) (fun r_5 h_5 k_1 => ?_)
      replace k_1 := Fr_trans (Fr_refl _ h) (Fr_mono fs_X9_knownBy__X9_known k_1)
      refine pk_if (fun _ => ?_) (fun _ => ?_)
      · exact pk_mono (w_f_X9_known_36 h_5 p1 p2 1) (fun _ k => Fr_trans k_1 (Fr_mono fs_X9_known_36__X9_known k))
      · exact pk_mono (w_f_X9_known_36 h_5 p1 p2 0) (fun _ k => Fr_trans k_1 (Fr_mono fs_X9_known_36__X9_known k))
def S_X9_led_14 : CL := [(1, 0, 39), (3, 0, 40)]
theorem w_f_X9_led_70 (k14 : HS → Int32 → Int32 → Int32 → Int32 → Option (Int32 × HS)) (hk_k14 : ∀ (h : HS) (x0 : Int32) (x1 : Int32) (x2 : Int32) (x3 : Int32), pk (k14 h x0 x1 x2 x3) (fun a => Fr S_X9_led_14 h a.2)) (k25 : HS → Int32 → Int32 → Int32 → Int32 → Int32 → Option (Int32 × HS)) (hk_k25 : ∀ (h : HS) (x0 : Int32) (x1 : Int32) (x2 : Int32) (x3 : Int32) (x4 : Int32), pk (k25 h x0 x1 x2 x3 x4) (fun a => Fr S_X9_led_14 h a.2)) (h : HS) (x1 : Int32) (x2 : Int32) (x3 : Int32) (x4 : Int32) (x5 : Int32) : pk (f_X9_led_70 k14 k25 h x1 x2 x3 x4 x5) (fun a => Fr S_X9_led_14 h a.2) := by
  unfold f_X9_led_70
  exact pk_mono (hk_k25 h x1 x2 x3 x4 (x5 + 1)) (fun _ k => Fr_trans (Fr_refl _ h) k)
theorem fs_X9_ofGoose__X9_led_14 : ∀ x ∈ S_X9_ofGoose, x ∈ S_X9_led_14 := by decide
theorem fs_X9_brought__X9_led_14 : ∀ x ∈ S_X9_brought, x ∈ S_X9_led_14 := by decide
theorem w_f_X9_led_25 (k14 : HS → Int32 → Int32 → Int32 → Int32 → Option (Int32 × HS)) (hk_k14 : ∀ (h : HS) (x0 : Int32) (x1 : Int32) (x2 : Int32) (x3 : Int32), pk (k14 h x0 x1 x2 x3) (fun a => Fr S_X9_led_14 h a.2)) : ∀ (n : Nat) (h : HS) (x1 : Int32) (x2 : Int32) (x3 : Int32) (x4 : Int32) (x5 : Int32), pk (f_X9_led_25 k14 n h x1 x2 x3 x4 x5) (fun a => Fr S_X9_led_14 h a.2) := by
  intro n
  induction n with
  | zero => intro h x1 x2 x3 x4 x5; exact pk_none
  | succ n ih =>
    intro h x1 x2 x3 x4 x5
    rw [f_X9_led_25_s]
    refine pk_if (fun _ => ?_) (fun _ => ?_)
    · exact pk_mono (hk_k14 h x1 x2 x3 (x4 + 1)) (fun _ k => Fr_trans (Fr_refl _ h) k)
    · refine pk_ob2 (w_f_X9_ofGoose h x5 7) (fun r_5 h_5 k_1 => ?_)
      replace k_1 := Fr_trans (Fr_refl _ h) (Fr_mono fs_X9_ofGoose__X9_led_14 k_1)
      refine pk_if (fun _ => ?_) (fun _ => ?_)
      · refine pk_ob2 (w_f_X9_brought h_5 x5 x1 x4 x2) (fun r_7 h_7 k_2 => ?_)
        replace k_2 := Fr_trans k_1 (Fr_mono fs_X9_brought__X9_led_14 k_2)
        refine pk_if (fun _ => ?_) (fun _ => ?_)
        · exact pk_some k_2
        · exact pk_mono (w_f_X9_led_70 k14 hk_k14 (f_X9_led_25 k14 n) ih h_7 x1 x2 (x3 ||| r_7) x4 x5) (fun _ k => Fr_trans k_2 k)
      · exact pk_mono (w_f_X9_led_70 k14 hk_k14 (f_X9_led_25 k14 n) ih h_5 x1 x2 x3 x4 x5) (fun _ k => Fr_trans k_1 k)
theorem w_f_X9_led_14  : ∀ (n : Nat) (h : HS) (x1 : Int32) (x2 : Int32) (x3 : Int32) (x4 : Int32), pk (f_X9_led_14  n h x1 x2 x3 x4) (fun a => Fr S_X9_led_14 h a.2) := by
  intro n
  induction n with
  | zero => intro h x1 x2 x3 x4; exact pk_none
  | succ n ih =>
    intro h x1 x2 x3 x4
    rw [f_X9_led_14_s]
    refine pk_if (fun _ => ?_) (fun _ => ?_)
    · exact pk_some (Fr_refl _ h)
    · exact pk_mono (w_f_X9_led_25 (f_X9_led_14 n) ih 8589934592 h x1 x2 x3 x4 0) (fun _ k => Fr_trans (Fr_refl _ h) k)
def S_X9_led : CL := [(1, 0, 39), (3, 0, 40)]
theorem fs_X9_led_14__X9_led : ∀ x ∈ S_X9_led_14, x ∈ S_X9_led := by decide
theorem w_f_X9_led (h : HS) (p1 : Int32) (p2 : Int32) : pk (f_X9_led h p1 p2) (fun a => Fr S_X9_led h a.2) := by
  unfold f_X9_led
  refine pk_obf (fun r_1 => ?_)
  refine pk_if (fun _ => ?_) (fun _ => ?_)
  · exact pk_some (Fr_refl _ h)
  · exact pk_mono (w_f_X9_led_14 8589934592 h p1 p2 0 0) (fun _ k => Fr_trans (Fr_refl _ h) (Fr_mono fs_X9_led_14__X9_led k))
def S_X9_answer_40 : CL := []
theorem w_f_X9_answer_40 (h : HS) (y0 : Int32) : pk (f_X9_answer_40 h y0) (fun a => Fr S_X9_answer_40 h a.2) := by
  unfold f_X9_answer_40
  exact pk_some (Fr_refl _ h)
def S_X9_answer : CL := [(1, 0, 39), (3, 0, 40)]
theorem fs_X9_led__X9_answer : ∀ x ∈ S_X9_led, x ∈ S_X9_answer := by decide
theorem fs_X9_answer_40__X9_answer : ∀ x ∈ S_X9_answer_40, x ∈ S_X9_answer := by decide
theorem fs_X9_ofGoose__X9_answer : ∀ x ∈ S_X9_ofGoose, x ∈ S_X9_answer := by decide
theorem w_f_X9_answer (h : HS) (p1 : Int32) : pk (f_X9_answer h p1) (fun a => Fr S_X9_answer h a.2) := by
  unfold f_X9_answer
  refine pk_ob2 (w_f_X9_led h p1 0) (fun r_1 h_1 k_1 => ?_)
  replace k_1 := Fr_trans (Fr_refl _ h) (Fr_mono fs_X9_led__X9_answer k_1)
  refine pk_if (fun _ => ?_) (fun _ => ?_)
  · exact pk_mono (w_f_X9_answer_40 h_1 (-1)) (fun _ k => Fr_trans k_1 (Fr_mono fs_X9_answer_40__X9_answer k))
  · refine pk_ob2 (w_f_X9_ofGoose h_1 r_1 7) (fun r_3 h_3 k_2 => ?_)
    replace k_2 := Fr_trans k_1 (Fr_mono fs_X9_ofGoose__X9_answer k_2)
    refine pk_ob2 (w_f_X9_ofGoose h_3 r_1 5) (fun r_4 h_4 k_3 => ?_)
    replace k_3 := Fr_trans k_2 (Fr_mono fs_X9_ofGoose__X9_answer k_3)
    refine pk_chk (fun _ => ?_)
    exact pk_mono (w_f_X9_answer_40 h_4 (r_3 + ((eA h_4 0 0) (((10 + (3 * r_4))).toNatClampNeg)))) (fun _ k => Fr_trans k_3 (Fr_mono fs_X9_answer_40__X9_answer k))
def S_X9_plucks_12 : CL := [(1, 0, 39), (3, 0, 40)]
theorem fs_X9_ofGoose__X9_plucks_12 : ∀ x ∈ S_X9_ofGoose, x ∈ S_X9_plucks_12 := by decide
theorem fs_X9_isTrueBy__X9_plucks_12 : ∀ x ∈ S_X9_isTrueBy, x ∈ S_X9_plucks_12 := by decide
theorem w_f_X9_plucks_12  : ∀ (n : Nat) (h : HS) (x1 : Int32) (x2 : Int32), pk (f_X9_plucks_12  n h x1 x2) (fun a => Fr S_X9_plucks_12 h a.2) := by
  intro n
  induction n with
  | zero => intro h x1 x2; exact pk_none
  | succ n ih =>
    intro h x1 x2
    rw [f_X9_plucks_12_s]
    refine pk_ob2 (w_f_X9_ofGoose h x1 1) (fun r_3 h_3 k_1 => ?_)
    replace k_1 := Fr_trans (Fr_refl _ h) (Fr_mono fs_X9_ofGoose__X9_plucks_12 k_1)
    refine pk_if (fun _ => ?_) (fun _ => ?_)
    · exact pk_some k_1
    · refine pk_ob2 (w_f_X9_ofGoose h_3 x1 2) (fun r_5 h_5 k_2 => ?_)
      replace k_2 := Fr_trans k_1 (Fr_mono fs_X9_ofGoose__X9_plucks_12 k_2)
      refine pk_ob2 (w_f_X9_ofGoose h_5 x1 3) (fun r_6 h_6 k_3 => ?_)
      replace k_3 := Fr_trans k_2 (Fr_mono fs_X9_ofGoose__X9_plucks_12 k_3)
      refine pk_ob2 (w_f_X9_ofGoose h_6 x1 1) (fun r_7 h_7 k_4 => ?_)
      replace k_4 := Fr_trans k_3 (Fr_mono fs_X9_ofGoose__X9_plucks_12 k_4)
      refine pk_ob2 (w_f_X9_isTrueBy h_7 x1 r_5 r_6 (r_7 - x2)) (fun r_8 h_8 k_5 => ?_)
      replace k_5 := Fr_trans k_4 (Fr_mono fs_X9_isTrueBy__X9_plucks_12 k_5)
      refine pk_if (fun _ => ?_) (fun _ => ?_)
      · exact pk_mono (ih h_8 x1 (x2 + 1)) (fun _ k => Fr_trans k_5 k)
      · exact pk_some k_5
def S_X9_plucks : CL := [(1, 0, 39), (3, 0, 40)]
theorem fs_X9_isGoose__X9_plucks : ∀ x ∈ S_X9_isGoose, x ∈ S_X9_plucks := by decide
theorem fs_X9_plucks_12__X9_plucks : ∀ x ∈ S_X9_plucks_12, x ∈ S_X9_plucks := by decide
theorem w_f_X9_plucks (h : HS) (p1 : Int32) : pk (f_X9_plucks h p1) (fun a => Fr S_X9_plucks h a.2) := by
  unfold f_X9_plucks
  refine pk_ob2 (w_f_X9_isGoose h p1) (fun r_1 h_1 k_1 => ?_)
  replace k_1 := Fr_trans (Fr_refl _ h) (Fr_mono fs_X9_isGoose__X9_plucks k_1)
  refine pk_if (fun _ => ?_) (fun _ => ?_)
  · exact pk_some k_1
  · exact pk_mono (w_f_X9_plucks_12 8589934592 h_1 p1 0) (fun _ k => Fr_trans k_1 (Fr_mono fs_X9_plucks_12__X9_plucks k))
def S_X9_startsMany_2 : CL := [(3, 0, 41)]
theorem fm_X9_startsMany_2_3_0_41 : (3, 0, 41) ∈ S_X9_startsMany_2 := by decide
theorem w_f_X9_startsMany_27 (k2 : HS → Int32 → Int32 → Int32 → Option HS) (hk_k2 : ∀ (h : HS) (x0 : Int32) (x1 : Int32) (x2 : Int32), pk (k2 h x0 x1 x2) (fun a => Fr S_X9_startsMany_2 h a)) (h : HS) (x1 : Int32) (x2 : Int32) (x3 : Int32) (y0 : Int64) (y1 : Int32) : pk (f_X9_startsMany_27 k2 h x1 x2 x3 y0 y1) (fun a => Fr S_X9_startsMany_2 h a) := by
  unfold f_X9_startsMany_27
  refine pk_chk (fun _ => ?_)
  exact pk_mono (hk_k2 (sJ h 0 41 (vp_updL (eJ h 0 41) ((y1).toNatClampNeg) y0)) x1 x2 (x3 + 1)) (fun _ k => Fr_trans (Fr_sJ fm_X9_startsMany_2_3_0_41 (Fr_refl _ h)) k)
theorem w_f_X9_startsMany_2  : ∀ (n : Nat) (h : HS) (x1 : Int32) (x2 : Int32) (x3 : Int32), pk (f_X9_startsMany_2  n h x1 x2 x3) (fun a => Fr S_X9_startsMany_2 h a) := by
  intro n
  induction n with
  | zero => intro h x1 x2 x3; exact pk_none
  | succ n ih =>
    intro h x1 x2 x3
    rw [f_X9_startsMany_2_s]
    refine pk_if (fun _ => ?_) (fun _ => ?_)
    · exact pk_some (Fr_refl _ h)
    · refine pk_if (fun _ => ?_) (fun _ => ?_)
      · exact pk_mono (w_f_X9_startsMany_27 (f_X9_startsMany_2 n) ih h x1 x2 x3 1 x3) (fun _ k => Fr_trans (Fr_refl _ h) k)
      · exact pk_mono (w_f_X9_startsMany_27 (f_X9_startsMany_2 n) ih h x1 x2 x3 0 x3) (fun _ k => Fr_trans (Fr_refl _ h) k)
def S_X9_startsMany : CL := [(3, 0, 41)]
theorem fs_X9_startsMany_2__X9_startsMany : ∀ x ∈ S_X9_startsMany_2, x ∈ S_X9_startsMany := by decide
theorem w_f_X9_startsMany (h : HS) (p1 : Int32) (p2 : Int32) : pk (f_X9_startsMany h p1 p2) (fun a => Fr S_X9_startsMany h a) := by
  unfold f_X9_startsMany
  exact pk_mono (w_f_X9_startsMany_2 8589934592 h p1 p2 0) (fun _ k => Fr_trans (Fr_refl _ h) (Fr_mono fs_X9_startsMany_2__X9_startsMany k))
def S_X9_comesMany_164 : CL := [(3, 0, 41)]
theorem fm_X9_comesMany_164_3_0_41 : (3, 0, 41) ∈ S_X9_comesMany_164 := by decide
theorem w_f_X9_comesMany_164  : ∀ (n : Nat) (h : HS) (x5 : Int32), pk (f_X9_comesMany_164  n h x5) (fun a => Fr S_X9_comesMany_164 h a) := by
  intro n
  induction n with
  | zero => intro h x5; exact pk_none
  | succ n ih =>
    intro h x5
    rw [f_X9_comesMany_164_s]
    refine pk_if (fun _ => ?_) (fun _ => ?_)
    · exact pk_some (Fr_refl _ h)
    · refine pk_chk (fun _ => ?_)
      refine pk_chk (fun _ => ?_)
      exact pk_mono (ih (sJ h 0 41 (vp_updL (eJ h 0 41) ((x5).toNatClampNeg) ((eJ h 0 42) ((x5).toNatClampNeg)))) (x5 + 1)) (fun _ k => Fr_trans (Fr_sJ fm_X9_comesMany_164_3_0_41 (Fr_refl _ h)) k)
def S_X9_comesMany_27 : CL := [(3, 0, 41), (3, 0, 42)]
theorem fm_X9_comesMany_27_3_0_42 : (3, 0, 42) ∈ S_X9_comesMany_27 := by decide
theorem w_f_X9_comesMany_51 (k27 : HS → Int32 → Int32 → Int32 → Int32 → Int32 → Option HS) (hk_k27 : ∀ (h : HS) (x0 : Int32) (x1 : Int32) (x2 : Int32) (x3 : Int32) (x4 : Int32), pk (k27 h x0 x1 x2 x3 x4) (fun a => Fr S_X9_comesMany_27 h a)) (h : HS) (x1 : Int32) (x2 : Int32) (x3 : Int32) (x4 : Int32) (x5 : Int32) (y0 : Int32) (y1 : Int32) : pk (f_X9_comesMany_51 k27 h x1 x2 x3 x4 x5 y0 y1) (fun a => Fr S_X9_comesMany_27 h a) := by
  unfold f_X9_comesMany_51
  refine pk_obf (fun r_9 => ?_)
  refine pk_chk (fun _ => ?_)
  refine pk_chk (fun _ => ?_)
  refine pk_chk (fun _ => ?_)
  refine pk_chk (fun _ => ?_)
  refine pk_chk (fun _ => ?_)
  refine pk_chk (fun _ => ?_)
  refine pk_chk (fun _ => ?_)
  refine pk_chk (fun _ => ?_)
  refine pk_chk (fun _ => ?_)
  exact pk_mono (hk_k27 (sJ (sJ (sJ h 0 42 (vp_updL (eJ h 0 42) (((((x5 / 4) * 4) + (y1 ||| y0))).toNatClampNeg) (((eJ h 0 42) (((((x5 / 4) * 4) + (y1 ||| y0))).toNatClampNeg)) + ((((eJ h 0 41) ((x5).toNatClampNeg)) * (((10 - x1)).toInt64)) * 10)))) 0 42 (vp_updL (vp_updL (eJ h 0 42) (((((x5 / 4) * 4) + (y1 ||| y0))).toNatClampNeg) (((eJ h 0 42) (((((x5 / 4) * 4) + (y1 ||| y0))).toNatClampNeg)) + ((((eJ h 0 41) ((x5).toNatClampNeg)) * (((10 - x1)).toInt64)) * 10))) ((x5).toNatClampNeg) (((vp_updL (eJ h 0 42) (((((x5 / 4) * 4) + (y1 ||| y0))).toNatClampNeg) (((eJ h 0 42) (((((x5 / 4) * 4) + (y1 ||| y0))).toNatClampNeg)) + ((((eJ h 0 41) ((x5).toNatClampNeg)) * (((10 - x1)).toInt64)) * 10))) ((x5).toNatClampNeg)) + ((((eJ h 0 41) ((x5).toNatClampNeg)) * ((x1).toInt64)) * (((10 - x2)).toInt64))))) 0 42 (vp_updL (vp_updL (vp_updL (eJ h 0 42) (((((x5 / 4) * 4) + (y1 ||| y0))).toNatClampNeg) (((eJ h 0 42) (((((x5 / 4) * 4) + (y1 ||| y0))).toNatClampNeg)) + ((((eJ h 0 41) ((x5).toNatClampNeg)) * (((10 - x1)).toInt64)) * 10))) ((x5).toNatClampNeg) (((vp_updL (eJ h 0 42) (((((x5 / 4) * 4) + (y1 ||| y0))).toNatClampNeg) (((eJ h 0 42) (((((x5 / 4) * 4) + (y1 ||| y0))).toNatClampNeg)) + ((((eJ h 0 41) ((x5).toNatClampNeg)) * (((10 - x1)).toInt64)) * 10))) ((x5).toNatClampNeg)) + ((((eJ h 0 41) ((x5).toNatClampNeg)) * ((x1).toInt64)) * (((10 - x2)).toInt64)))) ((((4 * ((x5 / 4) ||| r_9)) + (x5 - x5 / 4 * 4))).toNatClampNeg) (((vp_updL (vp_updL (eJ h 0 42) (((((x5 / 4) * 4) + (y1 ||| y0))).toNatClampNeg) (((eJ h 0 42) (((((x5 / 4) * 4) + (y1 ||| y0))).toNatClampNeg)) + ((((eJ h 0 41) ((x5).toNatClampNeg)) * (((10 - x1)).toInt64)) * 10))) ((x5).toNatClampNeg) (((vp_updL (eJ h 0 42) (((((x5 / 4) * 4) + (y1 ||| y0))).toNatClampNeg) (((eJ h 0 42) (((((x5 / 4) * 4) + (y1 ||| y0))).toNatClampNeg)) + ((((eJ h 0 41) ((x5).toNatClampNeg)) * (((10 - x1)).toInt64)) * 10))) ((x5).toNatClampNeg)) + ((((eJ h 0 41) ((x5).toNatClampNeg)) * ((x1).toInt64)) * (((10 - x2)).toInt64)))) ((((4 * ((x5 / 4) ||| r_9)) + (x5 - x5 / 4 * 4))).toNatClampNeg)) + ((((eJ h 0 41) ((x5).toNatClampNeg)) * ((x1).toInt64)) * ((x2).toInt64))))) x1 x2 x3 x4 (x5 + 1)) (fun _ k => Fr_trans (Fr_sJ fm_X9_comesMany_27_3_0_42 (Fr_sJ fm_X9_comesMany_27_3_0_42 (Fr_sJ fm_X9_comesMany_27_3_0_42 (Fr_refl _ h)))) k)
theorem fs_X9_comesMany_164__X9_comesMany_27 : ∀ x ∈ S_X9_comesMany_164, x ∈ S_X9_comesMany_27 := by decide
theorem w_f_X9_comesMany_27  : ∀ (n : Nat) (h : HS) (x1 : Int32) (x2 : Int32) (x3 : Int32) (x4 : Int32) (x5 : Int32), pk (f_X9_comesMany_27  n h x1 x2 x3 x4 x5) (fun a => Fr S_X9_comesMany_27 h a) := by
  intro n
  induction n with
  | zero => intro h x1 x2 x3 x4 x5; exact pk_none
  | succ n ih =>
    intro h x1 x2 x3 x4 x5
    rw [f_X9_comesMany_27_s]
    refine pk_if (fun _ => ?_) (fun _ => ?_)
    · exact pk_mono (w_f_X9_comesMany_164 8589934592 h 0) (fun _ k => Fr_trans (Fr_refl _ h) (Fr_mono fs_X9_comesMany_164__X9_comesMany_27 k))
    · refine pk_if (fun _ => ?_) (fun _ => ?_)
      · exact pk_mono (w_f_X9_comesMany_51 (f_X9_comesMany_27 n) ih h x1 x2 x3 x4 x5 0 (x5 - x5 / 4 * 4)) (fun _ k => Fr_trans (Fr_refl _ h) k)
      · refine pk_obf (fun r_5 => ?_)
        exact pk_mono (w_f_X9_comesMany_51 (f_X9_comesMany_27 n) ih h x1 x2 x3 x4 x5 r_5 (x5 - x5 / 4 * 4)) (fun _ k => Fr_trans (Fr_refl _ h) k)
def S_X9_comesMany_3 : CL := [(3, 0, 41), (3, 0, 42)]
theorem fm_X9_comesMany_3_3_0_42 : (3, 0, 42) ∈ S_X9_comesMany_3 := by decide
theorem fs_X9_comesMany_27__X9_comesMany_3 : ∀ x ∈ S_X9_comesMany_27, x ∈ S_X9_comesMany_3 := by decide
theorem w_f_X9_comesMany_3  : ∀ (n : Nat) (h : HS) (x1 : Int32) (x2 : Int32) (x3 : Int32) (x4 : Int32) (x5 : Int32), pk (f_X9_comesMany_3  n h x1 x2 x3 x4 x5) (fun a => Fr S_X9_comesMany_3 h a) := by
  intro n
  induction n with
  | zero => intro h x1 x2 x3 x4 x5; exact pk_none
  | succ n ih =>
    intro h x1 x2 x3 x4 x5
    rw [f_X9_comesMany_3_s]
    refine pk_if (fun _ => ?_) (fun _ => ?_)
    · exact pk_mono (w_f_X9_comesMany_27 8589934592 h x1 x2 x3 x4 0) (fun _ k => Fr_trans (Fr_refl _ h) (Fr_mono fs_X9_comesMany_27__X9_comesMany_3 k))
    · refine pk_chk (fun _ => ?_)
      exact pk_mono (ih (sJ h 0 42 (vp_updL (eJ h 0 42) ((x5).toNatClampNeg) 0)) x1 x2 x3 x4 (x5 + 1)) (fun _ k => Fr_trans (Fr_sJ fm_X9_comesMany_3_3_0_42 (Fr_refl _ h)) k)
def S_X9_comesMany : CL := [(3, 0, 41), (3, 0, 42)]
theorem fs_X9_comesMany_3__X9_comesMany : ∀ x ∈ S_X9_comesMany_3, x ∈ S_X9_comesMany := by decide
theorem w_f_X9_comesMany (h : HS) (p1 : Int32) (p2 : Int32) (p3 : Int32) (p4 : Int32) : pk (f_X9_comesMany h p1 p2 p3 p4) (fun a => Fr S_X9_comesMany h a) := by
  unfold f_X9_comesMany
  exact pk_mono (w_f_X9_comesMany_3 8589934592 h p1 p2 p3 p4 0) (fun _ k => Fr_trans (Fr_refl _ h) (Fr_mono fs_X9_comesMany_3__X9_comesMany k))
def S_X9_manyOf_5 : CL := []
theorem w_f_X9_manyOf_89 (k5 : HS → Int32 → Int64 → Int32 → Option (Int64 × HS)) (hk_k5 : ∀ (h : HS) (x0 : Int32) (x1 : Int64) (x2 : Int32), pk (k5 h x0 x1 x2) (fun a => Fr S_X9_manyOf_5 h a.2)) (h : HS) (x1 : Int32) (x4 : Int32) (y0 : Int64) (y1 : Int64) : pk (f_X9_manyOf_89 k5 h x1 x4 y0 y1) (fun a => Fr S_X9_manyOf_5 h a.2) := by
  unfold f_X9_manyOf_89
  exact pk_mono (hk_k5 h x1 (y1 + y0) (x4 + 1)) (fun _ k => Fr_trans (Fr_refl _ h) k)
theorem w_f_X9_manyOf_88 (k5 : HS → Int32 → Int64 → Int32 → Option (Int64 × HS)) (hk_k5 : ∀ (h : HS) (x0 : Int32) (x1 : Int64) (x2 : Int32), pk (k5 h x0 x1 x2) (fun a => Fr S_X9_manyOf_5 h a.2)) (h : HS) (x1 : Int32) (x4 : Int32) (y0 : Int64) : pk (f_X9_manyOf_88 k5 h x1 x4 y0) (fun a => Fr S_X9_manyOf_5 h a.2) := by
  unfold f_X9_manyOf_88
  exact pk_mono (w_f_X9_manyOf_89 k5 hk_k5 h x1 x4 0 y0) (fun _ k => Fr_trans (Fr_refl _ h) k)
theorem w_f_X9_manyOf_78 (k5 : HS → Int32 → Int64 → Int32 → Option (Int64 × HS)) (hk_k5 : ∀ (h : HS) (x0 : Int32) (x1 : Int64) (x2 : Int32), pk (k5 h x0 x1 x2) (fun a => Fr S_X9_manyOf_5 h a.2)) (h : HS) (x1 : Int32) (x4 : Int32) (y0 : Int64) : pk (f_X9_manyOf_78 k5 h x1 x4 y0) (fun a => Fr S_X9_manyOf_5 h a.2) := by
  unfold f_X9_manyOf_78
  refine pk_chk (fun _ => ?_)
  exact pk_mono (w_f_X9_manyOf_89 k5 hk_k5 h x1 x4 ((eJ h 0 41) ((x4).toNatClampNeg)) y0) (fun _ k => Fr_trans (Fr_refl _ h) k)
theorem w_f_X9_manyOf_40 (k5 : HS → Int32 → Int64 → Int32 → Option (Int64 × HS)) (hk_k5 : ∀ (h : HS) (x0 : Int32) (x1 : Int64) (x2 : Int32), pk (k5 h x0 x1 x2) (fun a => Fr S_X9_manyOf_5 h a.2)) (h : HS) (x1 : Int32) (x2 : Int64) (x4 : Int32) (x5 : Int32) (y0 : Int32) : pk (f_X9_manyOf_40 k5 h x1 x2 x4 x5 y0) (fun a => Fr S_X9_manyOf_5 h a.2) := by
  unfold f_X9_manyOf_40
  refine pk_if (fun _ => ?_) (fun _ => ?_)
  · refine pk_if (fun _ => ?_) (fun _ => ?_)
    · exact pk_mono (w_f_X9_manyOf_88 k5 hk_k5 h x1 x4 x2) (fun _ k => Fr_trans (Fr_refl _ h) k)
    · exact pk_mono (w_f_X9_manyOf_78 k5 hk_k5 h x1 x4 x2) (fun _ k => Fr_trans (Fr_refl _ h) k)
  · refine pk_if (fun _ => ?_) (fun _ => ?_)
    · refine pk_if (fun _ => ?_) (fun _ => ?_)
      · exact pk_mono (w_f_X9_manyOf_88 k5 hk_k5 h x1 x4 x2) (fun _ k => Fr_trans (Fr_refl _ h) k)
      · exact pk_mono (w_f_X9_manyOf_78 k5 hk_k5 h x1 x4 x2) (fun _ k => Fr_trans (Fr_refl _ h) k)
    · refine pk_if (fun _ => ?_) (fun _ => ?_)
      · exact pk_mono (w_f_X9_manyOf_88 k5 hk_k5 h x1 x4 x2) (fun _ k => Fr_trans (Fr_refl _ h) k)
      · refine pk_if (fun _ => ?_) (fun _ => ?_)
        · exact pk_mono (w_f_X9_manyOf_78 k5 hk_k5 h x1 x4 x2) (fun _ k => Fr_trans (Fr_refl _ h) k)
        · exact pk_mono (w_f_X9_manyOf_88 k5 hk_k5 h x1 x4 x2) (fun _ k => Fr_trans (Fr_refl _ h) k)
theorem w_f_X9_manyOf_25 (k5 : HS → Int32 → Int64 → Int32 → Option (Int64 × HS)) (hk_k5 : ∀ (h : HS) (x0 : Int32) (x1 : Int64) (x2 : Int32), pk (k5 h x0 x1 x2) (fun a => Fr S_X9_manyOf_5 h a.2)) (h : HS) (x1 : Int32) (x2 : Int64) (x4 : Int32) (y0 : Int32) : pk (f_X9_manyOf_25 k5 h x1 x2 x4 y0) (fun a => Fr S_X9_manyOf_5 h a.2) := by
  unfold f_X9_manyOf_25
  refine pk_if (fun _ => ?_) (fun _ => ?_)
  · exact pk_mono (w_f_X9_manyOf_40 k5 hk_k5 h x1 x2 x4 y0 1) (fun _ k => Fr_trans (Fr_refl _ h) k)
  · exact pk_mono (w_f_X9_manyOf_40 k5 hk_k5 h x1 x2 x4 y0 0) (fun _ k => Fr_trans (Fr_refl _ h) k)
theorem w_f_X9_manyOf_5  : ∀ (n : Nat) (h : HS) (x1 : Int32) (x2 : Int64) (x4 : Int32), pk (f_X9_manyOf_5  n h x1 x2 x4) (fun a => Fr S_X9_manyOf_5 h a.2) := by
  intro n
  induction n with
  | zero => intro h x1 x2 x4; exact pk_none
  | succ n ih =>
    intro h x1 x2 x4
    rw [f_X9_manyOf_5_s]
    refine pk_if (fun _ => ?_) (fun _ => ?_)
    · exact pk_some (Fr_refl _ h)
    · refine pk_if (fun _ => ?_) (fun _ => ?_)
      · exact pk_mono (w_f_X9_manyOf_25 (f_X9_manyOf_5 n) ih h x1 x2 x4 1) (fun _ k => Fr_trans (Fr_refl _ h) k)
      · exact pk_mono (w_f_X9_manyOf_25 (f_X9_manyOf_5 n) ih h x1 x2 x4 0) (fun _ k => Fr_trans (Fr_refl _ h) k)
def S_X9_manyOf : CL := []
theorem fs_X9_manyOf_5__X9_manyOf : ∀ x ∈ S_X9_manyOf_5, x ∈ S_X9_manyOf := by decide
theorem w_f_X9_manyOf (h : HS) (p1 : Int32) : pk (f_X9_manyOf h p1) (fun a => Fr S_X9_manyOf h a.2) := by
  unfold f_X9_manyOf
  exact pk_mono (w_f_X9_manyOf_5 8589934592 h p1 0 0) (fun _ k => Fr_trans (Fr_refl _ h) (Fr_mono fs_X9_manyOf_5__X9_manyOf k))
def S_X9_odds_16 : CL := []
theorem w_f_X9_odds_16 (h : HS) : pk (f_X9_odds_16 h) (fun a => Fr S_X9_odds_16 h a.2) := by
  unfold f_X9_odds_16
  exact pk_some (Fr_refl _ h)
def S_X9_odds_212 : CL := []
theorem w_f_X9_odds_212 (h : HS) (y0 : Int64) : pk (f_X9_odds_212 h y0) (fun a => Fr S_X9_odds_212 h a.2) := by
  unfold f_X9_odds_212
  exact pk_some (Fr_refl _ h)
def S_X9_odds_170 : CL := []
theorem fs_X9_odds_212__X9_odds_170 : ∀ x ∈ S_X9_odds_212, x ∈ S_X9_odds_170 := by decide
theorem w_f_X9_odds_170  : ∀ (n : Nat) (h : HS) (x3 : Int32) (x5 : Int64) (x7 : Int64) (x9 : Int64) (x11 : Int64), pk (f_X9_odds_170  n h x3 x5 x7 x9 x11) (fun a => Fr S_X9_odds_170 h a.2) := by
  intro n
  induction n with
  | zero => intro h x3 x5 x7 x9 x11; exact pk_none
  | succ n ih =>
    intro h x3 x5 x7 x9 x11
    rw [f_X9_odds_170_s]
    refine pk_if (fun _ => ?_) (fun _ => ?_)
    · refine pk_if (fun _ => ?_) (fun _ => ?_)
      · refine pk_chk (fun _ => ?_)
        exact pk_mono (w_f_X9_odds_212 h (x7 / x9)) (fun _ k => Fr_trans (Fr_refl _ h) (Fr_mono fs_X9_odds_212__X9_odds_170 k))
      · refine pk_chk (fun _ => ?_)
        exact pk_mono (w_f_X9_odds_212 h (x5 / x9)) (fun _ k => Fr_trans (Fr_refl _ h) (Fr_mono fs_X9_odds_212__X9_odds_170 k))
    · refine pk_chk (fun _ => ?_)
      exact pk_mono (ih h x3 x5 x7 x11 (x9 - x9 / x11 * x11)) (fun _ k => Fr_trans (Fr_refl _ h) k)
def S_X9_odds_51 : CL := [(1, 0, 39), (3, 0, 40), (3, 0, 41), (3, 0, 42)]
theorem w_f_X9_odds_149 (k51 : HS → Int32 → Int32 → Int32 → Int32 → Int64 → Int32 → Option (Int64 × HS)) (hk_k51 : ∀ (h : HS) (x0 : Int32) (x1 : Int32) (x2 : Int32) (x3 : Int32) (x4 : Int64) (x5 : Int32), pk (k51 h x0 x1 x2 x3 x4 x5) (fun a => Fr S_X9_odds_51 h a.2)) (h : HS) (x1 : Int32) (x2 : Int32) (x3 : Int32) (x4 : Int32) (x5 : Int64) (x7 : Int32) : pk (f_X9_odds_149 k51 h x1 x2 x3 x4 x5 x7) (fun a => Fr S_X9_odds_51 h a.2) := by
  unfold f_X9_odds_149
  exact pk_mono (hk_k51 h x1 x2 x3 x4 x5 (x7 + 1)) (fun _ k => Fr_trans (Fr_refl _ h) k)
theorem fs_X9_manyOf__X9_odds_51 : ∀ x ∈ S_X9_manyOf, x ∈ S_X9_odds_51 := by decide
theorem fs_X9_odds_170__X9_odds_51 : ∀ x ∈ S_X9_odds_170, x ∈ S_X9_odds_51 := by decide
theorem fs_X9_ofGoose__X9_odds_51 : ∀ x ∈ S_X9_ofGoose, x ∈ S_X9_odds_51 := by decide
theorem fs_X9_marketOf__X9_odds_51 : ∀ x ∈ S_X9_marketOf, x ∈ S_X9_odds_51 := by decide
theorem fs_X9_isTrue__X9_odds_51 : ∀ x ∈ S_X9_isTrue, x ∈ S_X9_odds_51 := by decide
theorem fs_X9_comesMany__X9_odds_51 : ∀ x ∈ S_X9_comesMany, x ∈ S_X9_odds_51 := by decide
theorem w_f_X9_odds_51  : ∀ (n : Nat) (h : HS) (x1 : Int32) (x2 : Int32) (x3 : Int32) (x4 : Int32) (x5 : Int64) (x7 : Int32), pk (f_X9_odds_51  n h x1 x2 x3 x4 x5 x7) (fun a => Fr S_X9_odds_51 h a.2) := by
  intro n
  induction n with
  | zero => intro h x1 x2 x3 x4 x5 x7; exact pk_none
  | succ n ih =>
    intro h x1 x2 x3 x4 x5 x7
    rw [f_X9_odds_51_s]
    refine pk_if (fun _ => ?_) (fun _ => ?_)
    · refine pk_ob2 (w_f_X9_manyOf h x2) (fun r_9 h_9 k_1 => ?_)
      replace k_1 := Fr_trans (Fr_refl _ h) (Fr_mono fs_X9_manyOf__X9_odds_51 k_1)
      exact pk_mono (w_f_X9_odds_170 8589934592 h_9 x3 x5 r_9 x5 r_9) (fun _ k => Fr_trans k_1 (Fr_mono fs_X9_odds_170__X9_odds_51 k))
    · refine pk_ob2 (w_f_X9_ofGoose h x7 2) (fun r_10 h_10 k_2 => ?_)
      replace k_2 := Fr_trans (Fr_refl _ h) (Fr_mono fs_X9_ofGoose__X9_odds_51 k_2)
      refine pk_if (fun _ => ?_) (fun _ => ?_)
      · refine pk_ob2 (w_f_X9_ofGoose h_10 x7 4) (fun r_12 h_12 k_3 => ?_)
        replace k_3 := Fr_trans k_2 (Fr_mono fs_X9_ofGoose__X9_odds_51 k_3)
        refine pk_if (fun _ => ?_) (fun _ => ?_)
        · refine pk_if (fun _ => ?_) (fun _ => ?_)
          · refine pk_ob2 (w_f_X9_marketOf h_12 0 x7) (fun r_15 h_15 k_4 => ?_)
            replace k_4 := Fr_trans k_3 (Fr_mono fs_X9_marketOf__X9_odds_51 k_4)
            refine pk_ob2 (w_f_X9_marketOf h_15 1 x7) (fun r_16 h_16 k_5 => ?_)
            replace k_5 := Fr_trans k_4 (Fr_mono fs_X9_marketOf__X9_odds_51 k_5)
            refine pk_ob2 (w_f_X9_isTrue h_16 x7) (fun r_17 h_17 k_6 => ?_)
            replace k_6 := Fr_trans k_5 (Fr_mono fs_X9_isTrue__X9_odds_51 k_6)
            refine pk_ob2 (w_f_X9_ofGoose h_17 x7 3) (fun r_18 h_18 k_7 => ?_)
            replace k_7 := Fr_trans k_6 (Fr_mono fs_X9_ofGoose__X9_odds_51 k_7)
            refine pk_ob1 (w_f_X9_comesMany h_18 r_15 r_16 r_18 r_17) (fun h_19 k_8 => ?_)
            replace k_8 := Fr_trans k_7 (Fr_mono fs_X9_comesMany__X9_odds_51 k_8)
            exact pk_mono (w_f_X9_odds_149 (f_X9_odds_51 n) ih h_19 x1 x2 x3 (x4 + 1) (x5 * 100) x7) (fun _ k => Fr_trans k_8 k)
          · exact pk_some k_3
        · exact pk_mono (w_f_X9_odds_149 (f_X9_odds_51 n) ih h_12 x1 x2 x3 x4 x5 x7) (fun _ k => Fr_trans k_3 k)
      · exact pk_mono (w_f_X9_odds_149 (f_X9_odds_51 n) ih h_10 x1 x2 x3 x4 x5 x7) (fun _ k => Fr_trans k_2 k)
def S_X9_odds : CL := [(1, 0, 39), (3, 0, 40), (3, 0, 41), (3, 0, 42)]
theorem fs_X9_odds_16__X9_odds : ∀ x ∈ S_X9_odds_16, x ∈ S_X9_odds := by decide
theorem fs_X9_knownBy__X9_odds : ∀ x ∈ S_X9_knownBy, x ∈ S_X9_odds := by decide
theorem fs_X9_startsMany__X9_odds : ∀ x ∈ S_X9_startsMany, x ∈ S_X9_odds := by decide
theorem fs_X9_odds_51__X9_odds : ∀ x ∈ S_X9_odds_51, x ∈ S_X9_odds := by decide
theorem w_f_X9_odds (h : HS) (p1 : Int32) (p2 : Int32) (p3 : Int32) : pk (f_X9_odds h p1 p2 p3) (fun a => Fr S_X9_odds h a.2) := by
  unfold f_X9_odds
  refine pk_obf (fun r_1 => ?_)
  refine pk_if (fun _ => ?_) (fun _ => ?_)
  · exact pk_mono (w_f_X9_odds_16 h) (fun _ k => Fr_trans (Fr_refl _ h) (Fr_mono fs_X9_odds_16__X9_odds k))
  · refine pk_obf (fun r_3 => ?_)
    refine pk_if (fun _ => ?_) (fun _ => ?_)
    · exact pk_mono (w_f_X9_odds_16 h) (fun _ k => Fr_trans (Fr_refl _ h) (Fr_mono fs_X9_odds_16__X9_odds k))
    · refine pk_ob2 (w_f_X9_knownBy h p1 999 0) (fun r_5 h_5 k_1 => ?_)
      replace k_1 := Fr_trans (Fr_refl _ h) (Fr_mono fs_X9_knownBy__X9_odds k_1)
      refine pk_ob2 (w_f_X9_knownBy h_5 p1 999 1) (fun r_6 h_6 k_2 => ?_)
      replace k_2 := Fr_trans k_1 (Fr_mono fs_X9_knownBy__X9_odds k_2)
      refine pk_ob1 (w_f_X9_startsMany h_6 r_5 r_6) (fun h_7 k_3 => ?_)
      replace k_3 := Fr_trans k_2 (Fr_mono fs_X9_startsMany__X9_odds k_3)
      exact pk_mono (w_f_X9_odds_51 8589934592 h_7 p1 p2 p3 0 1 0) (fun _ k => Fr_trans k_3 (Fr_mono fs_X9_odds_51__X9_odds k))
def S_X9_laysFlock_7 : CL := [(0, 0, 47), (1, 0, 39), (1, 0, 43), (1, 0, 44), (1, 0, 45), (1, 0, 46), (3, 0, 40)]
theorem w_f_X9_laysFlock_188 (k7 : HS → Int32 → Int32 → Option HS) (hk_k7 : ∀ (h : HS) (x0 : Int32) (x1 : Int32), pk (k7 h x0 x1) (fun a => Fr S_X9_laysFlock_7 h a)) (h : HS) (x1 : Int32) (x2 : Int32) : pk (f_X9_laysFlock_188 k7 h x1 x2) (fun a => Fr S_X9_laysFlock_7 h a) := by
  unfold f_X9_laysFlock_188
  exact pk_mono (hk_k7 h x1 (x2 + 1)) (fun _ k => Fr_trans (Fr_refl _ h) k)
theorem fm_X9_laysFlock_7_1_0_43 : (1, 0, 43) ∈ S_X9_laysFlock_7 := by decide
theorem fm_X9_laysFlock_7_1_0_44 : (1, 0, 44) ∈ S_X9_laysFlock_7 := by decide
theorem fm_X9_laysFlock_7_1_0_45 : (1, 0, 45) ∈ S_X9_laysFlock_7 := by decide
theorem fs_X9_marketTells__X9_laysFlock_7 : ∀ x ∈ S_X9_marketTells, x ∈ S_X9_laysFlock_7 := by decide
theorem fs_X9_ofGoose__X9_laysFlock_7 : ∀ x ∈ S_X9_ofGoose, x ∈ S_X9_laysFlock_7 := by decide
theorem fs_X9_isTrueBy__X9_laysFlock_7 : ∀ x ∈ S_X9_isTrueBy, x ∈ S_X9_laysFlock_7 := by decide
theorem w_f_X9_laysFlock_67 (k7 : HS → Int32 → Int32 → Option HS) (hk_k7 : ∀ (h : HS) (x0 : Int32) (x1 : Int32), pk (k7 h x0 x1) (fun a => Fr S_X9_laysFlock_7 h a)) : ∀ (n : Nat) (h : HS) (x1 : Int32) (x2 : Int32) (x3 : Int32), pk (f_X9_laysFlock_67 k7 n h x1 x2 x3) (fun a => Fr S_X9_laysFlock_7 h a) := by
  intro n
  induction n with
  | zero => intro h x1 x2 x3; exact pk_none
  | succ n ih =>
    intro h x1 x2 x3
    rw [f_X9_laysFlock_67_s]
    refine pk_if (fun _ => ?_) (fun _ => ?_)
    · exact pk_mono (w_f_X9_laysFlock_188 k7 hk_k7 h x1 x2) (fun _ k => Fr_trans (Fr_refl _ h) k)
    · refine pk_chk (fun _ => ?_)
      refine pk_ob2 (w_f_X9_marketTells h 0 x2 x1 (x3 - x3 / 3 * 3) (x3 / 3) (((eA h 0 0) 121) + ((eA h 0 0) (((10 + (3 * (x3 / 3)))).toNatClampNeg)))) (fun r_11 h_11 k_1 => ?_)
      replace k_1 := Fr_trans (Fr_refl _ h) (Fr_mono fs_X9_marketTells__X9_laysFlock_7 k_1)
      refine pk_chk (fun _ => ?_)
      refine pk_ob2 (w_f_X9_marketTells (sA h_11 0 43 (upd (eA h_11 0 43) ((((12 * x2) + x3)).toNatClampNeg) r_11)) 1 x2 x1 (x3 - x3 / 3 * 3) (x3 / 3) (((eA h 0 0) 121) + ((eA h 0 0) (((10 + (3 * (x3 / 3)))).toNatClampNeg)))) (fun r_13 h_13 k_2 => ?_)
      replace k_2 := Fr_trans (Fr_sA fm_X9_laysFlock_7_1_0_43 k_1) (Fr_mono fs_X9_marketTells__X9_laysFlock_7 k_2)
      refine pk_chk (fun _ => ?_)
      refine pk_ob2 (w_f_X9_ofGoose (sA h_13 0 44 (upd (eA h_13 0 44) ((((12 * x2) + x3)).toNatClampNeg) r_13)) x2 1) (fun r_15 h_15 k_3 => ?_)
      replace k_3 := Fr_trans (Fr_sA fm_X9_laysFlock_7_1_0_44 k_2) (Fr_mono fs_X9_ofGoose__X9_laysFlock_7 k_3)
      refine pk_ob2 (w_f_X9_isTrueBy h_15 x2 x1 (x3 - x3 / 3 * 3) r_15) (fun r_16 h_16 k_4 => ?_)
      replace k_4 := Fr_trans k_3 (Fr_mono fs_X9_isTrueBy__X9_laysFlock_7 k_4)
      refine pk_chk (fun _ => ?_)
      exact pk_mono (ih (sA h_16 0 45 (upd (eA h_16 0 45) ((((12 * x2) + x3)).toNatClampNeg) (vp_nar .boolean r_16))) x1 x2 (x3 + 1)) (fun _ k => Fr_trans (Fr_sA fm_X9_laysFlock_7_1_0_45 k_4) k)
theorem fm_X9_laysFlock_7_0_0_47 : (0, 0, 47) ∈ S_X9_laysFlock_7 := by decide
theorem fm_X9_laysFlock_7_1_0_46 : (1, 0, 46) ∈ S_X9_laysFlock_7 := by decide
theorem fs_X9_isHome__X9_laysFlock_7 : ∀ x ∈ S_X9_isHome, x ∈ S_X9_laysFlock_7 := by decide
theorem w_f_X9_laysFlock_7  : ∀ (n : Nat) (h : HS) (x1 : Int32) (x2 : Int32), pk (f_X9_laysFlock_7  n h x1 x2) (fun a => Fr S_X9_laysFlock_7 h a) := by
  intro n
  induction n with
  | zero => intro h x1 x2; exact pk_none
  | succ n ih =>
    intro h x1 x2
    rw [f_X9_laysFlock_7_s]
    refine pk_if (fun _ => ?_) (fun _ => ?_)
    · exact pk_some (Fr_refl _ h)
    · refine pk_ob2 (w_f_X9_isHome h x2) (fun r_2 h_2 k_1 => ?_)
      replace k_1 := Fr_trans (Fr_refl _ h) (Fr_mono fs_X9_isHome__X9_laysFlock_7 k_1)
      refine pk_if (fun _ => ?_) (fun _ => ?_)
      · exact pk_mono (w_f_X9_laysFlock_188 (f_X9_laysFlock_7 n) ih h_2 x1 x2) (fun _ k => Fr_trans k_1 k)
      · refine pk_ob2 (w_f_X9_ofGoose h_2 x2 8) (fun r_4 h_4 k_2 => ?_)
        replace k_2 := Fr_trans k_1 (Fr_mono fs_X9_ofGoose__X9_laysFlock_7 k_2)
        refine pk_if (fun _ => ?_) (fun _ => ?_)
        · refine pk_ob2 (w_f_X9_ofGoose h_4 x2 2) (fun r_6 h_6 k_3 => ?_)
          replace k_3 := Fr_trans k_2 (Fr_mono fs_X9_ofGoose__X9_laysFlock_7 k_3)
          refine pk_if (fun _ => ?_) (fun _ => ?_)
          · refine pk_chk (fun _ => ?_)
            exact pk_mono (w_f_X9_laysFlock_67 (f_X9_laysFlock_7 n) ih 8589934592 (sI (sA h_6 0 46 (upd (eA h_6 0 46) (((eI h_6 0 47)).toNatClampNeg) x2)) 0 47 ((eI h_6 0 47) + 1)) x1 x2 0) (fun _ k => Fr_trans (Fr_sI fm_X9_laysFlock_7_0_0_47 (Fr_sA fm_X9_laysFlock_7_1_0_46 k_3)) k)
          · exact pk_mono (w_f_X9_laysFlock_188 (f_X9_laysFlock_7 n) ih h_6 x1 x2) (fun _ k => Fr_trans k_3 k)
        · exact pk_mono (w_f_X9_laysFlock_188 (f_X9_laysFlock_7 n) ih h_4 x1 x2) (fun _ k => Fr_trans k_2 k)
def S_X9_laysFlock : CL := [(0, 0, 47), (1, 0, 39), (1, 0, 43), (1, 0, 44), (1, 0, 45), (1, 0, 46), (3, 0, 40)]
theorem fm_X9_laysFlock_0_0_47 : (0, 0, 47) ∈ S_X9_laysFlock := by decide
theorem fs_X9_laysFlock_7__X9_laysFlock : ∀ x ∈ S_X9_laysFlock_7, x ∈ S_X9_laysFlock := by decide
theorem w_f_X9_laysFlock (h : HS) (p1 : Int32) : pk (f_X9_laysFlock h p1) (fun a => Fr S_X9_laysFlock h a) := by
  unfold f_X9_laysFlock
  exact pk_mono (w_f_X9_laysFlock_7 8589934592 (sI h 0 47 0) p1 0) (fun _ k => Fr_trans (Fr_sI fm_X9_laysFlock_0_0_47 (Fr_refl _ h)) (Fr_mono fs_X9_laysFlock_7__X9_laysFlock k))
def S_X9_asksPlan_128 : CL := []
theorem w_f_X9_asksPlan_128 (h : HS) : pk (f_X9_asksPlan_128 h) (fun a => Fr S_X9_asksPlan_128 h a) := by
  unfold f_X9_asksPlan_128
  exact pk_some (Fr_refl _ h)
def S_X9_asksPlan_138 : CL := [(1, 0, 50), (1, 0, 51)]
theorem fm_X9_asksPlan_138_1_0_51 : (1, 0, 51) ∈ S_X9_asksPlan_138 := by decide
theorem fm_X9_asksPlan_138_1_0_50 : (1, 0, 50) ∈ S_X9_asksPlan_138 := by decide
theorem w_f_X9_asksPlan_138  : ∀ (n : Nat) (h : HS) (x1 : Int32) (x7 : Int32), pk (f_X9_asksPlan_138  n h x1 x7) (fun a => Fr S_X9_asksPlan_138 h a) := by
  intro n
  induction n with
  | zero => intro h x1 x7; exact pk_none
  | succ n ih =>
    intro h x1 x7
    rw [f_X9_asksPlan_138_s]
    refine pk_if (fun _ => ?_) (fun _ => ?_)
    · exact pk_some (Fr_refl _ h)
    · refine pk_chk (fun _ => ?_)
      refine pk_chk (fun _ => ?_)
      refine pk_chk (fun _ => ?_)
      refine pk_chk (fun _ => ?_)
      exact pk_mono (ih (sA (sA h 0 50 (upd (eA h 0 50) ((x7).toNatClampNeg) ((eA h 0 48) ((x7).toNatClampNeg)))) 0 51 (upd (eA h 0 51) ((x7).toNatClampNeg) ((eA h 0 49) ((x7).toNatClampNeg)))) x1 (x7 + 1)) (fun _ k => Fr_trans (Fr_sA fm_X9_asksPlan_138_1_0_51 (Fr_sA fm_X9_asksPlan_138_1_0_50 (Fr_refl _ h))) k)
def S_X9_asksPlan_129 : CL := [(1, 0, 50), (1, 0, 51), (2, 0, 52)]
theorem fm_X9_asksPlan_129_2_0_52 : (2, 0, 52) ∈ S_X9_asksPlan_129 := by decide
theorem fs_X9_asksPlan_138__X9_asksPlan_129 : ∀ x ∈ S_X9_asksPlan_138, x ∈ S_X9_asksPlan_129 := by decide
theorem w_f_X9_asksPlan_129 (h : HS) (x1 : Int32) (x5 : Int64) : pk (f_X9_asksPlan_129 h x1 x5) (fun a => Fr S_X9_asksPlan_129 h a) := by
  unfold f_X9_asksPlan_129
  exact pk_mono (w_f_X9_asksPlan_138 8589934592 (sL h 0 52 x5) x1 0) (fun _ k => Fr_trans (Fr_sL fm_X9_asksPlan_129_2_0_52 (Fr_refl _ h)) (Fr_mono fs_X9_asksPlan_138__X9_asksPlan_129 k))
def S_X9_asksPlan_11 : CL := [(1, 0, 50), (1, 0, 51), (2, 0, 52), (3, 0, 41), (3, 0, 42)]
theorem fs_X9_manyOf__X9_asksPlan_11 : ∀ x ∈ S_X9_manyOf, x ∈ S_X9_asksPlan_11 := by decide
theorem fs_X9_asksPlan_128__X9_asksPlan_11 : ∀ x ∈ S_X9_asksPlan_128, x ∈ S_X9_asksPlan_11 := by decide
theorem fs_X9_asksPlan_129__X9_asksPlan_11 : ∀ x ∈ S_X9_asksPlan_129, x ∈ S_X9_asksPlan_11 := by decide
theorem fs_X9_comesMany__X9_asksPlan_11 : ∀ x ∈ S_X9_comesMany, x ∈ S_X9_asksPlan_11 := by decide
theorem w_f_X9_asksPlan_11  : ∀ (n : Nat) (h : HS) (x1 : Int32) (x2 : Int32) (x3 : Int64) (x5 : Int32), pk (f_X9_asksPlan_11  n h x1 x2 x3 x5) (fun a => Fr S_X9_asksPlan_11 h a) := by
  intro n
  induction n with
  | zero => intro h x1 x2 x3 x5; exact pk_none
  | succ n ih =>
    intro h x1 x2 x3 x5
    rw [f_X9_asksPlan_11_s]
    refine pk_if (fun _ => ?_) (fun _ => ?_)
    · refine pk_ob2 (w_f_X9_manyOf h 1) (fun r_3 h_3 k_1 => ?_)
      replace k_1 := Fr_trans (Fr_refl _ h) (Fr_mono fs_X9_manyOf__X9_asksPlan_11 k_1)
      refine pk_ob2 (w_f_X9_manyOf h_3 0) (fun r_4 h_4 k_2 => ?_)
      replace k_2 := Fr_trans k_1 (Fr_mono fs_X9_manyOf__X9_asksPlan_11 k_2)
      refine pk_if (fun _ => ?_) (fun _ => ?_)
      · exact pk_mono (w_f_X9_asksPlan_128 h_4) (fun _ k => Fr_trans k_2 (Fr_mono fs_X9_asksPlan_128__X9_asksPlan_11 k))
      · refine pk_if (fun _ => ?_) (fun _ => ?_)
        · exact pk_mono (w_f_X9_asksPlan_129 h_4 x1 r_3) (fun _ k => Fr_trans k_2 (Fr_mono fs_X9_asksPlan_129__X9_asksPlan_11 k))
        · refine pk_if (fun _ => ?_) (fun _ => ?_)
          · exact pk_mono (w_f_X9_asksPlan_129 h_4 x1 r_3) (fun _ k => Fr_trans k_2 (Fr_mono fs_X9_asksPlan_129__X9_asksPlan_11 k))
          · exact pk_mono (w_f_X9_asksPlan_128 h_4) (fun _ k => Fr_trans k_2 (Fr_mono fs_X9_asksPlan_128__X9_asksPlan_11 k))
    · refine pk_chk (fun _ => ?_)
      refine pk_chk (fun _ => ?_)
      refine pk_chk (fun _ => ?_)
      refine pk_chk (fun _ => ?_)
      refine pk_chk (fun _ => ?_)
      refine pk_chk (fun _ => ?_)
      refine pk_ob1 (w_f_X9_comesMany h ((eA h 0 43) ((((12 * ((eA h 0 48) ((x5).toNatClampNeg))) + ((eA h 0 49) ((x5).toNatClampNeg)))).toNatClampNeg)) ((eA h 0 44) ((((12 * ((eA h 0 48) ((x5).toNatClampNeg))) + ((eA h 0 49) ((x5).toNatClampNeg)))).toNatClampNeg)) (((eA h 0 49) ((x5).toNatClampNeg)) - ((eA h 0 49) ((x5).toNatClampNeg)) / 3 * 3) ((eA h 0 45) ((((12 * ((eA h 0 48) ((x5).toNatClampNeg))) + ((eA h 0 49) ((x5).toNatClampNeg)))).toNatClampNeg))) (fun h_14 k_3 => ?_)
      replace k_3 := Fr_trans (Fr_refl _ h) (Fr_mono fs_X9_comesMany__X9_asksPlan_11 k_3)
      exact pk_mono (ih h_14 x1 x2 (x3 * 100) (x5 + 1)) (fun _ k => Fr_trans k_3 k)
def S_X9_asksPlan : CL := [(1, 0, 50), (1, 0, 51), (2, 0, 52), (3, 0, 41), (3, 0, 42)]
theorem fs_X9_startsMany__X9_asksPlan : ∀ x ∈ S_X9_startsMany, x ∈ S_X9_asksPlan := by decide
theorem fs_X9_asksPlan_11__X9_asksPlan : ∀ x ∈ S_X9_asksPlan_11, x ∈ S_X9_asksPlan := by decide
theorem w_f_X9_asksPlan (h : HS) (p1 : Int32) (p2 : Int32) : pk (f_X9_asksPlan h p1 p2) (fun a => Fr S_X9_asksPlan h a) := by
  unfold f_X9_asksPlan
  refine pk_ob1 (w_f_X9_startsMany h 0 0) (fun h_1 k_1 => ?_)
  replace k_1 := Fr_trans (Fr_refl _ h) (Fr_mono fs_X9_startsMany__X9_asksPlan k_1)
  exact pk_mono (w_f_X9_asksPlan_11 8589934592 h_1 p1 p2 1 0) (fun _ k => Fr_trans k_1 (Fr_mono fs_X9_asksPlan_11__X9_asksPlan k))
def S_X9_triesDoings_31 : CL := [(1, 0, 49), (1, 0, 50), (1, 0, 51), (2, 0, 52), (3, 0, 41), (3, 0, 42)]
theorem fm_X9_triesDoings_31_1_0_49 : (1, 0, 49) ∈ S_X9_triesDoings_31 := by decide
theorem fs_X9_asksPlan__X9_triesDoings_31 : ∀ x ∈ S_X9_asksPlan, x ∈ S_X9_triesDoings_31 := by decide
theorem w_f_X9_triesDoings_46 (k31 : HS → Int32 → Int32 → Int32 → Int32 → Option HS) (hk_k31 : ∀ (h : HS) (x0 : Int32) (x1 : Int32) (x2 : Int32) (x3 : Int32), pk (k31 h x0 x1 x2 x3) (fun a => Fr S_X9_triesDoings_31 h a)) : ∀ (n : Nat) (h : HS) (x1 : Int32) (x2 : Int32) (x3 : Int32) (x4 : Int32) (x5 : Int32) (x6 : Int32), pk (f_X9_triesDoings_46 k31 n h x1 x2 x3 x4 x5 x6) (fun a => Fr S_X9_triesDoings_31 h a) := by
  intro n
  induction n with
  | zero => intro h x1 x2 x3 x4 x5 x6; exact pk_none
  | succ n ih =>
    intro h x1 x2 x3 x4 x5 x6
    rw [f_X9_triesDoings_46_s]
    refine pk_if (fun _ => ?_) (fun _ => ?_)
    · refine pk_ob1 (w_f_X9_asksPlan h x1 x2) (fun h_4 k_1 => ?_)
      replace k_1 := Fr_trans (Fr_refl _ h) (Fr_mono fs_X9_asksPlan__X9_triesDoings_31 k_1)
      exact pk_mono (hk_k31 h_4 x1 x2 x3 (x4 + 1)) (fun _ k => Fr_trans k_1 k)
    · refine pk_chk (fun _ => ?_)
      refine pk_chk (fun _ => ?_)
      refine pk_chk (fun _ => ?_)
      exact pk_mono (ih (sA h 0 49 (upd (eA h 0 49) ((x6).toNatClampNeg) (x5 - x5 / (3 * ((eA h 0 0) 0)) * (3 * ((eA h 0 0) 0))))) x1 x2 x3 x4 (x5 / (3 * ((eA h 0 0) 0))) (x6 + (-1))) (fun _ k => Fr_trans (Fr_sA fm_X9_triesDoings_31_1_0_49 (Fr_refl _ h)) k)
theorem w_f_X9_triesDoings_31  : ∀ (n : Nat) (h : HS) (x1 : Int32) (x2 : Int32) (x3 : Int32) (x4 : Int32), pk (f_X9_triesDoings_31  n h x1 x2 x3 x4) (fun a => Fr S_X9_triesDoings_31 h a) := by
  intro n
  induction n with
  | zero => intro h x1 x2 x3 x4; exact pk_none
  | succ n ih =>
    intro h x1 x2 x3 x4
    rw [f_X9_triesDoings_31_s]
    refine pk_if (fun _ => ?_) (fun _ => ?_)
    · exact pk_some (Fr_refl _ h)
    · exact pk_mono (w_f_X9_triesDoings_46 (f_X9_triesDoings_31 n) ih 8589934592 h x1 x2 x3 x4 x4 (x1 - 1)) (fun _ k => Fr_trans (Fr_refl _ h) k)
def S_X9_triesDoings_5 : CL := [(1, 0, 49), (1, 0, 50), (1, 0, 51), (2, 0, 52), (3, 0, 41), (3, 0, 42)]
theorem fs_X9_triesDoings_31__X9_triesDoings_5 : ∀ x ∈ S_X9_triesDoings_31, x ∈ S_X9_triesDoings_5 := by decide
theorem w_f_X9_triesDoings_5  : ∀ (n : Nat) (h : HS) (x1 : Int32) (x2 : Int32) (x3 : Int32) (x4 : Int32), pk (f_X9_triesDoings_5  n h x1 x2 x3 x4) (fun a => Fr S_X9_triesDoings_5 h a) := by
  intro n
  induction n with
  | zero => intro h x1 x2 x3 x4; exact pk_none
  | succ n ih =>
    intro h x1 x2 x3 x4
    rw [f_X9_triesDoings_5_s]
    refine pk_if (fun _ => ?_) (fun _ => ?_)
    · exact pk_mono (w_f_X9_triesDoings_31 8589934592 h x1 x2 x3 0) (fun _ k => Fr_trans (Fr_refl _ h) (Fr_mono fs_X9_triesDoings_31__X9_triesDoings_5 k))
    · exact pk_mono (ih h x1 x2 ((x3 * 3) * ((eA h 0 0) 0)) (x4 + 1)) (fun _ k => Fr_trans (Fr_refl _ h) k)
def S_X9_triesDoings : CL := [(1, 0, 49), (1, 0, 50), (1, 0, 51), (2, 0, 52), (3, 0, 41), (3, 0, 42)]
theorem fs_X9_triesDoings_5__X9_triesDoings : ∀ x ∈ S_X9_triesDoings_5, x ∈ S_X9_triesDoings := by decide
theorem w_f_X9_triesDoings (h : HS) (p1 : Int32) (p2 : Int32) : pk (f_X9_triesDoings h p1 p2) (fun a => Fr S_X9_triesDoings h a) := by
  unfold f_X9_triesDoings
  exact pk_mono (w_f_X9_triesDoings_5 8589934592 h p1 p2 1 0) (fun _ k => Fr_trans (Fr_refl _ h) (Fr_mono fs_X9_triesDoings_5__X9_triesDoings k))
def S_X9_plansOf_167 : CL := []
theorem w_f_X9_plansOf_167 (h : HS) (y0 : Int32) : pk (f_X9_plansOf_167 h y0) (fun a => Fr S_X9_plansOf_167 h a.2) := by
  unfold f_X9_plansOf_167
  refine pk_chk (fun _ => ?_)
  exact pk_some (Fr_refl _ h)
def S_X9_plansOf_9 : CL := [(1, 0, 48), (1, 0, 49), (1, 0, 50), (1, 0, 51), (2, 0, 52), (3, 0, 41), (3, 0, 42)]
theorem w_f_X9_plansOf_145 (k9 : HS → Int32 → Int32 → Int32 → Option (Int32 × HS)) (hk_k9 : ∀ (h : HS) (x0 : Int32) (x1 : Int32) (x2 : Int32), pk (k9 h x0 x1 x2) (fun a => Fr S_X9_plansOf_9 h a.2)) (h : HS) (x1 : Int32) (x2 : Int32) (x3 : Int32) : pk (f_X9_plansOf_145 k9 h x1 x2 x3) (fun a => Fr S_X9_plansOf_9 h a.2) := by
  unfold f_X9_plansOf_145
  exact pk_mono (hk_k9 h x1 x2 (x3 + 1)) (fun _ k => Fr_trans (Fr_refl _ h) k)
theorem w_f_X9_plansOf_122 (k9 : HS → Int32 → Int32 → Int32 → Option (Int32 × HS)) (hk_k9 : ∀ (h : HS) (x0 : Int32) (x1 : Int32) (x2 : Int32), pk (k9 h x0 x1 x2) (fun a => Fr S_X9_plansOf_9 h a.2)) (k25 : HS → Int32 → Int32 → Int32 → Int32 → Int32 → Int32 → Option (Int32 × HS)) (hk_k25 : ∀ (h : HS) (x0 : Int32) (x1 : Int32) (x2 : Int32) (x3 : Int32) (x4 : Int32) (x5 : Int32), pk (k25 h x0 x1 x2 x3 x4 x5) (fun a => Fr S_X9_plansOf_9 h a.2)) (h : HS) (x1 : Int32) (x2 : Int32) (x3 : Int32) (x4 : Int32) (x5 : Int32) (x6 : Int32) : pk (f_X9_plansOf_122 k9 k25 h x1 x2 x3 x4 x5 x6) (fun a => Fr S_X9_plansOf_9 h a.2) := by
  unfold f_X9_plansOf_122
  exact pk_mono (hk_k25 h x1 x2 x3 x4 x5 (x6 + 1)) (fun _ k => Fr_trans (Fr_refl _ h) k)
theorem w_f_X9_plansOf_119 (k9 : HS → Int32 → Int32 → Int32 → Option (Int32 × HS)) (hk_k9 : ∀ (h : HS) (x0 : Int32) (x1 : Int32) (x2 : Int32), pk (k9 h x0 x1 x2) (fun a => Fr S_X9_plansOf_9 h a.2)) (k25 : HS → Int32 → Int32 → Int32 → Int32 → Int32 → Int32 → Option (Int32 × HS)) (hk_k25 : ∀ (h : HS) (x0 : Int32) (x1 : Int32) (x2 : Int32) (x3 : Int32) (x4 : Int32) (x5 : Int32), pk (k25 h x0 x1 x2 x3 x4 x5) (fun a => Fr S_X9_plansOf_9 h a.2)) (h : HS) (x1 : Int32) (x2 : Int32) (x3 : Int32) (x4 : Int32) (x5 : Int32) (x6 : Int32) : pk (f_X9_plansOf_119 k9 k25 h x1 x2 x3 x4 x5 x6) (fun a => Fr S_X9_plansOf_9 h a.2) := by
  unfold f_X9_plansOf_119
  exact pk_mono (w_f_X9_plansOf_122 k9 hk_k9 k25 hk_k25 h x1 x2 x3 (x4 + 1) x5 x6) (fun _ k => Fr_trans (Fr_refl _ h) k)
theorem fm_X9_plansOf_9_1_0_48 : (1, 0, 48) ∈ S_X9_plansOf_9 := by decide
theorem w_f_X9_plansOf_102 (k9 : HS → Int32 → Int32 → Int32 → Option (Int32 × HS)) (hk_k9 : ∀ (h : HS) (x0 : Int32) (x1 : Int32) (x2 : Int32), pk (k9 h x0 x1 x2) (fun a => Fr S_X9_plansOf_9 h a.2)) (k25 : HS → Int32 → Int32 → Int32 → Int32 → Int32 → Int32 → Option (Int32 × HS)) (hk_k25 : ∀ (h : HS) (x0 : Int32) (x1 : Int32) (x2 : Int32) (x3 : Int32) (x4 : Int32) (x5 : Int32), pk (k25 h x0 x1 x2 x3 x4 x5) (fun a => Fr S_X9_plansOf_9 h a.2)) (h : HS) (x1 : Int32) (x2 : Int32) (x3 : Int32) (x4 : Int32) (x6 : Int32) (y0 : Int32) : pk (f_X9_plansOf_102 k9 k25 h x1 x2 x3 x4 x6 y0) (fun a => Fr S_X9_plansOf_9 h a.2) := by
  unfold f_X9_plansOf_102
  refine pk_if (fun _ => ?_) (fun _ => ?_)
  · exact pk_mono (w_f_X9_plansOf_119 k9 hk_k9 k25 hk_k25 h x1 x2 x3 x4 y0 x6) (fun _ k => Fr_trans (Fr_refl _ h) k)
  · refine pk_chk (fun _ => ?_)
    exact pk_mono (w_f_X9_plansOf_119 k9 hk_k9 k25 hk_k25 (sA h 0 48 (upd (eA h 0 48) ((x4).toNatClampNeg) x6)) x1 x2 x3 x4 y0 x6) (fun _ k => Fr_trans (Fr_sA fm_X9_plansOf_9_1_0_48 (Fr_refl _ h)) k)
theorem w_f_X9_plansOf_101 (k9 : HS → Int32 → Int32 → Int32 → Option (Int32 × HS)) (hk_k9 : ∀ (h : HS) (x0 : Int32) (x1 : Int32) (x2 : Int32), pk (k9 h x0 x1 x2) (fun a => Fr S_X9_plansOf_9 h a.2)) (k25 : HS → Int32 → Int32 → Int32 → Int32 → Int32 → Int32 → Option (Int32 × HS)) (hk_k25 : ∀ (h : HS) (x0 : Int32) (x1 : Int32) (x2 : Int32) (x3 : Int32) (x4 : Int32) (x5 : Int32), pk (k25 h x0 x1 x2 x3 x4 x5) (fun a => Fr S_X9_plansOf_9 h a.2)) (h : HS) (x1 : Int32) (x2 : Int32) (x3 : Int32) (x4 : Int32) (x6 : Int32) : pk (f_X9_plansOf_101 k9 k25 h x1 x2 x3 x4 x6) (fun a => Fr S_X9_plansOf_9 h a.2) := by
  unfold f_X9_plansOf_101
  exact pk_mono (w_f_X9_plansOf_102 k9 hk_k9 k25 hk_k25 h x1 x2 x3 x4 x6 0) (fun _ k => Fr_trans (Fr_refl _ h) k)
theorem w_f_X9_plansOf_79 (k9 : HS → Int32 → Int32 → Int32 → Option (Int32 × HS)) (hk_k9 : ∀ (h : HS) (x0 : Int32) (x1 : Int32) (x2 : Int32), pk (k9 h x0 x1 x2) (fun a => Fr S_X9_plansOf_9 h a.2)) (k25 : HS → Int32 → Int32 → Int32 → Int32 → Int32 → Int32 → Option (Int32 × HS)) (hk_k25 : ∀ (h : HS) (x0 : Int32) (x1 : Int32) (x2 : Int32) (x3 : Int32) (x4 : Int32) (x5 : Int32), pk (k25 h x0 x1 x2 x3 x4 x5) (fun a => Fr S_X9_plansOf_9 h a.2)) (k48 : HS → Int32 → Int32 → Int32 → Int32 → Int32 → Int32 → Int32 → Int32 → Option (Int32 × HS)) (hk_k48 : ∀ (h : HS) (x0 : Int32) (x1 : Int32) (x2 : Int32) (x3 : Int32) (x4 : Int32) (x5 : Int32) (x6 : Int32) (x7 : Int32), pk (k48 h x0 x1 x2 x3 x4 x5 x6 x7) (fun a => Fr S_X9_plansOf_9 h a.2)) (h : HS) (x1 : Int32) (x2 : Int32) (x3 : Int32) (x4 : Int32) (x5 : Int32) (x6 : Int32) (x8 : Int32) (y0 : Int32) : pk (f_X9_plansOf_79 k9 k25 k48 h x1 x2 x3 x4 x5 x6 x8 y0) (fun a => Fr S_X9_plansOf_9 h a.2) := by
  unfold f_X9_plansOf_79
  exact pk_mono (hk_k48 h x1 x2 x3 x4 x5 x6 y0 (x8 + 1)) (fun _ k => Fr_trans (Fr_refl _ h) k)
theorem w_f_X9_plansOf_74 (k9 : HS → Int32 → Int32 → Int32 → Option (Int32 × HS)) (hk_k9 : ∀ (h : HS) (x0 : Int32) (x1 : Int32) (x2 : Int32), pk (k9 h x0 x1 x2) (fun a => Fr S_X9_plansOf_9 h a.2)) (k25 : HS → Int32 → Int32 → Int32 → Int32 → Int32 → Int32 → Option (Int32 × HS)) (hk_k25 : ∀ (h : HS) (x0 : Int32) (x1 : Int32) (x2 : Int32) (x3 : Int32) (x4 : Int32) (x5 : Int32), pk (k25 h x0 x1 x2 x3 x4 x5) (fun a => Fr S_X9_plansOf_9 h a.2)) (k48 : HS → Int32 → Int32 → Int32 → Int32 → Int32 → Int32 → Int32 → Int32 → Option (Int32 × HS)) (hk_k48 : ∀ (h : HS) (x0 : Int32) (x1 : Int32) (x2 : Int32) (x3 : Int32) (x4 : Int32) (x5 : Int32) (x6 : Int32) (x7 : Int32), pk (k48 h x0 x1 x2 x3 x4 x5 x6 x7) (fun a => Fr S_X9_plansOf_9 h a.2)) (h : HS) (x1 : Int32) (x2 : Int32) (x3 : Int32) (x4 : Int32) (x5 : Int32) (x6 : Int32) (x8 : Int32) : pk (f_X9_plansOf_74 k9 k25 k48 h x1 x2 x3 x4 x5 x6 x8) (fun a => Fr S_X9_plansOf_9 h a.2) := by
  unfold f_X9_plansOf_74
  exact pk_mono (w_f_X9_plansOf_79 k9 hk_k9 k25 hk_k25 k48 hk_k48 h x1 x2 x3 x4 x5 x6 x8 1) (fun _ k => Fr_trans (Fr_refl _ h) k)
theorem w_f_X9_plansOf_48 (k9 : HS → Int32 → Int32 → Int32 → Option (Int32 × HS)) (hk_k9 : ∀ (h : HS) (x0 : Int32) (x1 : Int32) (x2 : Int32), pk (k9 h x0 x1 x2) (fun a => Fr S_X9_plansOf_9 h a.2)) (k25 : HS → Int32 → Int32 → Int32 → Int32 → Int32 → Int32 → Option (Int32 × HS)) (hk_k25 : ∀ (h : HS) (x0 : Int32) (x1 : Int32) (x2 : Int32) (x3 : Int32) (x4 : Int32) (x5 : Int32), pk (k25 h x0 x1 x2 x3 x4 x5) (fun a => Fr S_X9_plansOf_9 h a.2)) : ∀ (n : Nat) (h : HS) (x1 : Int32) (x2 : Int32) (x3 : Int32) (x4 : Int32) (x5 : Int32) (x6 : Int32) (x7 : Int32) (x8 : Int32), pk (f_X9_plansOf_48 k9 k25 n h x1 x2 x3 x4 x5 x6 x7 x8) (fun a => Fr S_X9_plansOf_9 h a.2) := by
  intro n
  induction n with
  | zero => intro h x1 x2 x3 x4 x5 x6 x7 x8; exact pk_none
  | succ n ih =>
    intro h x1 x2 x3 x4 x5 x6 x7 x8
    rw [f_X9_plansOf_48_s]
    refine pk_if (fun _ => ?_) (fun _ => ?_)
    · refine pk_if (fun _ => ?_) (fun _ => ?_)
      · exact pk_mono (w_f_X9_plansOf_101 k9 hk_k9 k25 hk_k25 h x1 x2 x3 x4 x6) (fun _ k => Fr_trans (Fr_refl _ h) k)
      · refine pk_if (fun _ => ?_) (fun _ => ?_)
        · exact pk_mono (w_f_X9_plansOf_101 k9 hk_k9 k25 hk_k25 h x1 x2 x3 x4 x6) (fun _ k => Fr_trans (Fr_refl _ h) k)
        · exact pk_mono (w_f_X9_plansOf_102 k9 hk_k9 k25 hk_k25 h x1 x2 x3 x4 x6 1) (fun _ k => Fr_trans (Fr_refl _ h) k)
    · refine pk_if (fun _ => ?_) (fun _ => ?_)
      · refine pk_chk (fun _ => ?_)
        refine pk_if (fun _ => ?_) (fun _ => ?_)
        · exact pk_mono (w_f_X9_plansOf_74 k9 hk_k9 k25 hk_k25 (f_X9_plansOf_48 k9 k25 n) ih h x1 x2 x3 x4 x5 x6 x8) (fun _ k => Fr_trans (Fr_refl _ h) k)
        · exact pk_mono (w_f_X9_plansOf_79 k9 hk_k9 k25 hk_k25 (f_X9_plansOf_48 k9 k25 n) ih h x1 x2 x3 x4 x5 x6 x8 0) (fun _ k => Fr_trans (Fr_refl _ h) k)
      · exact pk_mono (w_f_X9_plansOf_74 k9 hk_k9 k25 hk_k25 (f_X9_plansOf_48 k9 k25 n) ih h x1 x2 x3 x4 x5 x6 x8) (fun _ k => Fr_trans (Fr_refl _ h) k)
theorem fs_X9_triesDoings__X9_plansOf_9 : ∀ x ∈ S_X9_triesDoings, x ∈ S_X9_plansOf_9 := by decide
theorem w_f_X9_plansOf_25 (k9 : HS → Int32 → Int32 → Int32 → Option (Int32 × HS)) (hk_k9 : ∀ (h : HS) (x0 : Int32) (x1 : Int32) (x2 : Int32), pk (k9 h x0 x1 x2) (fun a => Fr S_X9_plansOf_9 h a.2)) : ∀ (n : Nat) (h : HS) (x1 : Int32) (x2 : Int32) (x3 : Int32) (x4 : Int32) (x5 : Int32) (x6 : Int32), pk (f_X9_plansOf_25 k9 n h x1 x2 x3 x4 x5 x6) (fun a => Fr S_X9_plansOf_9 h a.2) := by
  intro n
  induction n with
  | zero => intro h x1 x2 x3 x4 x5 x6; exact pk_none
  | succ n ih =>
    intro h x1 x2 x3 x4 x5 x6
    rw [f_X9_plansOf_25_s]
    refine pk_if (fun _ => ?_) (fun _ => ?_)
    · refine pk_if (fun _ => ?_) (fun _ => ?_)
      · exact pk_mono (w_f_X9_plansOf_145 k9 hk_k9 h x1 x2 x3) (fun _ k => Fr_trans (Fr_refl _ h) k)
      · refine pk_if (fun _ => ?_) (fun _ => ?_)
        · refine pk_ob1 (w_f_X9_triesDoings h x1 x2) (fun h_7 k_1 => ?_)
          replace k_1 := Fr_trans (Fr_refl _ h) (Fr_mono fs_X9_triesDoings__X9_plansOf_9 k_1)
          exact pk_mono (w_f_X9_plansOf_145 k9 hk_k9 h_7 x1 x2 x3) (fun _ k => Fr_trans k_1 k)
        · exact pk_mono (w_f_X9_plansOf_145 k9 hk_k9 h x1 x2 x3) (fun _ k => Fr_trans (Fr_refl _ h) k)
    · refine pk_if (fun _ => ?_) (fun _ => ?_)
      · exact pk_mono (w_f_X9_plansOf_48 k9 hk_k9 (f_X9_plansOf_25 k9 n) ih 8589934592 h x1 x2 x3 x4 x5 x6 0 0) (fun _ k => Fr_trans (Fr_refl _ h) k)
      · exact pk_mono (w_f_X9_plansOf_122 k9 hk_k9 (f_X9_plansOf_25 k9 n) ih h x1 x2 x3 x4 x5 x6) (fun _ k => Fr_trans (Fr_refl _ h) k)
theorem fs_X9_plansOf_167__X9_plansOf_9 : ∀ x ∈ S_X9_plansOf_167, x ∈ S_X9_plansOf_9 := by decide
theorem w_f_X9_plansOf_9  : ∀ (n : Nat) (h : HS) (x1 : Int32) (x2 : Int32) (x3 : Int32), pk (f_X9_plansOf_9  n h x1 x2 x3) (fun a => Fr S_X9_plansOf_9 h a.2) := by
  intro n
  induction n with
  | zero => intro h x1 x2 x3; exact pk_none
  | succ n ih =>
    intro h x1 x2 x3
    rw [f_X9_plansOf_9_s]
    refine pk_if (fun _ => ?_) (fun _ => ?_)
    · refine pk_if (fun _ => ?_) (fun _ => ?_)
      · exact pk_mono (w_f_X9_plansOf_167 h 0) (fun _ k => Fr_trans (Fr_refl _ h) (Fr_mono fs_X9_plansOf_167__X9_plansOf_9 k))
      · exact pk_mono (w_f_X9_plansOf_167 h 1) (fun _ k => Fr_trans (Fr_refl _ h) (Fr_mono fs_X9_plansOf_167__X9_plansOf_9 k))
    · exact pk_mono (w_f_X9_plansOf_25 (f_X9_plansOf_9 n) ih 8589934592 h x1 x2 x3 0 1 0) (fun _ k => Fr_trans (Fr_refl _ h) k)
def S_X9_plansOf : CL := [(1, 0, 48), (1, 0, 49), (1, 0, 50), (1, 0, 51), (2, 0, 52), (3, 0, 41), (3, 0, 42)]
theorem fm_X9_plansOf_2_0_52 : (2, 0, 52) ∈ S_X9_plansOf := by decide
theorem fs_X9_plansOf_9__X9_plansOf : ∀ x ∈ S_X9_plansOf_9, x ∈ S_X9_plansOf := by decide
theorem w_f_X9_plansOf (h : HS) (p1 : Int32) (p2 : Int32) : pk (f_X9_plansOf h p1 p2) (fun a => Fr S_X9_plansOf h a.2) := by
  unfold f_X9_plansOf
  exact pk_mono (w_f_X9_plansOf_9 8589934592 (sL h 0 52 (-1)) p1 p2 0) (fun _ k => Fr_trans (Fr_sL fm_X9_plansOf_2_0_52 (Fr_refl _ h)) (Fr_mono fs_X9_plansOf_9__X9_plansOf k))
def S_X9_plan_30 : CL := []
theorem w_f_X9_plan_30 (h : HS) : pk (f_X9_plan_30 h) (fun a => Fr S_X9_plan_30 h a.2) := by
  unfold f_X9_plan_30
  exact pk_some (Fr_refl _ h)
def S_X9_plan_131 : CL := []
theorem w_f_X9_plan_131 (h : HS) (x5 : Int32) : pk (f_X9_plan_131 h x5) (fun a => Fr S_X9_plan_131 h a.2) := by
  unfold f_X9_plan_131
  exact pk_some (Fr_refl _ h)
def S_X9_plan_73 : CL := []
theorem w_f_X9_plan_123 (k73 : HS → Int32 → Int32 → Int32 → Int32 → Option (Int32 × HS)) (hk_k73 : ∀ (h : HS) (x0 : Int32) (x1 : Int32) (x2 : Int32) (x3 : Int32), pk (k73 h x0 x1 x2 x3) (fun a => Fr S_X9_plan_73 h a.2)) (h : HS) (x3 : Int32) (x4 : Int32) (x6 : Int32) (y0 : Int32) : pk (f_X9_plan_123 k73 h x3 x4 x6 y0) (fun a => Fr S_X9_plan_73 h a.2) := by
  unfold f_X9_plan_123
  exact pk_mono (hk_k73 h x3 x4 y0 (x6 + 1)) (fun _ k => Fr_trans (Fr_refl _ h) k)
theorem fs_X9_plan_131__X9_plan_73 : ∀ x ∈ S_X9_plan_131, x ∈ S_X9_plan_73 := by decide
theorem w_f_X9_plan_73  : ∀ (n : Nat) (h : HS) (x3 : Int32) (x4 : Int32) (x5 : Int32) (x6 : Int32), pk (f_X9_plan_73  n h x3 x4 x5 x6) (fun a => Fr S_X9_plan_73 h a.2) := by
  intro n
  induction n with
  | zero => intro h x3 x4 x5 x6; exact pk_none
  | succ n ih =>
    intro h x3 x4 x5 x6
    rw [f_X9_plan_73_s]
    refine pk_if (fun _ => ?_) (fun _ => ?_)
    · exact pk_mono (w_f_X9_plan_131 h x5) (fun _ k => Fr_trans (Fr_refl _ h) (Fr_mono fs_X9_plan_131__X9_plan_73 k))
    · refine pk_if (fun _ => ?_) (fun _ => ?_)
      · exact pk_mono (w_f_X9_plan_131 h x5) (fun _ k => Fr_trans (Fr_refl _ h) (Fr_mono fs_X9_plan_131__X9_plan_73 k))
      · refine pk_chk (fun _ => ?_)
        refine pk_if (fun _ => ?_) (fun _ => ?_)
        · refine pk_chk (fun _ => ?_)
          refine pk_chk (fun _ => ?_)
          exact pk_mono (w_f_X9_plan_123 (f_X9_plan_73 n) ih h x3 x4 x6 ((10 * (((eA h 0 51) ((x6).toNatClampNeg)) / 3)) + (((eA h 0 51) ((x6).toNatClampNeg)) - ((eA h 0 51) ((x6).toNatClampNeg)) / 3 * 3))) (fun _ k => Fr_trans (Fr_refl _ h) k)
        · exact pk_mono (w_f_X9_plan_123 (f_X9_plan_73 n) ih h x3 x4 x6 x5) (fun _ k => Fr_trans (Fr_refl _ h) k)
def S_X9_plan_68 : CL := []
theorem fs_X9_plan_73__X9_plan_68 : ∀ x ∈ S_X9_plan_73, x ∈ S_X9_plan_68 := by decide
theorem w_f_X9_plan_68 (h : HS) (x3 : Int32) (x4 : Int32) (y0 : Int32) : pk (f_X9_plan_68 h x3 x4 y0) (fun a => Fr S_X9_plan_68 h a.2) := by
  unfold f_X9_plan_68
  exact pk_mono (w_f_X9_plan_73 8589934592 h x3 x4 y0 0) (fun _ k => Fr_trans (Fr_refl _ h) (Fr_mono fs_X9_plan_73__X9_plan_68 k))
def S_X9_plan_41 : CL := [(1, 0, 48), (1, 0, 49), (1, 0, 50), (1, 0, 51), (2, 0, 52), (3, 0, 41), (3, 0, 42)]
theorem fs_X9_plansOf__X9_plan_41 : ∀ x ∈ S_X9_plansOf, x ∈ S_X9_plan_41 := by decide
theorem fs_X9_plan_68__X9_plan_41 : ∀ x ∈ S_X9_plan_68, x ∈ S_X9_plan_41 := by decide
theorem w_f_X9_plan_41  : ∀ (n : Nat) (h : HS) (x2 : Int32) (x3 : Int32) (x4 : Int32), pk (f_X9_plan_41  n h x2 x3 x4) (fun a => Fr S_X9_plan_41 h a.2) := by
  intro n
  induction n with
  | zero => intro h x2 x3 x4; exact pk_none
  | succ n ih =>
    intro h x2 x3 x4
    rw [f_X9_plan_41_s]
    refine pk_if (fun _ => ?_) (fun _ => ?_)
    · exact pk_some (Fr_refl _ h)
    · refine pk_ob2 (w_f_X9_plansOf h x4 x2) (fun r_10 h_10 k_1 => ?_)
      replace k_1 := Fr_trans (Fr_refl _ h) (Fr_mono fs_X9_plansOf__X9_plan_41 k_1)
      refine pk_if (fun _ => ?_) (fun _ => ?_)
      · exact pk_mono (ih h_10 x2 x3 (x4 + 1)) (fun _ k => Fr_trans k_1 k)
      · refine pk_if (fun _ => ?_) (fun _ => ?_)
        · exact pk_mono (w_f_X9_plan_68 h_10 x3 x4 x4) (fun _ k => Fr_trans k_1 (Fr_mono fs_X9_plan_68__X9_plan_41 k))
        · exact pk_mono (w_f_X9_plan_68 h_10 x3 x4 (-1)) (fun _ k => Fr_trans k_1 (Fr_mono fs_X9_plan_68__X9_plan_41 k))
def S_X9_plan_33 : CL := [(0, 0, 47), (1, 0, 39), (1, 0, 43), (1, 0, 44), (1, 0, 45), (1, 0, 46), (1, 0, 48), (1, 0, 49), (1, 0, 50), (1, 0, 51), (2, 0, 52), (3, 0, 40), (3, 0, 41), (3, 0, 42)]
theorem fs_X9_laysFlock__X9_plan_33 : ∀ x ∈ S_X9_laysFlock, x ∈ S_X9_plan_33 := by decide
theorem fs_X9_plan_41__X9_plan_33 : ∀ x ∈ S_X9_plan_41, x ∈ S_X9_plan_33 := by decide
theorem w_f_X9_plan_33 (h : HS) (x1 : Int32) (x2 : Int32) (x3 : Int32) : pk (f_X9_plan_33 h x1 x2 x3) (fun a => Fr S_X9_plan_33 h a.2) := by
  unfold f_X9_plan_33
  refine pk_ob1 (w_f_X9_laysFlock h x1) (fun h_8 k_1 => ?_)
  replace k_1 := Fr_trans (Fr_refl _ h) (Fr_mono fs_X9_laysFlock__X9_plan_33 k_1)
  exact pk_mono (w_f_X9_plan_41 8589934592 h_8 x2 x3 1) (fun _ k => Fr_trans k_1 (Fr_mono fs_X9_plan_41__X9_plan_33 k))
def S_X9_plan : CL := [(0, 0, 47), (1, 0, 39), (1, 0, 43), (1, 0, 44), (1, 0, 45), (1, 0, 46), (1, 0, 48), (1, 0, 49), (1, 0, 50), (1, 0, 51), (2, 0, 52), (3, 0, 40), (3, 0, 41), (3, 0, 42)]
theorem fs_X9_plan_30__X9_plan : ∀ x ∈ S_X9_plan_30, x ∈ S_X9_plan := by decide
theorem fs_X9_plan_33__X9_plan : ∀ x ∈ S_X9_plan_33, x ∈ S_X9_plan := by decide
theorem fs_X9_isGoose__X9_plan : ∀ x ∈ S_X9_isGoose, x ∈ S_X9_plan := by decide
theorem w_f_X9_plan (h : HS) (p1 : Int32) (p2 : Int32) (p3 : Int32) : pk (f_X9_plan h p1 p2 p3) (fun a => Fr S_X9_plan h a.2) := by
  unfold f_X9_plan
  refine pk_obf (fun r_1 => ?_)
  refine pk_if (fun _ => ?_) (fun _ => ?_)
  · exact pk_mono (w_f_X9_plan_30 h) (fun _ k => Fr_trans (Fr_refl _ h) (Fr_mono fs_X9_plan_30__X9_plan k))
  · refine pk_obf (fun r_3 => ?_)
    refine pk_if (fun _ => ?_) (fun _ => ?_)
    · exact pk_mono (w_f_X9_plan_30 h) (fun _ k => Fr_trans (Fr_refl _ h) (Fr_mono fs_X9_plan_30__X9_plan k))
    · refine pk_if (fun _ => ?_) (fun _ => ?_)
      · exact pk_mono (w_f_X9_plan_33 h p1 p2 p3) (fun _ k => Fr_trans (Fr_refl _ h) (Fr_mono fs_X9_plan_33__X9_plan k))
      · refine pk_ob2 (w_f_X9_isGoose h p3) (fun r_6 h_6 k_1 => ?_)
        replace k_1 := Fr_trans (Fr_refl _ h) (Fr_mono fs_X9_isGoose__X9_plan k_1)
        refine pk_if (fun _ => ?_) (fun _ => ?_)
        · exact pk_mono (w_f_X9_plan_30 h_6) (fun _ k => Fr_trans k_1 (Fr_mono fs_X9_plan_30__X9_plan k))
        · exact pk_mono (w_f_X9_plan_33 h_6 p1 p2 p3) (fun _ k => Fr_trans k_1 (Fr_mono fs_X9_plan_33__X9_plan k))
