theorem u_opensSign (h : HS) (f : Int32) (b : HB h) (s : ¬ eI h 0 17 = 0) (h1 : 0 ≤ (eI h 0 22).toInt) (h2 : (eI h 0 22).toInt < 40) : ok (f_X9_opensSign h f) (fun a => (PF h a.2 ∧ 0 < (eI a.2 0 19).toInt) ∨ ((eI h 0 21).toInt ≤ 7 ∧ NX (OF (sI h 0 21 (eI h 0 21 + 1)) f) a.2 ∧ HB a.2 ∧ (eI h 0 16).toInt + 1 ≤ (eI a.2 0 16).toInt)) := by
  unfold f_X9_opensSign
  have z8 : (8 : Int32).toInt = 8 := rfl; have z1 : (1 : Int32).toInt = 1 := rfl
  refine ok_if (fun c => ?_) (fun c => ?_)
  · exact ok_ob1 (u_errs 3 (by decide) (by rw [b.1]; decide)) (fun h4 k4 => ok_some (Or.inl k4))
  have d := gi_of_ne c
  have o := b.2.2.1
  have e1 : (eI h 0 21 + 1).toInt = (eI h 0 21).toInt + 1 := by rw [fb_addI (by omega) (by omega), z1]
  rw [of_eq (h := sI h 0 21 (eI h 0 21 + 1)) (f := f) h1 h2]
  show ok (ob1 (f_X9_next (OF (sI h 0 21 (eI h 0 21 + 1)) f)) _) _
  have bc : HB (OF (sI h 0 21 (eI h 0 21 + 1)) f) := ⟨b.1, b.2.1, by show 0 ≤ (eI h 0 21 + 1).toInt ∧ (eI h 0 21 + 1).toInt ≤ 8; omega, b.2.2.2⟩
  refine ok_ob1 (u_nextB _ bc) (fun h3 k3 => ok_some (Or.inr ⟨by omega, k3.1, k3.2.1, ?_⟩))
  have t1 := b.2.1.2.2.2.2.1 s
  have : (eI h 0 15).toInt ≤ (eI h3 0 16).toInt := k3.2.2
  show (eI h 0 16).toInt + 1 ≤ (eI h3 0 16).toInt
  omega
theorem PF_open {h a : HS} {x f : Int32} (n : NX (OF (sI h 0 21 x) f) a) : PF h a := PF_NX (PF_OF (PF_sI (PF_refl h) (by omega))) n
theorem opened1 {h a : HS} {f : Int32} {r : Int} (hf : f = 6 ∨ f = 7) (b : HB h) (p : P1 h r) (s1 : eI h 0 28 = 1) (o7 : (eI h 0 21).toInt ≤ 7) (n : NX (OF (sI h 0 21 (eI h 0 21 + 1)) f) a) (ba : HB a) (t : (eI h 0 16).toInt + 1 ≤ (eI a 0 16).toInt) : PQ h a := by
  obtain ⟨q, k, c, n23⟩ := p
  have o := OPS_r q
  have z1 : (1 : Int32).toInt = 1 := rfl
  have e1 : (eI h 0 21 + 1).toInt = (eI h 0 21).toInt + 1 := by rw [fb_addI (by omega) (by omega), z1]
  have e2 := of_no (h := h) (by omega) (by omega)
  have f21 : (eI a 0 21).toInt = (eI h 0 21).toInt + 1 := by rw [n.1 21 (by omega)]; exact e1
  have f22 : (eI a 0 22).toInt = (eI h 0 22).toInt + 1 := by rw [n.1 22 (by omega)]; exact e2
  have f23 : eA a 0 23 = upd (eA h 0 23) (eI h 0 22).toInt.toNat f := n.2 23
  have f24 : eA a 0 24 = eA h 0 24 := n.2 24
  have f28 : eI a 0 28 = 1 := (n.1 28 (by omega)).trans s1
  have ⟨_, m2, m3, m4, _⟩ := ba.2.1
  refine ⟨PF_open n, Or.inr ⟨⟨ba, Or.inr (Or.inl ⟨f28, r, ?_, ?_, ?_, ?_⟩)⟩, ms_lt (Or.inl s1) t⟩⟩
  · unfold HF
    rw [f21, f22, f23, f24]
    obtain ⟨i, h1, h2, h3⟩ := q
    have un : ∀ j : Nat, (j : Int) < (eI h 0 22).toInt → upd (eA h 0 23) (eI h 0 22).toInt.toNat f j = eA h 0 23 j := fun j hj => upd_no (by omega)
    refine ⟨i, by omega, fun j hj hj2 => ?_, ?_⟩
    · by_cases e : j = (eI h 0 22).toInt.toNat
      · rw [e, upd_at]; exact hf
      · rw [un j (by omega)]; exact h2 j hj (by omega)
    · rw [un i h1, un 0 (by omega)]
      rcases h3 with ⟨x0, x1, x2, x3⟩ | ⟨x0, x1, x2, x3, x4⟩
      · exact Or.inl ⟨x0, x1, by omega, x3⟩
      · exact Or.inr ⟨x0, x1, fun j hj hj2 => by rw [un j (by omega)]; exact x2 j hj hj2, by omega, x4⟩
  · have k2 : HK (OF (sI h 0 21 (eI h 0 21 + 1)) f) ((eI h 0 21).toInt + r) := HK_OF (h := sI h 0 21 (eI h 0 21 + 1)) k (show 0 ≤ (eI h 0 22).toInt by omega) (show (eI h 0 22).toInt ≤ 9 by omega)
    refine HK_NX k2 n ?_ (by omega)
    show (eI h 0 16).toInt + _ ≤ _
    omega
  · exact HC_NX (h := OF (sI h 0 21 (eI h 0 21 + 1)) f) c n
  · rw [n.1 29 (by omega)]; exact n23
/-! begins -/
theorem u_begins (h : HS) (b : HB h) (s1 : eI h 0 28 = 1) {r : Int} (p : P1 h r) : ok (f_X9_begins h) (fun a => PQ h a) := by
  have o := OPS_r p.1
  have l := b.2.1
  have hb := b.2.2.1
  have k := p.2.1
  have w40 := WT_le k.2.1 k.2.2.2.2.2.2
  have kw := k.1; have kn := k.2.2.1; have kt := k.2.2.2.1; have kt2 := k.2.2.2.2.1
  have em : ∀ (x y : Int32), (¬ eI h 0 17 = 0) → ST x y ((eI h 0 25).toInt + r) ((eI h 0 25).toInt + (r + 1)) → ok (ob1 (f_X9_emits h x y) (fun h_8 => ob1 (f_X9_next h_8) (fun h_9 => ob1 (f_X9_oneIsOver h_9) (fun h_10 => f_X9_begins_154 h_10)))) (fun a => PQ h a) := by
    intro x y s st
    rw [em_eq (h := h) (o := x) (v := y) kn (by omega)]
    show ok (ob1 (f_X9_next (EM h x y)) _) _
    have k2 : HK (EM h x y) ((eI h 0 21).toInt + r - 1) := HK_em (by rw [Int.sub_add_cancel]; exact k) (by omega)
    have c2 : HC (EM h x y) (r + 1) := HC_em k (by omega) p.2.2.1 st
    have bc : HB (EM h x y) := ⟨b.1, b.2.1, b.2.2.1, b.2.2.2⟩
    refine ok_ob1 (u_nextB _ bc) (fun h9 k9 => ?_)
    have nx := HK_next k2 bc k9.1 k9.2.1 k9.2.2 s
    have e1 : (eI h 0 21).toInt + r - 1 + 1 = (eI h 0 21).toInt + r := by omega
    have f21 : eI h9 0 21 = eI h 0 21 := k9.1.1 21 (by omega)
    have f22 : eI h9 0 22 = eI h 0 22 := k9.1.1 22 (by omega)
    have f29 : eI h9 0 29 = eI h 0 29 := k9.1.1 29 (by omega)
    have f23 : eA h9 0 23 = eA h 0 23 := k9.1.2 23
    have f24 : eA h9 0 24 = eA h 0 24 := k9.1.2 24
    have p9 : P2 h9 r := by
      refine ⟨?_, ?_, HC_NX c2 k9.1, ?_⟩
      · unfold HF; rw [f21, f22, f23, f24]; exact p.1
      · rw [f21, ← e1]; exact nx.1
      · rw [f29]; exact p.2.2.2
    refine ok_ob1 (u_oneIsOver (h := h) h9 r (PF_NX (PF_EM (PF_refl h)) k9.1) k9.2.1 p9) (fun a ka => ?_)
    unfold f_X9_begins_154
    obtain ⟨a1, a2, a3, a4, a5, a6⟩ := ka
    refine ok_some ⟨a1, Or.inr ⟨⟨a2, Or.inr (Or.inr (Or.inl ⟨a3, a4, a5⟩))⟩, ms_lt (Or.inl s1) ?_⟩⟩
    rw [a6]; exact nx.2
  have sg : ok (f_X9_begins_111 h) (fun a => PQ h a) := by
    unfold f_X9_begins_111 f_X9_begins_154
    refine ok_ob2 (u_X9_isSign h 40) (fun r1 h1 k1 => ?_)
    have e1 : h = h1 := k1.1.symm
    subst e1
    refine ok_if (fun c => ?_) (fun c => ?_)
    · refine ok_ob2 (u_X9_isSign h 45) (fun r2 h2 k2 => ?_)
      have e2 : h = h2 := k2.1.symm
      subst e2
      refine ok_if (fun c => ok_ob1 (err_ok 1 (by decide) b) (fun a ka => ok_some ka)) (fun c2 => ?_)
      have s := (k2.2.2 c2).1
      refine ok_ob2 (u_opensSign h 7 b (by rw [s]; decide) (by omega) (by omega)) (fun r3 a ka => ok_some ?_)
      rcases ka with ka | ⟨x1, x2, x3, x4⟩
      · exact ⟨ka.1, Or.inl ka.2⟩
      · exact opened1 (Or.inr rfl) b p s1 x1 x2 x3 x4
    · have s := (k1.2.2 c).1
      refine ok_ob2 (u_opensSign h 6 b (by rw [s]; decide) (by omega) (by omega)) (fun r3 a ka => ok_some ?_)
      rcases ka with ka | ⟨x1, x2, x3, x4⟩
      · exact ⟨ka.1, Or.inl ka.2⟩
      · exact opened1 (Or.inl rfl) b p s1 x1 x2 x3 x4
  unfold f_X9_begins
  refine ok_if (fun c => ok_if (fun c2 => ?_) (fun c2 => ok_ob1 (err_ok 2 (by decide) b) (fun a ka => ok_some ka))) (fun c => ?_)
  · exact em 400 _ (by rw [c]; decide) (Or.inl ⟨Or.inl rfl, by omega, by omega, by omega⟩)
  refine ok_if (fun c1 => ok_if (fun c2 => sg) (fun c2 => ?_)) (fun c1 => sg)
  have d2 := gi_of_nle c2
  have lt := l.2.2.2.2.2 c1
  have z12 : (12 : Int32).toInt = 12 := rfl; have z1 : (1 : Int32).toInt = 1 := rfl
  have e1 : (eI h 0 18 - 12).toInt = (eI h 0 18).toInt - 12 := by rw [fb_subI (by omega) (by omega), z12]
  have e2 : (eI h 0 18 - 12 - 1).toInt = (eI h 0 18).toInt - 13 := by rw [fb_subI (by omega) (by omega), z1]; omega
  generalize eI h 0 18 - 12 - 1 = y at *
  have go : ok (f_X9_begins_92 h y) (fun a => PQ h a) := by
    unfold f_X9_begins_92
    exact em 401 y (by rw [c1]; decide) (Or.inl ⟨Or.inr ⟨rfl, by omega, by omega⟩, by omega, by omega, by omega⟩)
  exact ok_if (fun c => go) (fun c => ok_if (fun c => go) (fun c => ok_ob1 (err_ok 5 (by decide) b) (fun a ka => ok_some ka)))
/-! asks -/
theorem u_asks (h : HS) (b : HB h) (p : P0 h) : ok (f_X9_asks h) (fun a => PQ h a) := by
  unfold f_X9_asks f_X9_asks_28
  obtain ⟨s0, n, k, c, n23⟩ := p
  obtain ⟨n1, n2, n3, n4⟩ := n
  have hb := b.2.2.1
  have z1 : (1 : Int32).toInt = 1 := rfl
  refine ok_ob2 (u_X9_isWord h 12) (fun r1 h1 k1 => ?_)
  have e1 : h = h1 := k1.1.symm
  subst e1
  refine ok_if (fun c1 => ?_) (fun c1 => ?_)
  · rw [of_eq (h := h) (f := 4) (by omega) (by omega)]
    show ok (some (sI (OF h 4) 0 28 1)) _
    have e2 := of_no (h := h) (by omega) (by omega)
    refine ok_some ⟨PF_sI (PF_OF (PF_refl h)) (by omega), Or.inr ⟨⟨⟨b.1, b.2.1, b.2.2.1, b.2.2.2⟩, Or.inr (Or.inl ⟨rfl, 0, ?_, ?_, c, n23⟩)⟩, ?_⟩⟩
    · show OPS (eI h 0 22 + 1).toInt (eI h 0 21).toInt 0 (upd (eA h 0 23) (eI h 0 22).toInt.toNat 4) (eA h 0 24)
      rw [e2]
      refine ⟨(eI h 0 22).toInt.toNat, by omega, fun i hi hi2 => absurd hi (by omega), Or.inr ⟨by omega, ?_, fun i hi hi2 => ?_, by omega, Or.inl ⟨upd_at, rfl⟩⟩⟩
      · rw [upd_no (by omega)]; exact n3
      · rw [upd_no (by omega)]; exact n4 i hi (by omega)
    · have := HK_OF (f := 4) k (by omega) (by omega)
      show HK (OF h 4) ((eI h 0 21).toInt + 0)
      rw [Int.add_zero]; exact this
    · show MS (sI (OF h 4) 0 28 1) < MS h
      show 2 * (300 - (eI h 0 16).toInt) + (if (1 : Int32) = 0 ∨ (1 : Int32) = 2 then 1 else 0) < 2 * (300 - (eI h 0 16).toInt) + (if eI h 0 28 = 0 ∨ eI h 0 28 = 2 then 1 else 0)
      rw [if_pos (Or.inl s0), if_neg (by decide)]; omega
  · have s := (k1.2.2 c1).1
    refine ok_ob2 (u_opensSign h 3 b (by rw [s]; decide) (by omega) (by omega)) (fun r3 a ka => ok_some ?_)
    rcases ka with ka | ⟨o7, n, ba, t⟩
    · exact ⟨ka.1, Or.inl ka.2⟩
    · have n : NX (OF (sI h 0 21 (eI h 0 21 + 1)) 3) a := n
      have ba : HB a := ba
      have t : (eI h 0 16).toInt + 1 ≤ (eI a 0 16).toInt := t
      have e1 : (eI h 0 21 + 1).toInt = (eI h 0 21).toInt + 1 := by rw [fb_addI (by omega) (by omega), z1]
      have e2 := of_no (h := h) (by omega) (by omega)
      have f21 : (eI a 0 21).toInt = (eI h 0 21).toInt + 1 := by rw [n.1 21 (by omega)]; exact e1
      have f22 : (eI a 0 22).toInt = (eI h 0 22).toInt + 1 := by rw [n.1 22 (by omega)]; exact e2
      have f23 : eA a 0 23 = upd (eA h 0 23) (eI h 0 22).toInt.toNat 3 := n.2 23
      have f28 : eI a 0 28 = 0 := (n.1 28 (by omega)).trans s0
      have ⟨_, m2, m3, m4, _⟩ := ba.2.1
      refine ⟨PF_open n, Or.inr ⟨⟨ba, Or.inl ⟨f28, ?_, ?_, ?_, ?_⟩⟩, ms_lt (Or.inr (Or.inr (Or.inr trivial))) t⟩⟩
      · unfold HN
        rw [f21, f22, f23]
        refine ⟨by omega, by omega, ?_, fun i hi hi2 => ?_⟩
        · rw [upd_no (by omega)]; exact n3
        · by_cases e : i = (eI h 0 22).toInt.toNat
          · rw [e, upd_at]
          · rw [upd_no e]; exact n4 i hi (by omega)
      · rw [f21]
        have k2 : HK (OF (sI h 0 21 (eI h 0 21 + 1)) 3) (eI h 0 21).toInt := HK_OF (h := sI h 0 21 (eI h 0 21 + 1)) k (show 0 ≤ (eI h 0 22).toInt by omega) (show (eI h 0 22).toInt ≤ 9 by omega)
        refine HK_NX k2 n ?_ (by omega)
        show (eI h 0 16).toInt + _ ≤ _
        omega
      · exact HC_NX (h := OF (sI h 0 21 (eI h 0 21 + 1)) 3) c n
      · rw [n.1 29 (by omega)]; exact n23
/-! waitsFor -/
theorem u_waitsFor (h : HS) (o : Int32) {d b : Int} (bh : HB h) (s : ¬ eI h 0 17 = 0) (hd : 0 ≤ d ∧ d ≤ 2) (hb : 0 ≤ b) (k : HK h b) (c : HC h (d + 1)) (bn : BN o) (hF : 1 ≤ (eI h 0 22).toInt) (h1 : 3 ≤ rk o ∨ eA h 0 23 ((eI h 0 22).toInt.toNat - 1) = 2) (h3 : ¬ eA h 0 23 ((eI h 0 22).toInt.toNat - 1) = 3) (h7 : ¬ eA h 0 23 ((eI h 0 22).toInt.toNat - 1) = 7) : ok (f_X9_waitsFor h o) (fun a => PF h a ∧ HB a ∧ HK a b ∧ HC a d ∧ (eI h 0 16).toInt + 1 ≤ (eI a 0 16).toInt ∧ eI a 0 21 = eI h 0 21 ∧ eI a 0 22 = eI h 0 22 ∧ eI a 0 29 = eI h 0 29 ∧ eA a 0 23 = eA h 0 23 ∧ eA a 0 24 = eA h 0 24) := by
  unfold f_X9_waitsFor
  refine ok_ob1 (u_rank o) (fun r1 k1 => ?_)
  refine ok_ob1 (u_works r1 (by omega) hb k c) (fun h2 k2 => ?_)
  obtain ⟨fe, hk, hc, tp⟩ := k2
  obtain ⟨q1, q2, q3, q4, q5, q6, q7⟩ := hk
  have w40 := WT_le q2 q7
  have z1 : (1 : Int32).toInt = 1 := rfl
  have f16 : eI h2 0 16 = eI h 0 16 := fe.1 16 (by omega) (by omega)
  have f22 : eI h2 0 22 = eI h 0 22 := fe.1 22 (by omega) (by omega)
  have f23 : eA h2 0 23 = eA h 0 23 := fe.2 23 (by omega) (by omega)
  have b25 : (eI h2 0 25).toNatClampNeg = (eI h2 0 25).toInt.toNat := by rw [Int32.toNatClampNeg]
  have a25 : (eI h2 0 25 + 1).toInt = (eI h2 0 25).toInt + 1 := by rw [fb_addI (by omega) (by omega), z1]
  refine ok_chk (by omega) (ok_chk (by omega) ?_)
  rw [b25]
  rw [k1] at tp
  have b2 : HB h2 := by
    unfold HB LX
    rw [fe.1 19 (by omega) (by omega), fe.1 16 (by omega) (by omega), fe.1 15 (by omega) (by omega), fe.1 14 (by omega) (by omega), fe.1 17 (by omega) (by omega), fe.1 18 (by omega) (by omega), fe.1 21 (by omega) (by omega), fe.1 29 (by omega) (by omega)]
    exact bh
  have k3 : HK (sI (sA (sA h2 0 26 (upd (eA h2 0 26) (eI h2 0 25).toInt.toNat o)) 0 27 (upd (eA h2 0 27) (eI h2 0 25).toInt.toNat (eI h2 0 22))) 0 25 (eI h2 0 25 + 1)) (b - 1) := by
    show K0 (eI h2 0 16).toInt (eI h2 0 25 + 1).toInt (eI h2 0 36).toInt (eI h2 0 29).toInt (eI h2 0 22).toInt (b - 1) (eA h2 0 23) (upd (eA h2 0 26) (eI h2 0 25).toInt.toNat o) (upd (eA h2 0 27) (eI h2 0 25).toInt.toNat (eI h2 0 22)) (eA h2 0 31) (eA h2 0 32) (eA h2 0 37) (eA h2 0 38)
    rw [a25]
    refine ⟨by omega, WT_push q2 q1 rfl (by rw [f22]; exact hF) bn (by rw [f22, f23]; exact h1) (by rw [f22, f23]; exact h3) (by rw [f22, f23]; exact h7) tp, q3, by omega, q5, q6, q7⟩
  have c3 : HC (sI (sA (sA h2 0 26 (upd (eA h2 0 26) (eI h2 0 25).toInt.toNat o)) 0 27 (upd (eA h2 0 27) (eI h2 0 25).toInt.toNat (eI h2 0 22))) 0 25 (eI h2 0 25 + 1)) d := by
    show CUR (eI h2 0 36).toInt ((eI h2 0 25 + 1).toInt + d) (eA h2 0 32 (eI h2 0 29).toInt.toNat).toInt (eA h2 0 37) (eA h2 0 38)
    have e : (eI h2 0 25 + 1).toInt + d = (eI h2 0 25).toInt + (d + 1) := by omega
    rw [e]; exact hc
  have b3 : HB (sI (sA (sA h2 0 26 (upd (eA h2 0 26) (eI h2 0 25).toInt.toNat o)) 0 27 (upd (eA h2 0 27) (eI h2 0 25).toInt.toNat (eI h2 0 22))) 0 25 (eI h2 0 25 + 1)) := b2
  refine ok_ob1 (u_nextB _ b3) (fun h5 k5 => ok_some ?_)
  have s2 : ¬ eI h2 0 17 = 0 := by rw [fe.1 17 (by omega) (by omega)]; exact s
  have nx := HK_next k3 b3 k5.1 k5.2.1 k5.2.2 s2
  have e1 : b - 1 + 1 = b := by omega
  rw [e1] at nx
  refine ⟨PF_NX (PF_sI (PF_sA (PF_sA (PF_FE fe) (by omega)) (by omega)) (by omega)) k5.1, k5.2.1, nx.1, HC_NX c3 k5.1, ?_, ?_, ?_, ?_, ?_, ?_⟩
  · have : (eI h2 0 16).toInt + 1 ≤ (eI h5 0 16).toInt := nx.2
    rw [f16] at this; exact this
  · exact (k5.1.1 21 (by omega)).trans (fe.1 21 (by omega) (by omega))
  · exact (k5.1.1 22 (by omega)).trans f22
  · exact (k5.1.1 29 (by omega)).trans (fe.1 29 (by omega) (by omega))
  · exact (k5.1.2 23).trans f23
  · exact (k5.1.2 24).trans (fe.2 24 (by omega) (by omega))
/-! a clause is over -/
theorem over_tail {h c : HS} (f : PF h c) (b : HB c) (s : ¬ eI c 0 17 = 0) (k : HK c 0) (w : (eI c 0 25).toInt = 0) (hF : (eI c 0 22).toInt = 0) (hO : (eI c 0 21).toInt = 0) (n23 : (eI c 0 29).toInt ≤ 23) (cu : 4 ≤ (eA c 0 31 (eI c 0 29).toInt.toNat).toInt ∨ ∃ d, CUR (eI c 0 36).toInt d (eA c 0 32 (eI c 0 29).toInt.toNat).toInt (eA c 0 37) (eA c 0 38)) : ok (ob1 (f_X9_emits c 408 0) (fun h_2 => ob1 (f_X9_next (sI h_2 0 29 ((eI h_2 0 29) + 1))) (fun h_3 => some (sI h_3 0 28 4)))) (fun a => PF h a ∧ PI a ∧ (eI c 0 16).toInt + 1 ≤ (eI a 0 16).toInt) := by
  have z1 : (1 : Int32).toInt = 1 := rfl
  have nb := b.2.2.2
  have a29 : (eI c 0 29 + 1).toInt = (eI c 0 29).toInt + 1 := by rw [fb_addI (by omega) (by omega), z1]
  rw [em_eq (h := c) (o := 408) (v := 0) k.2.2.1 (by have := k.2.2.2; omega)]
  show ok (ob1 (f_X9_next (sI (EM c 408 0) 0 29 (eI c 0 29 + 1))) _) _
  have k2 : HK (EM c 408 0) (-1) := HK_em k (by omega)
  have kn := k.2.2.1; have kt := k.2.2.2.1; have kt2 := k.2.2.2.2.1
  have en := em_no (h := c) kn (by omega)
  have k3 : HK (sI (EM c 408 0) 0 29 (eI c 0 29 + 1)) (-1) := by
    obtain ⟨k1, k2, k3, k4, k5, k6, k7⟩ := k2
    show K0 (eI c 0 16).toInt (eI c 0 25).toInt (eI c 0 36 + 1).toInt (eI c 0 29 + 1).toInt (eI c 0 22).toInt (-1) (eA c 0 23) (eA c 0 26) (eA c 0 27) (eA c 0 31) (eA c 0 32) (upd (eA c 0 37) (eI c 0 36).toInt.toNat 408) (upd (eA c 0 38) (eI c 0 36).toInt.toNat 0)
    refine ⟨k1, k2, k3, k4, k5, ?_, k7⟩
    rw [a29]
    intro j hj hw
    by_cases e : (j : Int) < (eI c 0 29).toInt
    · exact k6 j e hw
    · have ej : j = (eI c 0 29).toInt.toNat := by omega
      subst ej
      rcases cu with cu | ⟨d, c0, c1, c2⟩
      · omega
      · refine ⟨c0, ((eI c 0 36).toInt - (eA c 0 32 (eI c 0 29).toInt.toNat).toInt).toNat, d, ?_, ?_, PO_keep c2 (fun i hi => upd_no (by omega)) (fun i hi => upd_no (by omega))⟩
        · rw [en]; omega
        · have e3 : (eA c 0 32 (eI c 0 29).toInt.toNat).toInt.toNat + ((eI c 0 36).toInt - (eA c 0 32 (eI c 0 29).toInt.toNat).toInt).toNat = (eI c 0 36).toInt.toNat := by omega
          rw [e3, upd_at]
  have b3 : HB (sI (EM c 408 0) 0 29 (eI c 0 29 + 1)) := ⟨b.1, b.2.1, b.2.2.1, by show 0 ≤ (eI c 0 29 + 1).toInt ∧ (eI c 0 29 + 1).toInt ≤ 24; omega⟩
  refine ok_ob1 (u_nextB _ b3) (fun h5 k5 => ok_some ?_)
  have nx := HK_next k3 b3 k5.1 k5.2.1 k5.2.2 (show ¬ eI c 0 17 = 0 from s)
  refine ⟨PF_sI (PF_NX (PF_sI (PF_EM f) (by omega)) k5.1) (by omega), ⟨⟨k5.2.1.1, k5.2.1.2.1, k5.2.1.2.2.1, k5.2.1.2.2.2⟩, Or.inr (Or.inr (Or.inr (Or.inr ⟨rfl, ?_, ?_, ?_, nx.1⟩)))⟩, nx.2⟩
  · show (eI h5 0 22).toInt = 0
    rw [k5.1.1 22 (by omega)]; exact hF
  · show (eI h5 0 21).toInt = 0
    rw [k5.1.1 21 (by omega)]; exact hO
  · show (eI h5 0 25).toInt = 0
    rw [k5.1.1 25 (by omega)]; exact w
theorem u_clauseIsOver (h : HS) (b : HB h) (s : ¬ eI h 0 17 = 0) (hF : (eI h 0 22).toInt = 1) (hO : (eI h 0 21).toInt = 0) (k : HK h 0) (c : HC h 1) (n23 : (eI h 0 29).toInt ≤ 23) : ok (f_X9_clauseIsOver h) (fun a => PF h a ∧ PI a ∧ (eI h 0 16).toInt + 1 ≤ (eI a 0 16).toInt) := by
  unfold f_X9_clauseIsOver
  refine ok_ob1 (u_works 1 (by omega) (by omega) k c) (fun h1 k1 => ?_)
  obtain ⟨fe, hk, hc, tp⟩ := k1
  have f22 : eI h1 0 22 = eI h 0 22 := fe.1 22 (by omega) (by omega)
  have f29 : eI h1 0 29 = eI h 0 29 := fe.1 29 (by omega) (by omega)
  have f16 : eI h1 0 16 = eI h 0 16 := fe.1 16 (by omega) (by omega)
  have z1 : (1 : Int32).toInt = 1 := rfl
  have w0 : (eI h1 0 25).toInt = 0 := by
    rcases tp with tp | tp
    · exact tp
    · apply Classical.byContradiction
      intro ne
      have q := hk.2.1 ((eI h1 0 25).toInt.toNat - 1) (by have := hk.1; omega)
      have r := rk_lo (eA h1 0 26 ((eI h1 0 25).toInt.toNat - 1))
      apply tp
      rw [f22, hF]
      have q2 := q.2.1
      rw [f22, hF] at q2
      have q3 := q.2.2.1
      exact ⟨by omega, by omega⟩
  have b2 : HB (sI h1 0 22 0) := by
    show eI h1 0 19 = 0 ∧ LX h1 ∧ (0 ≤ (eI h1 0 21).toInt ∧ (eI h1 0 21).toInt ≤ 8) ∧ (0 ≤ (eI h1 0 29).toInt ∧ (eI h1 0 29).toInt ≤ 24)
    unfold LX
    rw [fe.1 19 (by omega) (by omega), fe.1 16 (by omega) (by omega), fe.1 15 (by omega) (by omega), fe.1 14 (by omega) (by omega), fe.1 17 (by omega) (by omega), fe.1 18 (by omega) (by omega), fe.1 21 (by omega) (by omega), fe.1 29 (by omega) (by omega)]
    exact b
  have k2 : HK (sI h1 0 22 0) 0 := by
    obtain ⟨q1, q2, q3, q4, q5, q6, q7⟩ := hk
    show K0 (eI h1 0 16).toInt (eI h1 0 25).toInt (eI h1 0 36).toInt (eI h1 0 29).toInt (0 : Int32).toInt 0 (eA h1 0 23) (eA h1 0 26) (eA h1 0 27) (eA h1 0 31) (eA h1 0 32) (eA h1 0 37) (eA h1 0 38)
    refine ⟨q1, ?_, q3, q4, q5, q6, by decide⟩
    intro i hi
    exact absurd hi (by omega)
  refine ok_mono (over_tail (h := h) (c := sI h1 0 22 0) (PF_sI (PF_FE fe) (by omega)) b2 (by show ¬ eI h1 0 17 = 0; rw [fe.1 17 (by omega) (by omega)]; exact s) k2 w0 rfl (by show (eI h1 0 21).toInt = 0; rw [fe.1 21 (by omega) (by omega)]; exact hO) (by show (eI h1 0 29).toInt ≤ 23; rw [f29]; exact n23) (Or.inr ⟨_, hc⟩)) (fun a ka => ⟨ka.1, ka.2.1, ?_⟩)
  have := ka.2.2
  rw [← f16]; exact this
