/-! text: what was read is laid into its stretch -/
theorem PG_keep2 {o v o2 v2 : Nat → Int32} {p m : Nat} (h : PG o v p m) (e1 : ∀ j : Nat, p ≤ j → j < m → o2 j = o j) (e2 : ∀ j : Nat, p ≤ j → j < m → v2 j = v j) : PG o2 v2 p m := by
  obtain ⟨n, d, hn, he, hp⟩ := h
  exact ⟨n, d, hn, (e1 _ (by omega) hn).trans he, PO_keep hp (fun j hj => e1 _ (by omega) (by omega)) (fun j hj => e2 _ (by omega) (by omega))⟩
theorem PG_shift {o v o2 v2 : Nat → Int32} {p m b : Nat} (h : PG o v p m) (hm : m ≤ 400) (e1 : ∀ j : Nat, j < m → o2 (b + j) = o j) (e2 : ∀ j : Nat, j < m → v2 (b + j) = v j) : PG o2 v2 (b + p) (b + 400) := by
  obtain ⟨n, d, hn, he, dep, d0, dn, hs⟩ := h
  refine ⟨n, d, by omega, ?_, dep, d0, dn, fun j hj => ?_⟩
  · rw [Nat.add_assoc, e1 _ hn]; exact he
  · rw [Nat.add_assoc, e1 _ (by omega), e2 _ (by omega)]; exact hs j hj
def XQ (h0 a : HS) : Prop := IM a ∧ eA a 0 0 0 = eA h0 0 0 0 ∧ eA a 0 0 1 = eA h0 0 0 1
theorem u_text_318 {d : HS} (x1 : Int32) (t : Nat) (ht : x1.toInt = t) (t4 : t < 4) {Q : Int32 × HS → Prop} (n4 : (eI d 0 36).toInt ≤ 400) (hq : ∀ h : HS, (∀ k : Nat, eI h 0 k = eI d 0 k) → (∀ k : Nat, ¬ k = 12 → ¬ k = 13 → eA h 0 k = eA d 0 k) → (∀ j : Nat, (j : Int) < (eI d 0 36).toInt → eA h 0 12 (400 * t + j) = eA d 0 37 j ∧ eA h 0 13 (400 * t + j) = eA d 0 38 j) → (∀ j : Nat, (j < 400 * t ∨ 400 * t + 400 ≤ j) → eA h 0 12 j = eA d 0 12 j ∧ eA h 0 13 j = eA d 0 13 j) → Q (x1, sA h 0 0 (upd (eA h 0 0) 3 (eA h 0 0 3 + 1)))) : ∀ (n : Nat) (h : HS) (x2 : Int32), 0 ≤ x2.toInt → (∀ k : Nat, eI h 0 k = eI d 0 k) → (∀ k : Nat, ¬ k = 12 → ¬ k = 13 → eA h 0 k = eA d 0 k) → (∀ j : Nat, (j : Int) < x2.toInt → eA h 0 12 (400 * t + j) = eA d 0 37 j ∧ eA h 0 13 (400 * t + j) = eA d 0 38 j) → (∀ j : Nat, (j < 400 * t ∨ 400 * t + 400 ≤ j) → eA h 0 12 j = eA d 0 12 j ∧ eA h 0 13 j = eA d 0 13 j) → 0 < n → (400 - x2.toInt : Int) < n → ok (f_X9_text_318 n h x1 x2) Q := by
  intro n
  induction n with
  | zero => intro h x2 i0 e1 e2 e3 e4 hn hm; exact absurd hn (by decide)
  | succ n ih =>
    intro h x2 i0 e1 e2 e3 e4 hn hm
    rw [f_X9_text_318_s]
    refine ok_if (fun c => ok_some (hq h e1 e2 (fun j hj => e3 j ?_) e4)) (fun c => ?_)
    · have := gi_of_le c; rw [e1 36] at this; omega
    have dd := gi_of_nle c
    rw [e1 36] at dd
    have z1 : (1 : Int32).toInt = 1 := rfl
    have a2 : (x2 + 1).toInt = x2.toInt + 1 := by rw [fb_addI (by omega) (by omega), z1]
    have m1 : (400 * x1).toInt = 400 * x1.toInt := fb_mulJ rfl (by omega) (by omega)
    have m2 : (400 * x1 + x2).toInt = 400 * x1.toInt + x2.toInt := by rw [fb_addI (by omega) (by omega)]; omega
    have b1 : (400 * x1 + x2).toNatClampNeg = 400 * t + x2.toInt.toNat := by rw [Int32.toNatClampNeg, m2]; omega
    have b2 : x2.toNatClampNeg = x2.toInt.toNat := by rw [Int32.toNatClampNeg]
    have ck : 0 ≤ x2.toInt ∧ x2.toInt < 400 := by omega
    have ck2 : 0 ≤ (400 * x1 + x2).toInt ∧ (400 * x1 + x2).toInt < 1600 := by omega
    refine ok_chk ck (ok_chk ck2 (ok_chk ck (ok_chk ck2 ?_)))
    rw [b1, b2]
    refine ih _ (x2 + 1) (by omega) e1 (fun k h1 h2 => ?_) (fun j hj => ?_) (fun j hj => ?_) (by omega) (by omega)
    · exact (eA_ne (h := sA h 0 12 _) h2).trans ((eA_ne h1).trans (e2 k h1 h2))
    · show upd (eA h 0 12) (400 * t + x2.toInt.toNat) (eA h 0 37 x2.toInt.toNat) (400 * t + j) = _ ∧ upd (eA h 0 13) (400 * t + x2.toInt.toNat) (eA h 0 38 x2.toInt.toNat) (400 * t + j) = _
      by_cases ej : j = x2.toInt.toNat
      · subst ej
        rw [upd_at, upd_at, e2 37 (by omega) (by omega), e2 38 (by omega) (by omega)]
        exact ⟨rfl, rfl⟩
      · rw [upd_no (by omega), upd_no (by omega)]
        exact e3 j (by omega)
    · show upd (eA h 0 12) (400 * t + x2.toInt.toNat) (eA h 0 37 x2.toInt.toNat) j = _ ∧ upd (eA h 0 13) (400 * t + x2.toInt.toNat) (eA h 0 38 x2.toInt.toNat) j = _
      rw [upd_no (by omega), upd_no (by omega)]
      exact e4 j hj
theorem u_text_211 {d : HS} (x1 : Int32) (t : Nat) (ht : x1.toInt = t) (t4 : t < 4) {Q : Int32 × HS → Prop} (n4 : (eI d 0 29).toInt ≤ 24) (hq : ∀ h : HS, (∀ k : Nat, eI h 0 k = eI d 0 k) → (∀ k : Nat, (k < 7 ∨ 11 < k) → eA h 0 k = eA d 0 k) → (∀ j : Nat, (j : Int) < (eI d 0 29).toInt → eA h 0 7 (24 * t + j) = eA d 0 31 j ∧ eA h 0 8 (24 * t + j) = 400 * x1 + eA d 0 32 j) → (∀ j : Nat, (j < 24 * t ∨ 24 * t + 24 ≤ j) → eA h 0 7 j = eA d 0 7 j ∧ eA h 0 8 j = eA d 0 8 j) → ok (f_X9_text_318 8589934592 h x1 0) Q) : ∀ (n : Nat) (h : HS) (x2 : Int32), 0 ≤ x2.toInt → (∀ k : Nat, eI h 0 k = eI d 0 k) → (∀ k : Nat, (k < 7 ∨ 11 < k) → eA h 0 k = eA d 0 k) → (∀ j : Nat, (j : Int) < x2.toInt → eA h 0 7 (24 * t + j) = eA d 0 31 j ∧ eA h 0 8 (24 * t + j) = 400 * x1 + eA d 0 32 j) → (∀ j : Nat, (j < 24 * t ∨ 24 * t + 24 ≤ j) → eA h 0 7 j = eA d 0 7 j ∧ eA h 0 8 j = eA d 0 8 j) → 0 < n → (24 - x2.toInt : Int) < n → ok (f_X9_text_211 n h x1 x2) Q := by
  intro n
  induction n with
  | zero => intro h x2 i0 e1 e2 e3 e4 hn hm; exact absurd hn (by decide)
  | succ n ih =>
    intro h x2 i0 e1 e2 e3 e4 hn hm
    rw [f_X9_text_211_s]
    refine ok_if (fun c => hq h e1 e2 (fun j hj => e3 j ?_) e4) (fun c => ?_)
    · have := gi_of_le c; rw [e1 29] at this; omega
    have dd := gi_of_nle c
    rw [e1 29] at dd
    have z1 : (1 : Int32).toInt = 1 := rfl
    have a2 : (x2 + 1).toInt = x2.toInt + 1 := by rw [fb_addI (by omega) (by omega), z1]
    have m1 : (24 * x1).toInt = 24 * x1.toInt := fb_mulJ rfl (by omega) (by omega)
    have m2 : (24 * x1 + x2).toInt = 24 * x1.toInt + x2.toInt := by rw [fb_addI (by omega) (by omega)]; omega
    have b1 : (24 * x1 + x2).toNatClampNeg = 24 * t + x2.toInt.toNat := by rw [Int32.toNatClampNeg, m2]; omega
    have b2 : x2.toNatClampNeg = x2.toInt.toNat := by rw [Int32.toNatClampNeg]
    have ck : 0 ≤ x2.toInt ∧ x2.toInt < 24 := by omega
    have ck2 : 0 ≤ (24 * x1 + x2).toInt ∧ (24 * x1 + x2).toInt < 96 := by omega
    refine ok_chk ck (ok_chk ck2 (ok_chk ck (ok_chk ck2 (ok_chk ck (ok_chk ck2 (ok_chk ck (ok_chk ck2 (ok_chk ck (ok_chk ck2 ?_)))))))))
    rw [b1, b2]
    refine ih _ (x2 + 1) (by omega) e1 (fun k h1 => ?_) (fun j hj => ?_) (fun j hj => ?_) (by omega) (by omega)
    · exact (eA_ne (h := sA (sA (sA (sA h 0 7 _) 0 8 _) 0 9 _) 0 10 _) (by omega)).trans ((eA_ne (h := sA (sA (sA h 0 7 _) 0 8 _) 0 9 _) (by omega)).trans ((eA_ne (h := sA (sA h 0 7 _) 0 8 _) (by omega)).trans ((eA_ne (h := sA h 0 7 _) (by omega)).trans ((eA_ne (by omega)).trans (e2 k h1)))))
    · show upd (eA h 0 7) (24 * t + x2.toInt.toNat) (eA h 0 31 x2.toInt.toNat) (24 * t + j) = _ ∧ upd (eA h 0 8) (24 * t + x2.toInt.toNat) (400 * x1 + eA h 0 32 x2.toInt.toNat) (24 * t + j) = _
      by_cases ej : j = x2.toInt.toNat
      · subst ej
        rw [upd_at, upd_at, e2 31 (by omega), e2 32 (by omega)]
        exact ⟨rfl, rfl⟩
      · rw [upd_no (by omega), upd_no (by omega)]
        exact e3 j (by omega)
    · show upd (eA h 0 7) (24 * t + x2.toInt.toNat) (eA h 0 31 x2.toInt.toNat) j = _ ∧ upd (eA h 0 8) (24 * t + x2.toInt.toNat) (400 * x1 + eA h 0 32 x2.toInt.toNat) j = _
      rw [upd_no (by omega), upd_no (by omega)]
      exact e4 j hj
theorem u_text_167 {h0 : HS} (c : HS) (s : SM h0 c) (w3 : (eA h0 0 0 3).toInt ≤ 3) (g : 0 < (eI c 0 19).toInt ∨ (HB c ∧ P4 c)) : ok (f_X9_text_167 c) (fun a => XQ h0 a.2) := by
  unfold f_X9_text_167
  have z0 : (0 : Int32).toInt = 0 := rfl; have z1 : (1 : Int32).toInt = 1 := rfl
  have r0 := s.2.1
  refine ok_if (fun cw => ?_) (fun cw => ok_some ⟨s.1, by show eA c 0 0 0 = _; rw [r0], by show eA c 0 0 1 = _; rw [r0]⟩)
  have dw := gi_of_le cw
  have g : HB c ∧ P4 c := by
    rcases g with g | g
    · omega
    · exact g
  obtain ⟨b, p1, p2, p3, k⟩ := g
  obtain ⟨q1, q2, q3, q4, q5, q6, q7⟩ := k
  have hn := IM_n s.1
  have w3c : (eA c 0 0 3).toInt ≤ 3 := by rw [r0]; exact w3
  refine ok_chk (by omega) ?_
  have b3 : (eA c 0 0 3).toNatClampNeg = (eA c 0 0 3).toInt.toNat := by rw [Int32.toNatClampNeg]
  rw [b3]
  have nb := b.2.2.2
  refine u_text_211 (d := sA (sI (sI c 0 4 (eI c 0 19)) 0 5 (eI c 0 20)) 0 6 (upd (eA c 0 6) (eA c 0 0 3).toInt.toNat (eI c 0 29))) (eA c 0 0 3) (eA c 0 0 3).toInt.toNat (by omega) (by omega) nb.2 (fun h e1 e2 e3 e4 => ?_) _ _ 0 (by decide) (fun _ => rfl) (fun _ _ => rfl) (fun j hj => absurd hj (by omega)) (fun j hj => ⟨rfl, rfl⟩) (by decide) (by omega)
  refine u_text_318 (d := h) (eA c 0 0 3) (eA c 0 0 3).toInt.toNat (by omega) (by omega) (by rw [e1 36]; show (eI c 0 36).toInt ≤ 400; omega) (fun e f1 f2 f3 f4 => ?_) _ h 0 (by decide) (fun _ => rfl) (fun _ _ _ => rfl) (fun j hj => absurd hj (by omega)) (fun j hj => ⟨rfl, rfl⟩) (by decide) (by omega)
  have g0 : eA e 0 0 = eA c 0 0 := (f2 0 (by omega) (by omega)).trans (e2 0 (by omega))
  have g1 : eA e 0 1 = eA c 0 1 := (f2 1 (by omega) (by omega)).trans (e2 1 (by omega))
  have g6 : eA e 0 6 = upd (eA c 0 6) (eA c 0 0 3).toInt.toNat (eI c 0 29) := (f2 6 (by omega) (by omega)).trans (e2 6 (by omega))
  have g7 : eA e 0 7 = eA h 0 7 := f2 7 (by omega) (by omega)
  have g8 : eA e 0 8 = eA h 0 8 := f2 8 (by omega) (by omega)
  have g48 : eA e 0 48 = eA c 0 48 := (f2 48 (by omega) (by omega)).trans (e2 48 (by omega))
  have g49 : eA e 0 49 = eA c 0 49 := (f2 49 (by omega) (by omega)).trans (e2 49 (by omega))
  have i3 : eI e 0 3 = eI c 0 3 := (f1 3).trans (e1 3)
  have i47 : eI e 0 47 = eI c 0 47 := (f1 47).trans (e1 47)
  have i36 : eI h 0 36 = eI c 0 36 := e1 36
  have i29 : eI h 0 29 = eI c 0 29 := e1 29
  have a37 : eA h 0 37 = eA c 0 37 := e2 37 (by omega)
  have a38 : eA h 0 38 = eA c 0 38 := e2 38 (by omega)
  have a12 : eA h 0 12 = eA c 0 12 := e2 12 (by omega)
  have a13 : eA h 0 13 = eA c 0 13 := e2 13 (by omega)
  obtain ⟨⟨nm, ro, ro1, tx, ch⟩, _⟩ := s
  have un : ∀ j : Nat, ¬ j = 3 → upd (eA e 0 0) 3 (eA e 0 0 3 + 1) j = eA c 0 0 j := fun j hj => by rw [upd_no hj, g0]
  have u3 : upd (eA e 0 0) 3 (eA e 0 0 3 + 1) 3 = eA c 0 0 3 + 1 := by rw [upd_at, g0]
  have e5 : (eA c 0 0 3 + 1).toInt = (eA c 0 0 3).toInt + 1 := by rw [fb_addI (by omega) (by omega), z1]
  refine ⟨⟨?_, ⟨?_, GB_shift ro.2.1 (fun j hj => un _ (by omega)), fun q hq => GB_shift (ro.2.2 q hq) (fun j hj => un _ (by omega))⟩, ?_, ?_, ?_⟩, ?_, ?_⟩
  · show (0 ≤ (eI e 0 3).toInt ∧ (eI e 0 3).toInt ≤ 300) ∧ (0 ≤ (eI e 0 47).toInt ∧ (eI e 0 47).toInt ≤ 10)
    rw [i3, i47]; exact nm
  · obtain ⟨c0, c1, c3, c4, c5⟩ := ro.1
    unfold RC
    show (0 ≤ (upd (eA e 0 0) 3 (eA e 0 0 3 + 1) 0).toInt ∧ (upd (eA e 0 0) 3 (eA e 0 0 3 + 1) 0).toInt ≤ 4) ∧ (0 ≤ (upd (eA e 0 0) 3 (eA e 0 0 3 + 1) 1).toInt ∧ (upd (eA e 0 0) 3 (eA e 0 0 3 + 1) 1).toInt ≤ 10) ∧ (0 ≤ (upd (eA e 0 0) 3 (eA e 0 0 3 + 1) 3).toInt ∧ (upd (eA e 0 0) 3 (eA e 0 0 3 + 1) 3).toInt ≤ 4) ∧ (-1 ≤ (upd (eA e 0 0) 3 (eA e 0 0 3 + 1) 4).toInt ∧ (upd (eA e 0 0) 3 (eA e 0 0 3 + 1) 4).toInt < (upd (eA e 0 0) 3 (eA e 0 0 3 + 1) 3).toInt) ∧ (0 ≤ (upd (eA e 0 0) 3 (eA e 0 0 3 + 1) 5).toInt ∧ (upd (eA e 0 0) 3 (eA e 0 0 3 + 1) 5).toInt ≤ 20)
    rw [u3, un 0 (by omega), un 1 (by omega), un 4 (by omega), un 5 (by omega), e5]
    exact ⟨c0, c1, by omega, by omega, c5⟩
  · show RO (eA e 0 1)
    rw [g1]; exact ro1
  · show TX e
    intro q hq
    have st := eA c 0 0 3
    by_cases eq : q = (eA c 0 0 3).toInt.toNat
    · rw [g6, eq, upd_at, g7, g8]
      refine ⟨nb, fun j hj hw => ?_⟩
      have x := e3 j hj
      rw [x.1] at hw
      rw [x.2]
      obtain ⟨y0, y⟩ := q6 j hj hw
      have yl : (eA c 0 32 j).toInt < 300 := by
        obtain ⟨n, d, yn, _⟩ := y
        omega
      have m1 : (400 * eA c 0 0 3).toInt = 400 * (eA c 0 0 3).toInt := fb_mulJ rfl (by omega) (by omega)
      have m2 : (400 * eA c 0 0 3 + eA c 0 32 j).toInt = 400 * (eA c 0 0 3).toInt + (eA c 0 32 j).toInt := by rw [fb_addI (by omega) (by omega)]; omega
      refine ⟨?_, ?_⟩
      · show 400 * (((eA c 0 0 3).toInt.toNat : Nat) : Int) ≤ (400 * eA c 0 0 3 + eA c 0 32 j).toInt
        rw [m2]; omega
      · show PG (eA e 0 12) (eA e 0 13) (400 * eA c 0 0 3 + eA c 0 32 j).toInt.toNat (400 * (eA c 0 0 3).toInt.toNat + 400)
        have m3 : (400 * eA c 0 0 3 + eA c 0 32 j).toInt.toNat = 400 * (eA c 0 0 3).toInt.toNat + (eA c 0 32 j).toInt.toNat := by rw [m2]; omega
        rw [m3]
        refine PG_shift y (by omega) (fun i hi => ?_) (fun i hi => ?_)
        · have := (f3 i (by rw [i36]; omega)).1
          rw [this, a37]
        · have := (f3 i (by rw [i36]; omega)).2
          rw [this, a38]
    · have t1 := tx q hq
      rw [g6, upd_no eq, g7, g8]
      refine ⟨t1.1, fun j hj hw => ?_⟩
      have x := e4 (24 * q + j) (by omega)
      have x7 : eA h 0 7 (24 * q + j) = eA c 0 7 (24 * q + j) := x.1
      have x8 : eA h 0 8 (24 * q + j) = eA c 0 8 (24 * q + j) := x.2
      rw [x7] at hw
      rw [x8]
      obtain ⟨y0, y⟩ := t1.2 j hj hw
      refine ⟨y0, PG_keep2 y (fun i h1 h2 => ?_) (fun i h1 h2 => ?_)⟩
      · have := (f4 i (by omega)).1
        rw [this, a12]
      · have := (f4 i (by omega)).2
        rw [this, a13]
  · show CH (eA e 0 48) (eA e 0 49)
    rw [g48, g49]; exact ch
  · show upd (eA e 0 0) 3 (eA e 0 0 3 + 1) 0 = _
    rw [un 0 (by omega), r0]
  · show upd (eA e 0 0) 3 (eA e 0 0 3 + 1) 1 = _
    rw [un 1 (by omega), r0]
theorem u_text_74 {h0 : HS} (w3 : (eA h0 0 0 3).toInt ≤ 3) : ∀ (n : Nat) (c : HS), SM h0 c → (0 < (eI c 0 19).toInt ∨ (PI c ∧ MS c + 1 < n)) → 0 < n → ok (f_X9_text_74 n c) (fun a => XQ h0 a.2) := by
  intro n
  induction n with
  | zero => intro c s g hn; exact absurd hn (by decide)
  | succ n ih =>
    intro c s g hn
    rw [f_X9_text_74_s]
    have z0 : (0 : Int32).toInt = 0 := rfl
    by_cases w : eI c 0 19 = 0
    · rw [if_pos w]
      have g : PI c ∧ MS c + 1 < ((n + 1 : Nat) : Int) := by
        rcases g with g | g
        · rw [w] at g; exact absurd g (by decide)
        · exact g
      obtain ⟨⟨b, p⟩, hm⟩ := g
      have m0 : 0 ≤ MS c := by
        have ⟨l1, l2, l3, l4, _⟩ := b.2.1
        unfold MS
        split <;> omega
      have go : ∀ a : HS, PQ c a → ok (f_X9_text_74 n a) (fun a => XQ h0 a.2) := by
        intro a q
        refine ih a (SM_PF s q.1) ?_ (by omega)
        rcases q.2 with x | x
        · exact Or.inl x
        · exact Or.inr ⟨x.1, by omega⟩
      have stp : ∀ x : Int32, eI c 0 28 = x → ¬ (x = 4 ∧ eI c 0 17 = 0) → ok (f_X9_text_96 (f_X9_text_74 n) c) (fun a => XQ h0 a.2) := by
        intro x ex _
        unfold f_X9_text_96
        rcases p with p | ⟨s1, r, p⟩ | ⟨s2, n7, r, p⟩ | ⟨s3, p⟩ | ⟨s4, p⟩
        · rw [if_pos p.1]
          exact ok_ob1 (u_asks c b p) (fun a k => go a k)
        · rw [s1, if_neg (by decide), if_pos rfl]
          exact ok_ob1 (u_begins c b s1 p) (fun a k => go a k)
        · rw [s2, if_neg (by decide), if_neg (by decide), if_pos rfl]
          exact ok_ob1 (u_goesOn c b s2 n7 p) (fun a k => go a k)
        · rw [s3, if_neg (by decide), if_neg (by decide), if_neg (by decide), if_pos rfl]
          exact ok_ob1 (u_asksOn c b s3 p) (fun a k => go a k)
        · rw [s4, if_neg (by decide), if_neg (by decide), if_neg (by decide), if_neg (by decide)]
          exact ok_ob1 (u_clause c b s4 p) (fun a k => go a k)
      refine ok_if (fun c4 => ok_if (fun c0 => ?_) (fun c0 => stp _ rfl (fun q => c0 q.2))) (fun c4 => stp _ rfl (fun q => c4 q.1))
      refine u_text_167 c s w3 (Or.inr ⟨b, ?_⟩)
      rcases p with p | ⟨s1, _⟩ | ⟨s2, _⟩ | ⟨s3, _⟩ | ⟨s4, p⟩
      · rw [p.1] at c4; exact absurd c4 (by decide)
      · rw [s1] at c4; exact absurd c4 (by decide)
      · rw [s2] at c4; exact absurd c4 (by decide)
      · rw [s3] at c4; exact absurd c4 (by decide)
      · exact p
    · rw [if_neg w]
      refine u_text_167 c s w3 (Or.inl ?_)
      rcases g with g | g
      · exact g
      · exact absurd g.1.1.1 w
theorem u_X9_text (h : HS) (hI : IM h) : ok (f_X9_text h) (fun a => XQ h a.2) := by
  unfold f_X9_text
  refine ok_if (fun c => ok_some ⟨hI, rfl, rfl⟩) (fun c => ?_)
  have d := gi_of_ne c
  have hn := IM_n hI
  have z4 : (4 : Int32).toInt = 4 := rfl; have z0 : (0 : Int32).toInt = 0 := rfl
  generalize hc : sI (sI (sI (sI (sI (sI (sI (sI (sI (sI (sI h 0 14 (eI h 0 3)) 0 3 0) 0 15 0) 0 19 0) 0 20 (-1)) 0 21 0) 0 22 0) 0 25 0) 0 28 4) 0 29 0) 0 36 0 = c0
  have e14 : eI c0 0 14 = eI h 0 3 := by rw [← hc]; rfl
  have e15 : eI c0 0 15 = 0 := by rw [← hc]; rfl
  have e19 : eI c0 0 19 = 0 := by rw [← hc]; rfl
  have e21 : eI c0 0 21 = 0 := by rw [← hc]; rfl
  have e22 : eI c0 0 22 = 0 := by rw [← hc]; rfl
  have e25 : eI c0 0 25 = 0 := by rw [← hc]; rfl
  have e28 : eI c0 0 28 = 4 := by rw [← hc]; rfl
  have e29 : eI c0 0 29 = 0 := by rw [← hc]; rfl
  have e36 : eI c0 0 36 = 0 := by rw [← hc]; rfl
  have s0 : SM h c0 := by
    rw [← hc]
    obtain ⟨⟨_, n47⟩, r⟩ := hI
    exact ⟨⟨⟨⟨by show 0 ≤ (0 : Int32).toInt; decide, by show (0 : Int32).toInt ≤ 300; decide⟩, n47⟩, r⟩, rfl, rfl, rfl, rfl⟩
  refine ok_ob1 (u_X9_next c0 (by rw [e14, e15]; omega)) (fun a ka => ?_)
  have f := ka.1.1
  have ⟨l1, l2, l3, l4, _⟩ := ka.2.1
  refine u_text_74 (by omega) _ a (SM_NX s0 ka.1) (Or.inr ⟨⟨⟨?_, ka.2.1, ?_, ?_⟩, Or.inr (Or.inr (Or.inr (Or.inr ⟨?_, ?_, ?_, ?_, ?_⟩)))⟩, ?_⟩) (by decide)
  · rw [f 19 (by omega)]; exact e19
  · rw [f 21 (by omega), e21]; decide
  · rw [f 29 (by omega), e29]; decide
  · rw [f 28 (by omega)]; exact e28
  · rw [f 22 (by omega), e22]; rfl
  · rw [f 21 (by omega), e21]; rfl
  · rw [f 25 (by omega), e25]; rfl
  · unfold HK K0
    rw [f 25 (by omega), f 36 (by omega), f 29 (by omega), f 22 (by omega), e25, e36, e29, e22]
    refine ⟨by decide, fun i hi => absurd hi (by omega), by decide, by omega, by omega, fun j hj => absurd hj (by omega), by decide⟩
  · unfold MS
    split <;> omega
