/-! a step is taken back -/
theorem mp_undo23 {N : Nat} (N19 : N ≤ 19) : ∀ (n : Nat) (g : HS) (x1 : Int32) (r : Int32 × HS), f_X9_undo_23 n g x1 = some r → 0 ≤ x1.toInt → (eA g 0 0 5).toInt = (N : Int) → r.1 = eA g 0 0 5 ∧ (∀ i : Nat, x1.toInt ≤ (i : Int) → i < 93 → eA r.2 0 0 (30 + i) = eA g 0 0 (130 + 93 * N + i)) ∧ (∀ k : Nat, ((k : Int) < 30 + x1.toInt ∨ 123 ≤ k) → eA r.2 0 0 k = eA g 0 0 k) ∧ Fr [(1, 0, 0)] g r.2 := by
  have y1 : (1 : Int32).toInt = 1 := rfl
  have y30 : (30 : Int32).toInt = 30 := rfl
  have y93 : (93 : Int32).toInt = 93 := rfl
  have y130 : (130 : Int32).toInt = 130 := rfl
  intro n
  induction n with
  | zero => intro g x1 r e; cases e
  | succ n ih =>
    intro g x1 r e h0 hN
    rw [f_X9_undo_23_s] at e
    by_cases c : (93 : Int32) ≤ x1
    · rw [if_pos c] at e
      have d := gi_of_le c
      cases e
      exact ⟨rfl, fun i q1 q2 => by omega, fun k _ => rfl, Fr_refl _ _⟩
    · rw [if_neg c] at e
      have d := gi_of_nle c
      have a1 := fb_addI (x := 30) (y := x1) (by omega) (by omega)
      have a2 := fb_mulJ (x := 93) (y := eA g 0 0 5) (k := 93) rfl (by omega) (by omega)
      have a3 := fb_addI (x := 130) (y := 93 * eA g 0 0 5) (by omega) (by omega)
      have a4 := fb_addI (x := 130 + 93 * eA g 0 0 5) (y := x1) (by omega) (by omega)
      have a5 := fb_addI (x := x1) (y := 1) (by omega) (by omega)
      have j1 : (30 + x1).toNatClampNeg = 30 + x1.toInt.toNat := by show (30 + x1).toInt.toNat = _; omega
      have j2 : (130 + 93 * eA g 0 0 5 + x1).toNatClampNeg = 130 + 93 * N + x1.toInt.toNat := by show (130 + 93 * eA g 0 0 5 + x1).toInt.toNat = _; omega
      obtain ⟨-, e⟩ := ob_if e
      obtain ⟨-, e⟩ := ob_if e
      rw [j1, j2] at e
      have u : ∀ k : Nat, ¬ k = 30 + x1.toInt.toNat → upd (eA g 0 0) (30 + x1.toInt.toNat) (eA g 0 0 (130 + 93 * N + x1.toInt.toNat)) k = eA g 0 0 k := fun k hk => ud_ne hk
      obtain ⟨k1, k2, k3, k4⟩ := ih _ (x1 + 1) r e (by omega) (by show (upd (eA g 0 0) (30 + x1.toInt.toNat) (eA g 0 0 (130 + 93 * N + x1.toInt.toNat)) 5).toInt = _; rw [u 5 (by omega)]; exact hN)
      have k1 : r.1 = upd (eA g 0 0) (30 + x1.toInt.toNat) (eA g 0 0 (130 + 93 * N + x1.toInt.toNat)) 5 := k1
      have k2 : ∀ i : Nat, (x1 + 1).toInt ≤ (i : Int) → i < 93 → eA r.2 0 0 (30 + i) = upd (eA g 0 0) (30 + x1.toInt.toNat) (eA g 0 0 (130 + 93 * N + x1.toInt.toNat)) (130 + 93 * N + i) := k2
      have k3 : ∀ k : Nat, ((k : Int) < 30 + (x1 + 1).toInt ∨ 123 ≤ k) → eA r.2 0 0 k = upd (eA g 0 0) (30 + x1.toInt.toNat) (eA g 0 0 (130 + 93 * N + x1.toInt.toNat)) k := k3
      refine ⟨by rw [k1, u 5 (by omega)], fun i q1 q2 => ?_, fun k q => ?_, Fr_trans (Fr_sA (by decide) (Fr_refl _ _)) k4⟩
      · by_cases ci : (i : Int) = x1.toInt
        · rw [k3 (30 + i) (by omega), show x1.toInt.toNat = i by omega, ud_eq]
        · rw [k2 i (by omega) q2, u _ (by omega)]
      · rw [k3 k (by omega), u k (by omega)]
theorem cp_takeBack {h : HS} {z : Int32 × HS} {cn : Nat} (e : f_X4_takeStepBack h = some z) (f0 : 0 ≤ (eI h 1 11).toInt ∧ (eI h 1 11).toInt < 20) (n0 : 1 ≤ (eI h 1 12).toInt ∧ (eI h 1 12).toInt ≤ 20) {a : Nat} (ha : a = ((eI h 1 11).toInt.toNat + ((eI h 1 12).toInt.toNat - 1)) % 20 * 94) (hc : (eA h 1 2 (a + 90)).toInt = (cn : Int)) (c10 : cn ≤ 10) : z.1 = 1 ∧ (∀ i : Nat, i < 9 * cn → eA z.2 1 0 i = eA h 1 2 (a + i)) ∧ (∀ i : Nat, 9 * cn ≤ i → eA z.2 1 0 i = eA h 1 0 i) ∧ eI z.2 1 5 = eA h 1 2 (a + 91) ∧ eI z.2 1 7 = eA h 1 2 (a + 92) ∧ eI z.2 1 8 = eA h 1 2 (a + 93) ∧ eI z.2 1 12 = eI h 1 12 - 1 := by
  have y0 : (0 : Int32).toInt = 0 := rfl
  have y1 : (1 : Int32).toInt = 1 := rfl
  have y2 : (2 : Int32).toInt = 2 := rfl
  have y3 : (3 : Int32).toInt = 3 := rfl
  have y90 : (90 : Int32).toInt = 90 := rfl
  have y94 : (94 : Int32).toInt = 94 := rfl
  have y1880 : (1880 : Int32).toInt = 1880 := rfl
  have a1 := fb_addI (x := eI h 1 11) (y := eI h 1 12) (by omega) (by omega)
  have a2 := fb_subI (x := eI h 1 11 + eI h 1 12) (y := 1) (by omega) (by omega)
  have a3 := md20 (x := eI h 1 11 + eI h 1 12 - 1) (by omega)
  have i3 : (eI h 1 11 + eI h 1 12 - 1).toInt.toNat = (eI h 1 11).toInt.toNat + ((eI h 1 12).toInt.toNat - 1) := by omega
  rw [i3] at a3
  unfold f_X4_takeStepBack f_X4_takeStepBack_42 at e
  rw [if_neg (gi_nlt (by omega))] at e
  generalize hm : eI h 1 11 + eI h 1 12 - 1 - (eI h 1 11 + eI h 1 12 - 1) / 20 * 20 = M at e a3
  have a4 : (M * 94).toInt = M.toInt * 94 := fb_mulK rfl (by omega) (by omega)
  generalize hE : M * 94 = E at e a4
  have b20 := Nat.mod_lt ((eI h 1 11).toInt.toNat + ((eI h 1 12).toInt.toNat - 1)) (show 0 < 20 by decide)
  generalize ((eI h 1 11).toInt.toNat + ((eI h 1 12).toInt.toNat - 1)) % 20 = b at a3 ha b20
  have Ei : E.toInt = (a : Int) := by omega
  have p94 := fb_addI (x := E) (y := 94) (by omega) (by omega)
  have p90 := fb_addI (x := E) (y := 90) (by omega) (by omega)
  have p91 := fb_addI (x := E + 90) (y := 1) (by omega) (by omega)
  have p92 := fb_addI (x := E + 90) (y := 2) (by omega) (by omega)
  have p93 := fb_addI (x := E + 90) (y := 3) (by omega) (by omega)
  have j0 : E.toNatClampNeg = a := by show E.toInt.toNat = _; omega
  have j90 : (E + 90).toNatClampNeg = a + 90 := by show (E + 90).toInt.toNat = _; omega
  have j91 : (E + 90 + 1).toNatClampNeg = a + 91 := by show (E + 90 + 1).toInt.toNat = _; omega
  have j92 : (E + 90 + 2).toNatClampNeg = a + 92 := by show (E + 90 + 2).toInt.toNat = _; omega
  have j93 : (E + 90 + 3).toNatClampNeg = a + 93 := by show (E + 90 + 3).toInt.toNat = _; omega
  rw [if_neg (gi_nlt (by omega)), if_pos (gi_le (by omega))] at e
  obtain ⟨-, e⟩ := ob_if e
  rw [j90] at e
  have m9 : (eA h 1 2 (a + 90) * 9).toInt = (eA h 1 2 (a + 90)).toInt * 9 := fb_mulK rfl (by omega) (by omega)
  have mid : (if (if 0 < eA h 1 2 (a + 90) * 9 then eA h 1 2 (a + 90) * 9 else 0) < 90 then (if 0 < eA h 1 2 (a + 90) * 9 then eA h 1 2 (a + 90) * 9 else 0) else (90 : Int32)).toInt = ((9 * cn : Nat) : Int) := by
    by_cases c1 : 0 < eA h 1 2 (a + 90) * 9
    · rw [if_pos c1]
      by_cases c2 : eA h 1 2 (a + 90) * 9 < 90
      · rw [if_pos c2]; omega
      · rw [if_neg c2]
        have := gi_of_nlt c2
        omega
    · rw [if_neg c1]
      have := gi_of_nlt c1
      rw [if_pos (by decide)]
      omega
  generalize (if (if 0 < eA h 1 2 (a + 90) * 9 then eA h 1 2 (a + 90) * 9 else 0) < 90 then (if 0 < eA h 1 2 (a + 90) * 9 then eA h 1 2 (a + 90) * 9 else 0) else (90 : Int32)) = C at e mid
  have jC : C.toNatClampNeg = 9 * cn := by show C.toInt.toNat = _; omega
  obtain ⟨-, e⟩ := ob_if e
  obtain ⟨-, e⟩ := ob_if e
  obtain ⟨-, e⟩ := ob_if e
  obtain ⟨-, e⟩ := ob_if e
  obtain ⟨-, e⟩ := ob_if e
  obtain ⟨-, e⟩ := ob_if e
  obtain ⟨-, e⟩ := ob_if e
  rw [j0, j91, j92, j93, jC] at e
  cases e
  refine ⟨rfl, fun i hi => ?_, fun i hi => ?_, rfl, rfl, rfl, rfl⟩
  · show va_cpy (eA h 1 2) (eA h 1 0) a 0 (9 * cn) i = _
    unfold va_cpy
    rw [if_pos (by omega)]
    rfl
  · show va_cpy (eA h 1 2) (eA h 1 0) a 0 (9 * cn) i = _
    unfold va_cpy
    rw [if_neg (by omega)]
theorem j_undo {h g : HS} {z w : Int32 × HS} (sr : SRel h 1 (eA g 0 0)) (rg : RG (eA g 0 0)) (e1 : f_X8_undo h = some z) (e2 : f_X9_undo g = some w) : DONE h g z w := by
  have y0 : (0 : Int32).toInt = 0 := rfl
  have y1 : (1 : Int32).toInt = 1 := rfl
  obtain ⟨⟨s1, s2, s3, s4, s5, s6, s7, s8, s9⟩, ge, mk, f0, st⟩ := id sr
  obtain ⟨r1', r2', r3', r4'⟩ := id rg
  have rn := r1'
  unfold RN at rn
  have d9 := gi_of_eq s9
  unfold f_X8_undo f_X8_undo_21 at e1
  unfold f_X9_undo at e2
  obtain ⟨r1, h1, a1, e1⟩ := ob2_some e1
  by_cases c : eA g 0 0 5 = 0
  · rw [if_pos c] at e2
    have d := gi_of_eq c
    unfold f_X4_takeStepBack f_X4_takeStepBack_42 at a1
    rw [if_pos (gi_lt (by omega))] at a1
    cases a1
    rw [if_pos rfl] at e1
    cases e1
    cases e2
    exact DONE_no sr rg
  · rw [if_neg c] at e2
    have d := gi_of_ne c
    have fr := w_f_X4_takeStepBack _ _ a1
    obtain ⟨N, hN⟩ : ∃ N : Nat, (eA g 0 0 5).toInt = (N : Int) + 1 := ⟨(eA g 0 0 5).toInt.toNat - 1, by omega⟩
    have sub := fb_subI (x := eA g 0 0 5) (y := 1) (by omega) (by omega)
    have Nn : (eA g 0 0 5).toInt.toNat = N + 1 := by omega
    rw [Nn] at st
    obtain ⟨x1, x2, x3, x4, x5, x6⟩ := st N (by omega)
    have hn1 : (eI h 1 12).toInt.toNat - 1 = N := by omega
    obtain ⟨cn, hcn⟩ : ∃ cn : Nat, (eA h 1 2 (((eI h 1 11).toInt.toNat + N) % 20 * 94 + 90)).toInt = (cn : Int) := ⟨(eA h 1 2 (((eI h 1 11).toInt.toNat + N) % 20 * 94 + 90)).toInt.toNat, by omega⟩
    obtain ⟨v1, v2, v3, v4, v5, v6, v7⟩ := cp_takeBack (cn := cn) a1 f0 (by omega) (a := ((eI h 1 11).toInt.toNat + N) % 20 * 94) (by rw [hn1]) hcn (by omega)
    have v1 : r1 = 1 := v1
    have v2 : ∀ i : Nat, i < 9 * cn → eA h1 1 0 i = eA h 1 2 (((eI h 1 11).toInt.toNat + N) % 20 * 94 + i) := v2
    have v3 : ∀ i : Nat, 9 * cn ≤ i → eA h1 1 0 i = eA h 1 0 i := v3
    have v4 : eI h1 1 5 = eA h 1 2 (((eI h 1 11).toInt.toNat + N) % 20 * 94 + 91) := v4
    have v5 : eI h1 1 7 = eA h 1 2 (((eI h 1 11).toInt.toNat + N) % 20 * 94 + 92) := v5
    have v6 : eI h1 1 8 = eA h 1 2 (((eI h 1 11).toInt.toNat + N) % 20 * 94 + 93) := v6
    have v7 : eI h1 1 12 = eI h 1 12 - 1 := v7
    have fr : Fr S_X4_takeStepBack h h1 := fr
    rw [if_neg (by rw [v1]; decide)] at e1
    cases e1
    obtain ⟨k1, k2, k3, k4⟩ := mp_undo23 (N := N) (by omega) _ _ 0 w e2 (by decide) (by show (upd (eA g 0 0) 5 (eA g 0 0 5 - 1) 5).toInt = _; rw [ud_eq]; omega)
    have u5 : ∀ k : Nat, ¬ k = 5 → upd (eA g 0 0) 5 (eA g 0 0 5 - 1) k = eA g 0 0 k := fun k hk => ud_ne hk
    have u55 : eA (sA g 0 0 (upd (eA g 0 0) 5 (eA g 0 0 5 - 1))) 0 0 5 = eA g 0 0 5 - 1 := (ud_eq : upd (eA g 0 0) 5 (eA g 0 0 5 - 1) 5 = eA g 0 0 5 - 1)
    have k1 : w.1 = eA g 0 0 5 - 1 := k1.trans u55
    have k2 : ∀ i : Nat, i < 93 → eA w.2 0 0 (30 + i) = eA g 0 0 (130 + 93 * N + i) := fun i hi => (k2 i (by omega) hi).trans (u5 _ (by omega))
    have k3' : ∀ k : Nat, ¬ k = 5 → (k < 30 ∨ 123 ≤ k) → eA w.2 0 0 k = eA g 0 0 k := fun k k5 q => (k3 k (by omega)).trans (u5 k k5)
    have k5 : eA w.2 0 0 5 = eA g 0 0 5 - 1 := (k3 5 (by omega)).trans u55
    generalize hB : eA w.2 0 0 = B at *
    have e12 : eI h1 1 12 = B 5 := by rw [v7, k5, s9]
    refine ⟨?_, ?_, ?_⟩
    · show eI h1 1 12 = w.1
      rw [k1, e12, k5]
    · rw [hB]
      refine ⟨⟨?_, ?_, ?_, ?_, ?_, ?_, ?_, ?_, e12⟩, ?_, ?_, ?_, ?_⟩
      · exact (fr.1 1 3 (by decide)).trans (s1.trans (k3' 1 (by decide) (by omega)).symm)
      · exact (fr.1 1 4 (by decide)).trans (s2.trans (k3' 0 (by decide) (by omega)).symm)
      · exact v4.trans (x4.trans (k2 90 (by decide)).symm)
      · exact (fr.1 1 6 (by decide)).trans (s4.trans (k3' 2 (by decide) (by omega)).symm)
      · exact v5.trans (x5.trans (k2 91 (by decide)).symm)
      · exact v6.trans (x6.trans (k2 92 (by decide)).symm)
      · exact (fr.1 1 9 (by decide)).trans (s7.trans (k3' 3 (by decide) (by omega)).symm)
      · exact (fr.1 1 10 (by decide)).trans (s8.trans (k3' 4 (by decide) (by omega)).symm)
      · intro i hi
        rw [k3' 1 (by decide) (by omega)] at hi
        rw [k2 i (by omega)]
        show eA h1 1 0 i = _
        by_cases ci : i < 9 * cn
        · rw [v2 i ci]; exact x2 i (by omega)
        · rw [v3 i (by omega), x3 i (by omega) hi]
          unfold nxr
          rw [if_neg (by omega)]
          exact ge i hi
      · show MKT (eA h1 1 1) B
        rw [fr.2.1 1 1 (by decide)]
        intro i hi
        rw [k3' 0 (by decide) (by omega)] at hi
        rw [k3' _ (by omega) (by omega)]
        exact mk i hi
      · show 0 ≤ (eI h1 1 11).toInt ∧ (eI h1 1 11).toInt < 20
        rw [fr.1 1 11 (by decide)]; exact f0
      · show STEPS (eA h1 1 2) B (eI h1 1 11).toInt.toNat (B 5).toInt.toNat
        rw [fr.2.1 1 2 (by decide), fr.1 1 11 (by decide), show (B 5).toInt.toNat = N by rw [k5]; omega]
        intro j hj
        obtain ⟨w1, w2, w3, w4, w5, w6⟩ := st j (by omega)
        have Bj : ∀ i : Nat, i < 93 → B (130 + 93 * j + i) = eA g 0 0 (130 + 93 * j + i) := fun i hi => k3' _ (by omega) (by omega)
        have e1 : B 1 = eA g 0 0 1 := k3' 1 (by decide) (by omega)
        refine ⟨by rw [e1]; exact w1, fun i hi => ?_, fun i q1 q2 => ?_, by rw [Bj 90 (by decide)]; exact w4, by rw [Bj 91 (by decide)]; exact w5, by rw [Bj 92 (by decide)]; exact w6⟩
        · rw [Bj i (by omega)]; exact w2 i hi
        · rw [e1] at q2
          rw [Bj i (by omega), w3 i q1 q2]
          unfold nxr
          rw [if_pos (show j + 1 < N + 1 by omega)]
          by_cases cj : j + 1 < N
          · rw [if_pos cj]; exact (k3' _ (by omega) (by omega)).symm
          · rw [if_neg cj, k2 i (by omega), show j + 1 = N by omega]
    · rw [hB]
      have e1 : B 1 = eA g 0 0 1 := k3' 1 (by decide) (by omega)
      have e0 : B 0 = eA g 0 0 0 := k3' 0 (by decide) (by omega)
      refine ⟨?_, ?_, ?_, ?_⟩
      · unfold RN
        rw [e1, e0, k5, k3' 3 (by decide) (by omega), k3' 4 (by decide) (by omega), k3' 2 (by decide) (by omega)]
        omega
      · intro m hm
        rw [e0] at hm
        rw [k3' _ (by omega) (by omega), k3' _ (by omega) (by omega), k3' _ (by omega) (by omega)]
        exact r2' m hm
      · exact RW_eq (r4' N (by omega)) (fun k hk => k2 k hk) e1 rn.1.2 (by rw [e0]; exact Int.le_refl _)
      · intro j hj
        rw [k5] at hj
        exact RW_eq (r4' j (by omega)) (fun k hk => k3' _ (by omega) (by omega)) e1 rn.1.2 (by rw [e0]; exact Int.le_refl _)
/-! the image -/
theorem SR_copy {h h' : HS} {o o' : Nat} {A B : Nat → Int32} (sr : SRel h o A) (rn : RN A) (u : ∀ k : Nat, k < 1990 → B k = A k) (i3 : eI h' o' 3 = eI h o 3) (i4 : eI h' o' 4 = eI h o 4) (i5 : eI h' o' 5 = eI h o 5) (i6 : eI h' o' 6 = eI h o 6) (i7 : eI h' o' 7 = eI h o 7) (i8 : eI h' o' 8 = eI h o 8) (i9 : eI h' o' 9 = eI h o 9) (i10 : eI h' o' 10 = eI h o 10) (i11 : eI h' o' 11 = eI h o 11) (i12 : eI h' o' 12 = eI h o 12) (a0 : ∀ k : Nat, k < 90 → eA h' o' 0 k = eA h o 0 k) (a1 : ∀ k : Nat, k < 12 → eA h' o' 1 k = eA h o 1 k) (a2 : ∀ k : Nat, k < 1880 → eA h' o' 2 k = eA h o 2 k) : SRel h' o' B := by
  obtain ⟨⟨s1, s2, s3, s4, s5, s6, s7, s8, s9⟩, ge, mk, f0, st⟩ := sr
  unfold RN at rn
  refine ⟨⟨?_, ?_, ?_, ?_, ?_, ?_, ?_, ?_, ?_⟩, ?_, ?_, by rw [i11]; exact f0, ?_⟩
  · rw [i3, u 1 (by decide)]; exact s1
  · rw [i4, u 0 (by decide)]; exact s2
  · rw [i5, u 120 (by decide)]; exact s3
  · rw [i6, u 2 (by decide)]; exact s4
  · rw [i7, u 121 (by decide)]; exact s5
  · rw [i8, u 122 (by decide)]; exact s6
  · rw [i9, u 3 (by decide)]; exact s7
  · rw [i10, u 4 (by decide)]; exact s8
  · rw [i12, u 5 (by decide)]; exact s9
  · intro i hi
    rw [u 1 (by decide)] at hi
    rw [a0 i (by omega), u _ (by omega)]
    exact ge i hi
  · intro i hi
    rw [u 0 (by decide)] at hi
    rw [a1 i (by omega), u _ (by omega)]
    exact mk i hi
  · rw [i11, u 5 (by decide)]
    intro j hj
    obtain ⟨x1, x2, x3, x4, x5, x6⟩ := st j hj
    have ml := Nat.mod_lt ((eI h o 11).toInt.toNat + j) (show 0 < 20 by decide)
    generalize ((eI h o 11).toInt.toNat + j) % 20 = b at *
    have c : ∀ i : Nat, i < 94 → eA h' o' 2 (b * 94 + i) = eA h o 2 (b * 94 + i) := fun i hi => a2 _ (by omega)
    refine ⟨?_, fun i hi => ?_, fun i q1 q2 => ?_, ?_, ?_, ?_⟩
    · rw [c 90 (by decide), u 1 (by decide)]; exact x1
    · rw [c 90 (by decide)] at hi
      rw [c i (by omega), u _ (by omega)]
      exact x2 i hi
    · rw [c 90 (by decide)] at q1
      rw [u 1 (by decide)] at q2
      rw [u _ (by omega), x3 i q1 q2]
      unfold nxr
      by_cases cn : j + 1 < (A 5).toInt.toNat
      · rw [if_pos cn]; exact (u _ (by omega)).symm
      · rw [if_neg cn]; exact (u _ (by omega)).symm
    · rw [c 91 (by decide), u _ (by omega)]; exact x4
    · rw [c 92 (by decide), u _ (by omega)]; exact x5
    · rw [c 93 (by decide), u _ (by omega)]; exact x6
theorem RG_copy {A B : Nat → Int32} (rg : RG A) (u : ∀ k : Nat, k < 1990 → B k = A k) : RG B := by
  obtain ⟨r1, r2, r3, r4⟩ := rg
  have rn := r1
  unfold RN at rn
  refine ⟨?_, ?_, ?_, ?_⟩
  · unfold RN
    rw [u 1 (by decide), u 0 (by decide), u 5 (by decide), u 3 (by decide), u 4 (by decide), u 2 (by decide)]
    exact rn
  · intro m hm
    rw [u 0 (by decide)] at hm
    rw [u _ (by omega), u _ (by omega), u _ (by omega)]
    exact r2 m hm
  · exact RW_eq r3 (fun k hk => u _ (by omega)) (u 1 (by decide)) rn.1.2 (by rw [u 0 (by decide)]; exact Int.le_refl _)
  · intro j hj
    rw [u 5 (by decide)] at hj
    exact RW_eq (r4 j hj) (fun k hk => u _ (by omega)) (u 1 (by decide)) rn.1.2 (by rw [u 0 (by decide)]; exact Int.le_refl _)
theorem cp_clauseField_0 {h : HS} {x f : Int32} {z : Int32 × HS} {c k : Nat} (e : f_X6_clauseField_0 h x f = some z) (hx : x.toInt = (c : Int)) (hf : f.toInt = (k : Int)) (hc : c < 24) (hk : k < 4) : z = (eA h 9 0 (4 * c + k), h) := by
  have y0 : (0 : Int32).toInt = 0 := rfl
  have y4 : (4 : Int32).toInt = 4 := rfl
  have y24 : (24 : Int32).toInt = 24 := rfl
  have m : (x * 4).toInt = x.toInt * 4 := fb_mulK rfl (by omega) (by omega)
  have a := fb_addI (x := x * 4) (y := f) (by omega) (by omega)
  have i : (x * 4 + f).toNatClampNeg = 4 * c + k := by show (x * 4 + f).toInt.toNat = _; omega
  unfold f_X6_clauseField_0 at e
  rw [if_neg (gi_nlt (by omega)), if_neg (gi_nle (by omega)), if_neg (gi_nlt (by omega)), if_pos (gi_lt (by omega))] at e
  obtain ⟨-, e⟩ := ob_if e
  rw [i] at e
  exact (Option.some.inj e).symm
theorem j_played_0 {x1 : Int32} (hx1 : x1.toInt = 0) : ∀ (n m : Nat) (h g : HS) (x : Int32) (z w : Int32 × HS), f_X8_played_29 n h x = some z → f_X9_played_21 m g x1 x = some w → STD h g → 0 < (eA g 0 0 3).toInt → 0 ≤ x.toInt → DONE h g z w := by
  have y1 : (1 : Int32).toInt = 1 := rfl
  have y4 : (4 : Int32).toInt = 4 := rfl
  have y5 : (5 : Int32).toInt = 5 := rfl
  have y6 : (6 : Int32).toInt = 6 := rfl
  have y7 : (7 : Int32).toInt = 7 := rfl
  have y20 : (20 : Int32).toInt = 20 := rfl
  have y21 : (21 : Int32).toInt = 21 := rfl
  have y22 : (22 : Int32).toInt = 22 := rfl
  have y23 : (23 : Int32).toInt = 23 := rfl
  have y24 : (24 : Int32).toInt = 24 := rfl
  have i1 : x1.toNatClampNeg = 0 := by show x1.toInt.toNat = _; omega
  intro n
  induction n with
  | zero => intro m h g x z w e; cases e
  | succ n ih =>
    intro m h g x z w e e2 s ht hx
    cases m with
    | zero => cases e2
    | succ m =>
      have tx := (s.2.2.1 ht).1
      obtain ⟨t1, t2, t3, t4, -⟩ := tx
      rw [f_X8_played_29_s] at e
      rw [f_X9_played_21_s] at e2
      unfold f_X8_played_146 at e
      unfold f_X9_played_154 at e2
      obtain ⟨-, e2⟩ := ob_if e2
      rw [i1] at e2
      have cnt : eI h 9 1 = eA g 0 6 0 := gi_eq t1
      rw [cnt] at e
      by_cases c : eA g 0 6 0 ≤ x
      · rw [if_pos c] at e e2
        cases e
        cases e2
        exact DONE_no s.1 s.2.1
      · rw [if_neg c] at e e2
        have d := gi_of_nle c
        obtain ⟨k, hk⟩ : ∃ k : Nat, x.toInt = (k : Int) := ⟨x.toInt.toNat, by omega⟩
        have k24 : k < 24 := by omega
        have a3 := fb_addI (x := x) (y := 1) (by omega) (by omega)
        have m1 : (24 * x1).toInt = 24 * x1.toInt := fb_mulJ rfl (by omega) (by omega)
        have m2 := fb_addI (x := 24 * x1) (y := x) (by omega) (by omega)
        have ix : (24 * x1 + x).toNatClampNeg = 24 * 0 + k := by show (24 * x1 + x).toInt.toNat = _; omega
        obtain ⟨w0, w7, w1, -, w2⟩ := t4 k (by omega)
        obtain ⟨r16, h16, b16, e⟩ := ob2_some e
        obtain ⟨rfl, rfl⟩ := pr_inj (cp_clauseField_0 (c := k) (k := 1) b16 hk rfl k24 (by decide))
        obtain ⟨r17, h17, b17, e⟩ := ob2_some e
        obtain ⟨rfl, rfl⟩ := pr_inj (cp_clauseField_0 (c := k) (k := 2) b17 hk rfl k24 (by decide))
        obtain ⟨r18, h18, b18, e⟩ := ob2_some e
        obtain ⟨rfl, rfl⟩ := pr_inj (cp_clauseField_0 (c := k) (k := 0) b18 hk rfl k24 (by decide))
        have w1 : (eA h 9 0 (4 * k + 0)).toInt = 16 + (eA g 0 7 (24 * 0 + k)).toInt := w1
        obtain ⟨-, e2⟩ := ob_if e2
        rw [ix] at e2
        -- how a turn ends, the deed's answers being the same
        have go : ∀ (r : Int32) (h9 g9 : HS), STD h9 g9 → 0 < (eA g9 0 0 3).toInt → (if r = -1 then some (x, h9) else f_X8_played_29 n h9 (x + 1)) = some z → (if r = -1 then some (x, g9) else f_X9_played_21 m g9 x1 (x + 1)) = some w → DONE h g z w := by
          intro r h9 g9 s9 ht9 q1 q2
          by_cases cr : r = -1
          · rw [if_pos cr] at q1 q2
            cases q1
            cases q2
            exact ⟨rfl, s9.1, s9.2.1⟩
          · rw [if_neg cr] at q1 q2
            have D := ih m h9 g9 (x + 1) z w q1 q2 s9 ht9 (by omega)
            exact ⟨D.1, D.2.1, D.2.2⟩
        have nxt : ∀ (zd wd : Int32 × HS) (S T : CL), DONE h g zd wd → Fr S h zd.2 → Fr T g wd.2 → (0, 1, 9) ∉ S → (∀ y ∈ KTC, y ∉ S) → (∀ y ∈ KTM, y ∉ T) → STD zd.2 wd.2 ∧ 0 < (eA wd.2 0 0 3).toInt := by
          intro zd wd S T D f k n1 n2 n4
          refine ⟨STD_done s D f k n1 n2 n4, ?_⟩
          have e : eA wd.2 0 0 3 = eA g 0 0 3 := by
            rw [← D.2.1.1.2.2.2.2.2.2.1, f.1 1 9 n1]
            exact s.1.1.2.2.2.2.2.2.1
          rw [e]; exact ht
        by_cases c4 : eA g 0 7 (24 * 0 + k) = 4
        · rw [if_pos c4] at e2
          have d4 := gi_of_eq c4
          rw [if_pos (gi_eq (by omega))] at e
          obtain ⟨v1, v2, v3⟩ := w2 (by omega)
          have v2 := v2 (by omega)
          have v3 := v3 (by omega)
          obtain ⟨r20, h20, b20, e⟩ := ob2_some e
          obtain ⟨rfl, rfl⟩ := pr_inj (cp_clauseField_0 (c := k) (k := 3) b20 hk rfl k24 (by decide))
          obtain ⟨-, e2⟩ := ob_if e2
          obtain ⟨-, e2⟩ := ob_if e2
          obtain ⟨-, e2⟩ := ob_if e2
          rw [v1, v2, v3] at e
          obtain ⟨r21, h21, b21, e⟩ := ob2_some e
          obtain ⟨d21, g21, q21, e2⟩ := ob2_some e2
          have D := j_fill s b21 q21
          have rr : r21 = d21 := D.1
          subst rr
          obtain ⟨s9, t9⟩ := nxt _ _ _ _ D (w_f_X8_fill _ _ _ _ _ b21) (w_f_X9_fill _ _ _ _ _ q21) (by decide) (by decide) (by decide)
          exact go _ _ _ s9 t9 e e2
        · rw [if_neg c4] at e2
          have d4 := gi_of_ne c4
          rw [if_neg (gi_ne (by omega))] at e
          by_cases c5 : eA g 0 7 (24 * 0 + k) = 5
          · rw [if_pos c5] at e2
            have d5 := gi_of_eq c5
            rw [if_pos (gi_eq (by omega))] at e
            obtain ⟨v1, v2, -⟩ := w2 (by omega)
            have v2 := v2 (by omega)
            obtain ⟨-, e2⟩ := ob_if e2
            obtain ⟨-, e2⟩ := ob_if e2
            rw [v1, v2] at e
            obtain ⟨r21, h21, b21, e⟩ := ob2_some e
            obtain ⟨d21, g21, q21, e2⟩ := ob2_some e2
            have D := j_send s.1 s.2.1 b21 q21
            have rr : r21 = d21 := D.1
            subst rr
            obtain ⟨s9, t9⟩ := nxt _ _ _ _ D (w_f_X8_send _ _ _ _ b21) (w_f_X9_send _ _ _ _ q21) (by decide) (by decide) (by decide)
            exact go _ _ _ s9 t9 e e2
          · rw [if_neg c5] at e2
            have d5 := gi_of_ne c5
            rw [if_neg (gi_ne (by omega))] at e
            by_cases c6 : eA g 0 7 (24 * 0 + k) = 6
            · rw [if_pos c6] at e2
              have d6 := gi_of_eq c6
              rw [if_pos (gi_eq (by omega))] at e
              obtain ⟨v1, -, -⟩ := w2 (by omega)
              obtain ⟨-, e2⟩ := ob_if e2
              rw [v1] at e
              obtain ⟨r21, h21, b21, e⟩ := ob2_some e
              obtain ⟨d21, g21, q21, e2⟩ := ob2_some e2
              have D := j_fatten s.1 s.2.1 b21 q21
              have rr : r21 = d21 := D.1
              subst rr
              obtain ⟨s9, t9⟩ := nxt _ _ _ _ D (w_f_X8_fatten _ _ _ b21) (w_f_X9_fatten _ _ _ q21) (by decide) (by decide) (by decide)
              exact go _ _ _ s9 t9 e e2
            · rw [if_neg c6] at e2
              have d6 := gi_of_ne c6
              rw [if_neg (gi_ne (by omega))] at e
              by_cases c7 : eA g 0 7 (24 * 0 + k) = 7
              · rw [if_pos c7] at e2
                have d7 := gi_of_eq c7
                rw [if_pos (gi_eq (by omega))] at e
                obtain ⟨v1, -, -⟩ := w2 (by omega)
                obtain ⟨-, e2⟩ := ob_if e2
                rw [v1] at e
                obtain ⟨r21, h21, b21, e⟩ := ob2_some e
                obtain ⟨d21, g21, q21, e2⟩ := ob2_some e2
                have D := j_pass s b21 q21
                have rr : r21 = d21 := D.1
                subst rr
                obtain ⟨s9, t9⟩ := nxt _ _ _ _ D (w_f_X8_pass _ _ _ b21) (w_f_X9_pass _ _ _ q21) (by decide) (by decide) (by decide)
                exact go _ _ _ s9 t9 e e2
              · rw [if_neg c7] at e2
                have d7 := gi_of_ne c7
                rw [if_neg (gi_ne (by omega))] at e
                exact go 0 _ _ s ht e e2
theorem cp_clauseField_1 {h : HS} {x f : Int32} {z : Int32 × HS} {c k : Nat} (e : f_X6_clauseField_1 h x f = some z) (hx : x.toInt = (c : Int)) (hf : f.toInt = (k : Int)) (hc : c < 24) (hk : k < 4) : z = (eA h 10 0 (4 * c + k), h) := by
  have y0 : (0 : Int32).toInt = 0 := rfl
  have y4 : (4 : Int32).toInt = 4 := rfl
  have y24 : (24 : Int32).toInt = 24 := rfl
  have m : (x * 4).toInt = x.toInt * 4 := fb_mulK rfl (by omega) (by omega)
  have a := fb_addI (x := x * 4) (y := f) (by omega) (by omega)
  have i : (x * 4 + f).toNatClampNeg = 4 * c + k := by show (x * 4 + f).toInt.toNat = _; omega
  unfold f_X6_clauseField_1 at e
  rw [if_neg (gi_nlt (by omega)), if_neg (gi_nle (by omega)), if_neg (gi_nlt (by omega)), if_pos (gi_lt (by omega))] at e
  obtain ⟨-, e⟩ := ob_if e
  rw [i] at e
  exact (Option.some.inj e).symm
theorem j_played_1 {x1 : Int32} (hx1 : x1.toInt = 1) : ∀ (n m : Nat) (h g : HS) (x : Int32) (z w : Int32 × HS), f_X8_played_29b n h x = some z → f_X9_played_21 m g x1 x = some w → STD h g → 1 < (eA g 0 0 3).toInt → 0 ≤ x.toInt → DONE h g z w := by
  have y1 : (1 : Int32).toInt = 1 := rfl
  have y4 : (4 : Int32).toInt = 4 := rfl
  have y5 : (5 : Int32).toInt = 5 := rfl
  have y6 : (6 : Int32).toInt = 6 := rfl
  have y7 : (7 : Int32).toInt = 7 := rfl
  have y20 : (20 : Int32).toInt = 20 := rfl
  have y21 : (21 : Int32).toInt = 21 := rfl
  have y22 : (22 : Int32).toInt = 22 := rfl
  have y23 : (23 : Int32).toInt = 23 := rfl
  have y24 : (24 : Int32).toInt = 24 := rfl
  have i1 : x1.toNatClampNeg = 1 := by show x1.toInt.toNat = _; omega
  intro n
  induction n with
  | zero => intro m h g x z w e; cases e
  | succ n ih =>
    intro m h g x z w e e2 s ht hx
    cases m with
    | zero => cases e2
    | succ m =>
      have tx := (s.2.2.2.1 ht).1
      obtain ⟨t1, t2, t3, t4, -⟩ := tx
      rw [f_X8_played_29b_s] at e
      rw [f_X9_played_21_s] at e2
      unfold f_X8_played_146b at e
      unfold f_X9_played_154 at e2
      obtain ⟨-, e2⟩ := ob_if e2
      rw [i1] at e2
      have cnt : eI h 10 1 = eA g 0 6 1 := gi_eq t1
      rw [cnt] at e
      by_cases c : eA g 0 6 1 ≤ x
      · rw [if_pos c] at e e2
        cases e
        cases e2
        exact DONE_no s.1 s.2.1
      · rw [if_neg c] at e e2
        have d := gi_of_nle c
        obtain ⟨k, hk⟩ : ∃ k : Nat, x.toInt = (k : Int) := ⟨x.toInt.toNat, by omega⟩
        have k24 : k < 24 := by omega
        have a3 := fb_addI (x := x) (y := 1) (by omega) (by omega)
        have m1 : (24 * x1).toInt = 24 * x1.toInt := fb_mulJ rfl (by omega) (by omega)
        have m2 := fb_addI (x := 24 * x1) (y := x) (by omega) (by omega)
        have ix : (24 * x1 + x).toNatClampNeg = 24 * 1 + k := by show (24 * x1 + x).toInt.toNat = _; omega
        obtain ⟨w0, w7, w1, -, w2⟩ := t4 k (by omega)
        obtain ⟨r16, h16, b16, e⟩ := ob2_some e
        obtain ⟨rfl, rfl⟩ := pr_inj (cp_clauseField_1 (c := k) (k := 1) b16 hk rfl k24 (by decide))
        obtain ⟨r17, h17, b17, e⟩ := ob2_some e
        obtain ⟨rfl, rfl⟩ := pr_inj (cp_clauseField_1 (c := k) (k := 2) b17 hk rfl k24 (by decide))
        obtain ⟨r18, h18, b18, e⟩ := ob2_some e
        obtain ⟨rfl, rfl⟩ := pr_inj (cp_clauseField_1 (c := k) (k := 0) b18 hk rfl k24 (by decide))
        have w1 : (eA h 10 0 (4 * k + 0)).toInt = 16 + (eA g 0 7 (24 * 1 + k)).toInt := w1
        obtain ⟨-, e2⟩ := ob_if e2
        rw [ix] at e2
        -- how a turn ends, the deed's answers being the same
        have go : ∀ (r : Int32) (h9 g9 : HS), STD h9 g9 → 1 < (eA g9 0 0 3).toInt → (if r = -1 then some (x, h9) else f_X8_played_29b n h9 (x + 1)) = some z → (if r = -1 then some (x, g9) else f_X9_played_21 m g9 x1 (x + 1)) = some w → DONE h g z w := by
          intro r h9 g9 s9 ht9 q1 q2
          by_cases cr : r = -1
          · rw [if_pos cr] at q1 q2
            cases q1
            cases q2
            exact ⟨rfl, s9.1, s9.2.1⟩
          · rw [if_neg cr] at q1 q2
            have D := ih m h9 g9 (x + 1) z w q1 q2 s9 ht9 (by omega)
            exact ⟨D.1, D.2.1, D.2.2⟩
        have nxt : ∀ (zd wd : Int32 × HS) (S T : CL), DONE h g zd wd → Fr S h zd.2 → Fr T g wd.2 → (0, 1, 9) ∉ S → (∀ y ∈ KTC, y ∉ S) → (∀ y ∈ KTM, y ∉ T) → STD zd.2 wd.2 ∧ 1 < (eA wd.2 0 0 3).toInt := by
          intro zd wd S T D f k n1 n2 n4
          refine ⟨STD_done s D f k n1 n2 n4, ?_⟩
          have e : eA wd.2 0 0 3 = eA g 0 0 3 := by
            rw [← D.2.1.1.2.2.2.2.2.2.1, f.1 1 9 n1]
            exact s.1.1.2.2.2.2.2.2.1
          rw [e]; exact ht
        by_cases c4 : eA g 0 7 (24 * 1 + k) = 4
        · rw [if_pos c4] at e2
          have d4 := gi_of_eq c4
          rw [if_pos (gi_eq (by omega))] at e
          obtain ⟨v1, v2, v3⟩ := w2 (by omega)
          have v2 := v2 (by omega)
          have v3 := v3 (by omega)
          obtain ⟨r20, h20, b20, e⟩ := ob2_some e
          obtain ⟨rfl, rfl⟩ := pr_inj (cp_clauseField_1 (c := k) (k := 3) b20 hk rfl k24 (by decide))
          obtain ⟨-, e2⟩ := ob_if e2
          obtain ⟨-, e2⟩ := ob_if e2
          obtain ⟨-, e2⟩ := ob_if e2
          rw [v1, v2, v3] at e
          obtain ⟨r21, h21, b21, e⟩ := ob2_some e
          obtain ⟨d21, g21, q21, e2⟩ := ob2_some e2
          have D := j_fill s b21 q21
          have rr : r21 = d21 := D.1
          subst rr
          obtain ⟨s9, t9⟩ := nxt _ _ _ _ D (w_f_X8_fill _ _ _ _ _ b21) (w_f_X9_fill _ _ _ _ _ q21) (by decide) (by decide) (by decide)
          exact go _ _ _ s9 t9 e e2
        · rw [if_neg c4] at e2
          have d4 := gi_of_ne c4
          rw [if_neg (gi_ne (by omega))] at e
          by_cases c5 : eA g 0 7 (24 * 1 + k) = 5
          · rw [if_pos c5] at e2
            have d5 := gi_of_eq c5
            rw [if_pos (gi_eq (by omega))] at e
            obtain ⟨v1, v2, -⟩ := w2 (by omega)
            have v2 := v2 (by omega)
            obtain ⟨-, e2⟩ := ob_if e2
            obtain ⟨-, e2⟩ := ob_if e2
            rw [v1, v2] at e
            obtain ⟨r21, h21, b21, e⟩ := ob2_some e
            obtain ⟨d21, g21, q21, e2⟩ := ob2_some e2
            have D := j_send s.1 s.2.1 b21 q21
            have rr : r21 = d21 := D.1
            subst rr
            obtain ⟨s9, t9⟩ := nxt _ _ _ _ D (w_f_X8_send _ _ _ _ b21) (w_f_X9_send _ _ _ _ q21) (by decide) (by decide) (by decide)
            exact go _ _ _ s9 t9 e e2
          · rw [if_neg c5] at e2
            have d5 := gi_of_ne c5
            rw [if_neg (gi_ne (by omega))] at e
            by_cases c6 : eA g 0 7 (24 * 1 + k) = 6
            · rw [if_pos c6] at e2
              have d6 := gi_of_eq c6
              rw [if_pos (gi_eq (by omega))] at e
              obtain ⟨v1, -, -⟩ := w2 (by omega)
              obtain ⟨-, e2⟩ := ob_if e2
              rw [v1] at e
              obtain ⟨r21, h21, b21, e⟩ := ob2_some e
              obtain ⟨d21, g21, q21, e2⟩ := ob2_some e2
              have D := j_fatten s.1 s.2.1 b21 q21
              have rr : r21 = d21 := D.1
              subst rr
              obtain ⟨s9, t9⟩ := nxt _ _ _ _ D (w_f_X8_fatten _ _ _ b21) (w_f_X9_fatten _ _ _ q21) (by decide) (by decide) (by decide)
              exact go _ _ _ s9 t9 e e2
            · rw [if_neg c6] at e2
              have d6 := gi_of_ne c6
              rw [if_neg (gi_ne (by omega))] at e
              by_cases c7 : eA g 0 7 (24 * 1 + k) = 7
              · rw [if_pos c7] at e2
                have d7 := gi_of_eq c7
                rw [if_pos (gi_eq (by omega))] at e
                obtain ⟨v1, -, -⟩ := w2 (by omega)
                obtain ⟨-, e2⟩ := ob_if e2
                rw [v1] at e
                obtain ⟨r21, h21, b21, e⟩ := ob2_some e
                obtain ⟨d21, g21, q21, e2⟩ := ob2_some e2
                have D := j_pass s b21 q21
                have rr : r21 = d21 := D.1
                subst rr
                obtain ⟨s9, t9⟩ := nxt _ _ _ _ D (w_f_X8_pass _ _ _ b21) (w_f_X9_pass _ _ _ q21) (by decide) (by decide) (by decide)
                exact go _ _ _ s9 t9 e e2
              · rw [if_neg c7] at e2
                have d7 := gi_of_ne c7
                rw [if_neg (gi_ne (by omega))] at e
                exact go 0 _ _ s ht e e2
theorem cp_clauseField_2 {h : HS} {x f : Int32} {z : Int32 × HS} {c k : Nat} (e : f_X6_clauseField_2 h x f = some z) (hx : x.toInt = (c : Int)) (hf : f.toInt = (k : Int)) (hc : c < 24) (hk : k < 4) : z = (eA h 11 0 (4 * c + k), h) := by
  have y0 : (0 : Int32).toInt = 0 := rfl
  have y4 : (4 : Int32).toInt = 4 := rfl
  have y24 : (24 : Int32).toInt = 24 := rfl
  have m : (x * 4).toInt = x.toInt * 4 := fb_mulK rfl (by omega) (by omega)
  have a := fb_addI (x := x * 4) (y := f) (by omega) (by omega)
  have i : (x * 4 + f).toNatClampNeg = 4 * c + k := by show (x * 4 + f).toInt.toNat = _; omega
  unfold f_X6_clauseField_2 at e
  rw [if_neg (gi_nlt (by omega)), if_neg (gi_nle (by omega)), if_neg (gi_nlt (by omega)), if_pos (gi_lt (by omega))] at e
  obtain ⟨-, e⟩ := ob_if e
  rw [i] at e
  exact (Option.some.inj e).symm
theorem j_played_2 {x1 : Int32} (hx1 : x1.toInt = 2) : ∀ (n m : Nat) (h g : HS) (x : Int32) (z w : Int32 × HS), f_X8_played_29c n h x = some z → f_X9_played_21 m g x1 x = some w → STD h g → 2 < (eA g 0 0 3).toInt → 0 ≤ x.toInt → DONE h g z w := by
  have y1 : (1 : Int32).toInt = 1 := rfl
  have y4 : (4 : Int32).toInt = 4 := rfl
  have y5 : (5 : Int32).toInt = 5 := rfl
  have y6 : (6 : Int32).toInt = 6 := rfl
  have y7 : (7 : Int32).toInt = 7 := rfl
  have y20 : (20 : Int32).toInt = 20 := rfl
  have y21 : (21 : Int32).toInt = 21 := rfl
  have y22 : (22 : Int32).toInt = 22 := rfl
  have y23 : (23 : Int32).toInt = 23 := rfl
  have y24 : (24 : Int32).toInt = 24 := rfl
  have i1 : x1.toNatClampNeg = 2 := by show x1.toInt.toNat = _; omega
  intro n
  induction n with
  | zero => intro m h g x z w e; cases e
  | succ n ih =>
    intro m h g x z w e e2 s ht hx
    cases m with
    | zero => cases e2
    | succ m =>
      have tx := (s.2.2.2.2.1 ht).1
      obtain ⟨t1, t2, t3, t4, -⟩ := tx
      rw [f_X8_played_29c_s] at e
      rw [f_X9_played_21_s] at e2
      unfold f_X8_played_146c at e
      unfold f_X9_played_154 at e2
      obtain ⟨-, e2⟩ := ob_if e2
      rw [i1] at e2
      have cnt : eI h 11 1 = eA g 0 6 2 := gi_eq t1
      rw [cnt] at e
      by_cases c : eA g 0 6 2 ≤ x
      · rw [if_pos c] at e e2
        cases e
        cases e2
        exact DONE_no s.1 s.2.1
      · rw [if_neg c] at e e2
        have d := gi_of_nle c
        obtain ⟨k, hk⟩ : ∃ k : Nat, x.toInt = (k : Int) := ⟨x.toInt.toNat, by omega⟩
        have k24 : k < 24 := by omega
        have a3 := fb_addI (x := x) (y := 1) (by omega) (by omega)
        have m1 : (24 * x1).toInt = 24 * x1.toInt := fb_mulJ rfl (by omega) (by omega)
        have m2 := fb_addI (x := 24 * x1) (y := x) (by omega) (by omega)
        have ix : (24 * x1 + x).toNatClampNeg = 24 * 2 + k := by show (24 * x1 + x).toInt.toNat = _; omega
        obtain ⟨w0, w7, w1, -, w2⟩ := t4 k (by omega)
        obtain ⟨r16, h16, b16, e⟩ := ob2_some e
        obtain ⟨rfl, rfl⟩ := pr_inj (cp_clauseField_2 (c := k) (k := 1) b16 hk rfl k24 (by decide))
        obtain ⟨r17, h17, b17, e⟩ := ob2_some e
        obtain ⟨rfl, rfl⟩ := pr_inj (cp_clauseField_2 (c := k) (k := 2) b17 hk rfl k24 (by decide))
        obtain ⟨r18, h18, b18, e⟩ := ob2_some e
        obtain ⟨rfl, rfl⟩ := pr_inj (cp_clauseField_2 (c := k) (k := 0) b18 hk rfl k24 (by decide))
        have w1 : (eA h 11 0 (4 * k + 0)).toInt = 16 + (eA g 0 7 (24 * 2 + k)).toInt := w1
        obtain ⟨-, e2⟩ := ob_if e2
        rw [ix] at e2
        -- how a turn ends, the deed's answers being the same
        have go : ∀ (r : Int32) (h9 g9 : HS), STD h9 g9 → 2 < (eA g9 0 0 3).toInt → (if r = -1 then some (x, h9) else f_X8_played_29c n h9 (x + 1)) = some z → (if r = -1 then some (x, g9) else f_X9_played_21 m g9 x1 (x + 1)) = some w → DONE h g z w := by
          intro r h9 g9 s9 ht9 q1 q2
          by_cases cr : r = -1
          · rw [if_pos cr] at q1 q2
            cases q1
            cases q2
            exact ⟨rfl, s9.1, s9.2.1⟩
          · rw [if_neg cr] at q1 q2
            have D := ih m h9 g9 (x + 1) z w q1 q2 s9 ht9 (by omega)
            exact ⟨D.1, D.2.1, D.2.2⟩
        have nxt : ∀ (zd wd : Int32 × HS) (S T : CL), DONE h g zd wd → Fr S h zd.2 → Fr T g wd.2 → (0, 1, 9) ∉ S → (∀ y ∈ KTC, y ∉ S) → (∀ y ∈ KTM, y ∉ T) → STD zd.2 wd.2 ∧ 2 < (eA wd.2 0 0 3).toInt := by
          intro zd wd S T D f k n1 n2 n4
          refine ⟨STD_done s D f k n1 n2 n4, ?_⟩
          have e : eA wd.2 0 0 3 = eA g 0 0 3 := by
            rw [← D.2.1.1.2.2.2.2.2.2.1, f.1 1 9 n1]
            exact s.1.1.2.2.2.2.2.2.1
          rw [e]; exact ht
        by_cases c4 : eA g 0 7 (24 * 2 + k) = 4
        · rw [if_pos c4] at e2
          have d4 := gi_of_eq c4
          rw [if_pos (gi_eq (by omega))] at e
          obtain ⟨v1, v2, v3⟩ := w2 (by omega)
          have v2 := v2 (by omega)
          have v3 := v3 (by omega)
          obtain ⟨r20, h20, b20, e⟩ := ob2_some e
          obtain ⟨rfl, rfl⟩ := pr_inj (cp_clauseField_2 (c := k) (k := 3) b20 hk rfl k24 (by decide))
          obtain ⟨-, e2⟩ := ob_if e2
          obtain ⟨-, e2⟩ := ob_if e2
          obtain ⟨-, e2⟩ := ob_if e2
          rw [v1, v2, v3] at e
          obtain ⟨r21, h21, b21, e⟩ := ob2_some e
          obtain ⟨d21, g21, q21, e2⟩ := ob2_some e2
          have D := j_fill s b21 q21
          have rr : r21 = d21 := D.1
          subst rr
          obtain ⟨s9, t9⟩ := nxt _ _ _ _ D (w_f_X8_fill _ _ _ _ _ b21) (w_f_X9_fill _ _ _ _ _ q21) (by decide) (by decide) (by decide)
          exact go _ _ _ s9 t9 e e2
        · rw [if_neg c4] at e2
          have d4 := gi_of_ne c4
          rw [if_neg (gi_ne (by omega))] at e
          by_cases c5 : eA g 0 7 (24 * 2 + k) = 5
          · rw [if_pos c5] at e2
            have d5 := gi_of_eq c5
            rw [if_pos (gi_eq (by omega))] at e
            obtain ⟨v1, v2, -⟩ := w2 (by omega)
            have v2 := v2 (by omega)
            obtain ⟨-, e2⟩ := ob_if e2
            obtain ⟨-, e2⟩ := ob_if e2
            rw [v1, v2] at e
            obtain ⟨r21, h21, b21, e⟩ := ob2_some e
            obtain ⟨d21, g21, q21, e2⟩ := ob2_some e2
            have D := j_send s.1 s.2.1 b21 q21
            have rr : r21 = d21 := D.1
            subst rr
            obtain ⟨s9, t9⟩ := nxt _ _ _ _ D (w_f_X8_send _ _ _ _ b21) (w_f_X9_send _ _ _ _ q21) (by decide) (by decide) (by decide)
            exact go _ _ _ s9 t9 e e2
          · rw [if_neg c5] at e2
            have d5 := gi_of_ne c5
            rw [if_neg (gi_ne (by omega))] at e
            by_cases c6 : eA g 0 7 (24 * 2 + k) = 6
            · rw [if_pos c6] at e2
              have d6 := gi_of_eq c6
              rw [if_pos (gi_eq (by omega))] at e
              obtain ⟨v1, -, -⟩ := w2 (by omega)
              obtain ⟨-, e2⟩ := ob_if e2
              rw [v1] at e
              obtain ⟨r21, h21, b21, e⟩ := ob2_some e
              obtain ⟨d21, g21, q21, e2⟩ := ob2_some e2
              have D := j_fatten s.1 s.2.1 b21 q21
              have rr : r21 = d21 := D.1
              subst rr
              obtain ⟨s9, t9⟩ := nxt _ _ _ _ D (w_f_X8_fatten _ _ _ b21) (w_f_X9_fatten _ _ _ q21) (by decide) (by decide) (by decide)
              exact go _ _ _ s9 t9 e e2
            · rw [if_neg c6] at e2
              have d6 := gi_of_ne c6
              rw [if_neg (gi_ne (by omega))] at e
              by_cases c7 : eA g 0 7 (24 * 2 + k) = 7
              · rw [if_pos c7] at e2
                have d7 := gi_of_eq c7
                rw [if_pos (gi_eq (by omega))] at e
                obtain ⟨v1, -, -⟩ := w2 (by omega)
                obtain ⟨-, e2⟩ := ob_if e2
                rw [v1] at e
                obtain ⟨r21, h21, b21, e⟩ := ob2_some e
                obtain ⟨d21, g21, q21, e2⟩ := ob2_some e2
                have D := j_pass s b21 q21
                have rr : r21 = d21 := D.1
                subst rr
                obtain ⟨s9, t9⟩ := nxt _ _ _ _ D (w_f_X8_pass _ _ _ b21) (w_f_X9_pass _ _ _ q21) (by decide) (by decide) (by decide)
                exact go _ _ _ s9 t9 e e2
              · rw [if_neg c7] at e2
                have d7 := gi_of_ne c7
                rw [if_neg (gi_ne (by omega))] at e
                exact go 0 _ _ s ht e e2
theorem cp_clauseField_3 {h : HS} {x f : Int32} {z : Int32 × HS} {c k : Nat} (e : f_X6_clauseField_3 h x f = some z) (hx : x.toInt = (c : Int)) (hf : f.toInt = (k : Int)) (hc : c < 24) (hk : k < 4) : z = (eA h 12 0 (4 * c + k), h) := by
  have y0 : (0 : Int32).toInt = 0 := rfl
  have y4 : (4 : Int32).toInt = 4 := rfl
  have y24 : (24 : Int32).toInt = 24 := rfl
  have m : (x * 4).toInt = x.toInt * 4 := fb_mulK rfl (by omega) (by omega)
  have a := fb_addI (x := x * 4) (y := f) (by omega) (by omega)
  have i : (x * 4 + f).toNatClampNeg = 4 * c + k := by show (x * 4 + f).toInt.toNat = _; omega
  unfold f_X6_clauseField_3 at e
  rw [if_neg (gi_nlt (by omega)), if_neg (gi_nle (by omega)), if_neg (gi_nlt (by omega)), if_pos (gi_lt (by omega))] at e
  obtain ⟨-, e⟩ := ob_if e
  rw [i] at e
  exact (Option.some.inj e).symm
theorem j_played_3 {x1 : Int32} (hx1 : x1.toInt = 3) : ∀ (n m : Nat) (h g : HS) (x : Int32) (z w : Int32 × HS), f_X8_played_29d n h x = some z → f_X9_played_21 m g x1 x = some w → STD h g → 3 < (eA g 0 0 3).toInt → 0 ≤ x.toInt → DONE h g z w := by
  have y1 : (1 : Int32).toInt = 1 := rfl
  have y4 : (4 : Int32).toInt = 4 := rfl
  have y5 : (5 : Int32).toInt = 5 := rfl
  have y6 : (6 : Int32).toInt = 6 := rfl
  have y7 : (7 : Int32).toInt = 7 := rfl
  have y20 : (20 : Int32).toInt = 20 := rfl
  have y21 : (21 : Int32).toInt = 21 := rfl
  have y22 : (22 : Int32).toInt = 22 := rfl
  have y23 : (23 : Int32).toInt = 23 := rfl
  have y24 : (24 : Int32).toInt = 24 := rfl
  have i1 : x1.toNatClampNeg = 3 := by show x1.toInt.toNat = _; omega
  intro n
  induction n with
  | zero => intro m h g x z w e; cases e
  | succ n ih =>
    intro m h g x z w e e2 s ht hx
    cases m with
    | zero => cases e2
    | succ m =>
      have tx := (s.2.2.2.2.2 ht).1
      obtain ⟨t1, t2, t3, t4, -⟩ := tx
      rw [f_X8_played_29d_s] at e
      rw [f_X9_played_21_s] at e2
      unfold f_X8_played_146d at e
      unfold f_X9_played_154 at e2
      obtain ⟨-, e2⟩ := ob_if e2
      rw [i1] at e2
      have cnt : eI h 12 1 = eA g 0 6 3 := gi_eq t1
      rw [cnt] at e
      by_cases c : eA g 0 6 3 ≤ x
      · rw [if_pos c] at e e2
        cases e
        cases e2
        exact DONE_no s.1 s.2.1
      · rw [if_neg c] at e e2
        have d := gi_of_nle c
        obtain ⟨k, hk⟩ : ∃ k : Nat, x.toInt = (k : Int) := ⟨x.toInt.toNat, by omega⟩
        have k24 : k < 24 := by omega
        have a3 := fb_addI (x := x) (y := 1) (by omega) (by omega)
        have m1 : (24 * x1).toInt = 24 * x1.toInt := fb_mulJ rfl (by omega) (by omega)
        have m2 := fb_addI (x := 24 * x1) (y := x) (by omega) (by omega)
        have ix : (24 * x1 + x).toNatClampNeg = 24 * 3 + k := by show (24 * x1 + x).toInt.toNat = _; omega
        obtain ⟨w0, w7, w1, -, w2⟩ := t4 k (by omega)
        obtain ⟨r16, h16, b16, e⟩ := ob2_some e
        obtain ⟨rfl, rfl⟩ := pr_inj (cp_clauseField_3 (c := k) (k := 1) b16 hk rfl k24 (by decide))
        obtain ⟨r17, h17, b17, e⟩ := ob2_some e
        obtain ⟨rfl, rfl⟩ := pr_inj (cp_clauseField_3 (c := k) (k := 2) b17 hk rfl k24 (by decide))
        obtain ⟨r18, h18, b18, e⟩ := ob2_some e
        obtain ⟨rfl, rfl⟩ := pr_inj (cp_clauseField_3 (c := k) (k := 0) b18 hk rfl k24 (by decide))
        have w1 : (eA h 12 0 (4 * k + 0)).toInt = 16 + (eA g 0 7 (24 * 3 + k)).toInt := w1
        obtain ⟨-, e2⟩ := ob_if e2
        rw [ix] at e2
        -- how a turn ends, the deed's answers being the same
        have go : ∀ (r : Int32) (h9 g9 : HS), STD h9 g9 → 3 < (eA g9 0 0 3).toInt → (if r = -1 then some (x, h9) else f_X8_played_29d n h9 (x + 1)) = some z → (if r = -1 then some (x, g9) else f_X9_played_21 m g9 x1 (x + 1)) = some w → DONE h g z w := by
          intro r h9 g9 s9 ht9 q1 q2
          by_cases cr : r = -1
          · rw [if_pos cr] at q1 q2
            cases q1
            cases q2
            exact ⟨rfl, s9.1, s9.2.1⟩
          · rw [if_neg cr] at q1 q2
            have D := ih m h9 g9 (x + 1) z w q1 q2 s9 ht9 (by omega)
            exact ⟨D.1, D.2.1, D.2.2⟩
        have nxt : ∀ (zd wd : Int32 × HS) (S T : CL), DONE h g zd wd → Fr S h zd.2 → Fr T g wd.2 → (0, 1, 9) ∉ S → (∀ y ∈ KTC, y ∉ S) → (∀ y ∈ KTM, y ∉ T) → STD zd.2 wd.2 ∧ 3 < (eA wd.2 0 0 3).toInt := by
          intro zd wd S T D f k n1 n2 n4
          refine ⟨STD_done s D f k n1 n2 n4, ?_⟩
          have e : eA wd.2 0 0 3 = eA g 0 0 3 := by
            rw [← D.2.1.1.2.2.2.2.2.2.1, f.1 1 9 n1]
            exact s.1.1.2.2.2.2.2.2.1
          rw [e]; exact ht
        by_cases c4 : eA g 0 7 (24 * 3 + k) = 4
        · rw [if_pos c4] at e2
          have d4 := gi_of_eq c4
          rw [if_pos (gi_eq (by omega))] at e
          obtain ⟨v1, v2, v3⟩ := w2 (by omega)
          have v2 := v2 (by omega)
          have v3 := v3 (by omega)
          obtain ⟨r20, h20, b20, e⟩ := ob2_some e
          obtain ⟨rfl, rfl⟩ := pr_inj (cp_clauseField_3 (c := k) (k := 3) b20 hk rfl k24 (by decide))
          obtain ⟨-, e2⟩ := ob_if e2
          obtain ⟨-, e2⟩ := ob_if e2
          obtain ⟨-, e2⟩ := ob_if e2
          rw [v1, v2, v3] at e
          obtain ⟨r21, h21, b21, e⟩ := ob2_some e
          obtain ⟨d21, g21, q21, e2⟩ := ob2_some e2
          have D := j_fill s b21 q21
          have rr : r21 = d21 := D.1
          subst rr
          obtain ⟨s9, t9⟩ := nxt _ _ _ _ D (w_f_X8_fill _ _ _ _ _ b21) (w_f_X9_fill _ _ _ _ _ q21) (by decide) (by decide) (by decide)
          exact go _ _ _ s9 t9 e e2
        · rw [if_neg c4] at e2
          have d4 := gi_of_ne c4
          rw [if_neg (gi_ne (by omega))] at e
          by_cases c5 : eA g 0 7 (24 * 3 + k) = 5
          · rw [if_pos c5] at e2
            have d5 := gi_of_eq c5
            rw [if_pos (gi_eq (by omega))] at e
            obtain ⟨v1, v2, -⟩ := w2 (by omega)
            have v2 := v2 (by omega)
            obtain ⟨-, e2⟩ := ob_if e2
            obtain ⟨-, e2⟩ := ob_if e2
            rw [v1, v2] at e
            obtain ⟨r21, h21, b21, e⟩ := ob2_some e
            obtain ⟨d21, g21, q21, e2⟩ := ob2_some e2
            have D := j_send s.1 s.2.1 b21 q21
            have rr : r21 = d21 := D.1
            subst rr
            obtain ⟨s9, t9⟩ := nxt _ _ _ _ D (w_f_X8_send _ _ _ _ b21) (w_f_X9_send _ _ _ _ q21) (by decide) (by decide) (by decide)
            exact go _ _ _ s9 t9 e e2
          · rw [if_neg c5] at e2
            have d5 := gi_of_ne c5
            rw [if_neg (gi_ne (by omega))] at e
            by_cases c6 : eA g 0 7 (24 * 3 + k) = 6
            · rw [if_pos c6] at e2
              have d6 := gi_of_eq c6
              rw [if_pos (gi_eq (by omega))] at e
              obtain ⟨v1, -, -⟩ := w2 (by omega)
              obtain ⟨-, e2⟩ := ob_if e2
              rw [v1] at e
              obtain ⟨r21, h21, b21, e⟩ := ob2_some e
              obtain ⟨d21, g21, q21, e2⟩ := ob2_some e2
              have D := j_fatten s.1 s.2.1 b21 q21
              have rr : r21 = d21 := D.1
              subst rr
              obtain ⟨s9, t9⟩ := nxt _ _ _ _ D (w_f_X8_fatten _ _ _ b21) (w_f_X9_fatten _ _ _ q21) (by decide) (by decide) (by decide)
              exact go _ _ _ s9 t9 e e2
            · rw [if_neg c6] at e2
              have d6 := gi_of_ne c6
              rw [if_neg (gi_ne (by omega))] at e
              by_cases c7 : eA g 0 7 (24 * 3 + k) = 7
              · rw [if_pos c7] at e2
                have d7 := gi_of_eq c7
                rw [if_pos (gi_eq (by omega))] at e
                obtain ⟨v1, -, -⟩ := w2 (by omega)
                obtain ⟨-, e2⟩ := ob_if e2
                rw [v1] at e
                obtain ⟨r21, h21, b21, e⟩ := ob2_some e
                obtain ⟨d21, g21, q21, e2⟩ := ob2_some e2
                have D := j_pass s b21 q21
                have rr : r21 = d21 := D.1
                subst rr
                obtain ⟨s9, t9⟩ := nxt _ _ _ _ D (w_f_X8_pass _ _ _ b21) (w_f_X9_pass _ _ _ q21) (by decide) (by decide) (by decide)
                exact go _ _ _ s9 t9 e e2
              · rw [if_neg c7] at e2
                have d7 := gi_of_ne c7
                rw [if_neg (gi_ne (by omega))] at e
                exact go 0 _ _ s ht e e2
theorem j_played {h g : HS} {p : Int32} {z w : Int32 × HS} (s : STD h g) (e1 : f_X8_played h p = some z) (e2 : f_X9_played g p = some w) : DONE h g z w := by
  have y0 : (0 : Int32).toInt = 0 := rfl
  have y1 : (1 : Int32).toInt = 1 := rfl
  have y2 : (2 : Int32).toInt = 2 := rfl
  have y3 : (3 : Int32).toInt = 3 := rfl
  have s9 : eI h 1 9 = eA g 0 0 3 := s.1.1.2.2.2.2.2.2.1
  have rn := s.2.1.1
  unfold RN at rn
  have sb := fb_subI (x := eA g 0 0 3) (y := 1) (by omega) (by omega)
  unfold f_X8_played f_X8_played_24 at e1
  rw [s9] at e1
  unfold f_X9_played at e2
  have no : z = (-2, h) → w = (-2, g) → DONE h g z w := fun a b => by rw [a, b]; exact DONE_no s.1 s.2.1
  obtain ⟨r1, b1, e2⟩ := ob1_some e2
  by_cases c0 : p = 0
  · rw [if_pos c0] at e1
    have d := gi_of_eq c0
    rcases mx_in b1 with ⟨k, q⟩ | ⟨k, q⟩
    · rw [if_pos k] at e2
      rw [if_pos (gi_le (by omega))] at e1
      exact no (Option.some.inj e1).symm (Option.some.inj e2).symm
    · rw [if_neg (by rw [k]; decide)] at e2
      rw [if_neg (gi_nle (by omega))] at e1
      exact j_played_0 (by omega) _ _ _ _ _ _ _ e1 e2 s (by omega) (by decide)
  · rw [if_neg c0] at e1
    have d0 := gi_of_ne c0
    by_cases c1 : p = 1
    · rw [if_pos c1] at e1
      have d := gi_of_eq c1
      rcases mx_in b1 with ⟨k, q⟩ | ⟨k, q⟩
      · rw [if_pos k] at e2
        rw [if_pos (gi_le (by omega))] at e1
        exact no (Option.some.inj e1).symm (Option.some.inj e2).symm
      · rw [if_neg (by rw [k]; decide)] at e2
        rw [if_neg (gi_nle (by omega))] at e1
        exact j_played_1 (by omega) _ _ _ _ _ _ _ e1 e2 s (by omega) (by decide)
    · rw [if_neg c1] at e1
      have d1 := gi_of_ne c1
      by_cases c2 : p = 2
      · rw [if_pos c2] at e1
        have d := gi_of_eq c2
        rcases mx_in b1 with ⟨k, q⟩ | ⟨k, q⟩
        · rw [if_pos k] at e2
          rw [if_pos (gi_le (by omega))] at e1
          exact no (Option.some.inj e1).symm (Option.some.inj e2).symm
        · rw [if_neg (by rw [k]; decide)] at e2
          rw [if_neg (gi_nle (by omega))] at e1
          exact j_played_2 (by omega) _ _ _ _ _ _ _ e1 e2 s (by omega) (by decide)
      · rw [if_neg c2] at e1
        have d2 := gi_of_ne c2
        by_cases c3 : p = 3
        · rw [if_pos c3] at e1
          have d := gi_of_eq c3
          rcases mx_in b1 with ⟨k, q⟩ | ⟨k, q⟩
          · rw [if_pos k] at e2
            rw [if_pos (gi_le (by omega))] at e1
            exact no (Option.some.inj e1).symm (Option.some.inj e2).symm
          · rw [if_neg (by rw [k]; decide)] at e2
            rw [if_neg (gi_nle (by omega))] at e1
            exact j_played_3 (by omega) _ _ _ _ _ _ _ e1 e2 s (by omega) (by decide)
        · rw [if_neg c3] at e1
          have d3 := gi_of_ne c3
          have ez : z = (-2, h) := by
            by_cases cc : eA g 0 0 3 ≤ p
            · rw [if_pos cc] at e1; exact (Option.some.inj e1).symm
            · rw [if_neg cc] at e1; exact (Option.some.inj e1).symm
          rcases mx_in b1 with ⟨k, q⟩ | ⟨k, q⟩
          · rw [if_pos k] at e2
            exact no ez (Option.some.inj e2).symm
          · omega
/-! what is asked -/
theorem j_of {h g : HS} {p k : Int32} {z w : Int32 × HS} (s : STD h g) (e1 : f_X8_of h p k = some z) (e2 : f_X9_of g p k = some w) : z.1 = w.1 := by
  have y0 : (0 : Int32).toInt = 0 := rfl
  have y9 : (9 : Int32).toInt = 9 := rfl
  obtain ⟨n1, n0, n4⟩ := std_n s
  have s3 : eI h 1 3 = eA g 0 0 1 := s.1.1.1
  unfold f_X8_of f_X8_of_21 f_X8_of_50 at e1
  unfold f_X9_of f_X9_of_18 f_X9_of_47 at e2
  obtain ⟨r1, h1, a1, e1⟩ := ob2_some e1
  obtain ⟨k1, k2⟩ := cp_hasGoose a1 (by rw [s3]; exact n1.2)
  have k1 : h = h1 := k1.symm
  subst k1
  rw [s3] at k2
  obtain ⟨r2, g2, b2, e2⟩ := ob2_some e2
  obtain ⟨l1, l2⟩ := mp_isGoose b2 n1
  have l1 : g = g2 := l1.symm
  subst l1
  rcases l2 with ⟨l2, l3⟩ | ⟨l2, l3, l4⟩
  · have l2 : r2 = 0 := l2
    rw [if_pos l2] at e2
    rcases k2 with ⟨k2, -⟩ | ⟨-, k3, k4⟩
    · have k2 : r1 = 0 := k2
      rw [if_pos k2] at e1
      cases e1
      cases e2
      rfl
    · exact absurd ⟨k3, k4⟩ l3
  · have l2 : r2 = 1 := l2
    rw [if_neg (by rw [l2]; decide)] at e2
    rcases k2 with ⟨-, k3⟩ | ⟨k2, -⟩
    · exact absurd ⟨l3, l4⟩ k3
    have k2 : r1 = 1 := k2
    rw [if_neg (by rw [k2]; decide)] at e1
    obtain ⟨q, hq⟩ : ∃ q : Nat, p.toInt = (q : Int) := ⟨p.toInt.toNat, by omega⟩
    obtain ⟨r3, b3, e2⟩ := ob1_some e2
    rcases mx_in b3 with ⟨m, u⟩ | ⟨m, u⟩
    · rw [if_pos m] at e2
      cases e2
      by_cases c1 : k < 0
      · rw [if_pos c1] at e1; cases e1; rfl
      · rw [if_neg c1] at e1
        have d1 := gi_of_nlt c1
        rw [if_neg (gi_nle (by omega))] at e1
        cases e1
        rfl
    · rw [if_neg (by rw [m]; decide)] at e2
      rw [if_neg (gi_nlt (by omega)), if_pos (gi_le (by omega))] at e1
      by_cases c9 : k = 9
      · rw [if_pos c9] at e1
        have d9 := gi_of_eq c9
        rw [if_pos (gi_le (by omega))] at e2
        obtain ⟨r7, h7, a7, e1⟩ := ob2_some e1
        obtain ⟨r6, g6, b6, e2⟩ := ob2_some e2
        obtain ⟨j1, -⟩ := j_isTrue s hq (by omega) a7 b6
        have j1 : r7 = r6 := j1
        rw [j1] at e1
        by_cases c0 : r6 = 0
        · rw [if_pos c0] at e1 e2; cases e1; cases e2; rfl
        · rw [if_neg c0] at e1 e2; cases e1; cases e2; rfl
      · rw [if_neg c9] at e1
        have d9 := gi_of_ne c9
        rw [if_neg (gi_nle (by omega))] at e2
        obtain ⟨r6, h6, a6, e1⟩ := ob2_some e1
        obtain ⟨rfl, rfl⟩ := pr_inj (cp_ofGoose (q := q) (k := k.toInt.toNat) a6 hq (by omega) (by rw [s3]; omega) (by rw [s3]; exact n1.2) (by omega))
        obtain ⟨r8, g8, b8, e2⟩ := ob2_some e2
        obtain ⟨rfl, rfl⟩ := pr_inj (mp_ofGoose (q := q) (k := k.toInt.toNat) b8 hq (by omega) (by omega) (by omega))
        cases e1
        cases e2
        exact sr_g s.1 (by omega) (by omega)
theorem j_inkcall {h g : HS} {p l r : Int32} {z w : Int32 × HS} (s : STD h g) (e1 : f_X8_ink h p l r = some z) (e2 : f_X9_ink g p l r = some w) : z.1 = w.1 := by
  obtain ⟨n1, n0, n4⟩ := std_n s
  have s3 : eI h 1 3 = eA g 0 0 1 := s.1.1.1
  unfold f_X8_ink f_X8_ink_19 at e1
  unfold f_X9_ink f_X9_ink_26 f_X9_ink_27 at e2
  obtain ⟨r1, h1, a1, e1⟩ := ob2_some e1
  obtain ⟨k1, k2⟩ := cp_hasGoose a1 (by rw [s3]; exact n1.2)
  have k1 : h = h1 := k1.symm
  subst k1
  rw [s3] at k2
  obtain ⟨r2, g2, b2, e2⟩ := ob2_some e2
  obtain ⟨l1, l2⟩ := mp_isGoose b2 n1
  have l1 : g = g2 := l1.symm
  subst l1
  rcases l2 with ⟨l2, l3⟩ | ⟨l2, l3, l4⟩
  · have l2 : r2 = 0 := l2
    rw [if_pos l2] at e2
    rcases k2 with ⟨k2, -⟩ | ⟨-, k3, k4⟩
    · have k2 : r1 = 0 := k2
      rw [if_pos k2] at e1
      cases e1
      cases e2
      rfl
    · exact absurd ⟨k3, k4⟩ l3
  · have l2 : r2 = 1 := l2
    rw [if_neg (by rw [l2]; decide)] at e2
    rcases k2 with ⟨-, k3⟩ | ⟨k2, -⟩
    · exact absurd ⟨l3, l4⟩ k3
    have k2 : r1 = 1 := k2
    rw [if_neg (by rw [k2]; decide)] at e1
    obtain ⟨r3, a3, e1⟩ := ob1_some e1
    obtain ⟨r4, b4, e2⟩ := ob1_some e2
    rcases cp_isQuill a3 with ⟨u1, u2⟩ | ⟨u1, u2⟩ <;> rcases mp_isQuill b4 with ⟨v1, v2⟩ | ⟨v1, v2⟩
    · rw [if_pos u1] at e1
      rw [if_pos v1] at e2
      cases e1
      cases e2
      rfl
    · exact absurd v2 u2
    · exact absurd u2 v2
    · rw [if_neg (by rw [u1]; decide)] at e1
      rw [if_neg (by rw [v1]; decide)] at e2
      obtain ⟨r5, h5, a5, e1⟩ := ob2_some e1
      obtain ⟨r6, g6, b6, e2⟩ := ob2_some e2
      cases e1
      cases e2
      exact (j_ink (q := p.toInt.toNat) s (by omega) (by omega) u2 a5 b6).1
theorem j_holds {h g : HS} {z w : Int32 × HS} (s : STD h g) (e1 : f_X8_holds h = some z) (e2 : f_X9_holds g = some w) : z.1 = w.1 := by
  have y0 : (0 : Int32).toInt = 0 := rfl
  have y1 : (1 : Int32).toInt = 1 := rfl
  have y999 : (999 : Int32).toInt = 999 := rfl
  obtain ⟨n1, n0, n4⟩ := std_n s
  have s5 : eI h 1 5 = eA g 0 0 120 := s.1.1.2.2.1
  have s6 : eI h 1 6 = eA g 0 0 2 := s.1.1.2.2.2.1
  have m2 := s.2.1.1.2.2.2.2.2
  unfold f_X8_holds f_X4_dailyNeed at e1
  obtain ⟨r1, h1, a1, e1⟩ := ob2_some e1
  obtain ⟨r0, h0, a0, a1⟩ := ob2_some a1
  obtain ⟨rfl, rfl⟩ := Prod.mk.inj (Option.some.inj a1)
  unfold f_X9_holds f_X9_holds_45 at e2
  obtain ⟨r2, g2, b2, e2⟩ := ob2_some e2
  unfold f_X4_countFate at a0
  unfold f_X9_geeseOf at b2
  obtain ⟨k1, k2, k3, k4⟩ := j_count s.1 n1 _ _ _ _ _ _ a0 b2 (by decide) (by decide) (by decide)
  have k1 : r0 = r2 := k1
  have k2 : h = h0 := k2.symm
  have k3 : g = g2 := k3.symm
  have k4 : 0 ≤ r0.toInt ∧ (r0.toInt ≤ 10 ∨ r0.toInt ≤ (0 : Int32).toInt) := k4
  subst k2
  subst k3
  subst k1
  rw [s5, s6] at e1
  have a := fb_addI (x := eA g 0 0 2) (y := r0) (by omega) (by omega)
  by_cases c : eA g 0 0 2 + r0 = 0
  · rw [if_pos c] at e2
    have d := gi_of_eq c
    rw [if_neg (gi_nle (by omega))] at e1
    cases e1
    cases e2
    rfl
  · rw [if_neg c] at e2
    have d := gi_of_ne c
    rw [if_pos (gi_le (by omega))] at e1
    obtain ⟨-, e1⟩ := ob_if e1
    obtain ⟨-, e2⟩ := ob_if e2
    cases e1
    show (if eA g 0 0 120 / (eA g 0 0 2 + r0) < 999 then eA g 0 0 120 / (eA g 0 0 2 + r0) else 999) = w.1
    generalize eA g 0 0 120 / (eA g 0 0 2 + r0) = D at *
    by_cases c9 : D ≤ 999
    · rw [if_pos c9] at e2
      cases e2
      by_cases c8 : D < 999
      · rw [if_pos c8]
      · rw [if_neg c8]
        have q1 := gi_of_nlt c8
        have q2 := gi_of_le c9
        show (999 : Int32) = D
        exact gi_eq (by omega)
    · rw [if_neg c9] at e2
      cases e2
      rw [if_neg (fun y => by have := gi_of_lt y; have := gi_of_nle c9; omega)]
theorem j_about {h g : HS} {p : Int32} {z w : Int32 × HS} (s : STD h g) (tp : eI h 3 1 = eI g 0 3) (e1 : f_X8_about h p = some z) (e2 : f_X9_about g p = some w) : z.1 = w.1 := by
  have y0 : (0 : Int32).toInt = 0 := rfl
  have y1 : (1 : Int32).toInt = 1 := rfl
  have y2 : (2 : Int32).toInt = 2 := rfl
  have y10 : (10 : Int32).toInt = 10 := rfl
  have y20 : (20 : Int32).toInt = 20 := rfl
  have y25 : (25 : Int32).toInt = 25 := rfl
  have y26 : (26 : Int32).toInt = 26 := rfl
  have y100 : (100 : Int32).toInt = 100 := rfl
  obtain ⟨n1, n0, n4⟩ := std_n s
  obtain ⟨s1, s2, s3, s4, s5, s6, s7, s8, s9⟩ := s.1.1
  unfold f_X8_about at e1
  unfold f_X9_about f_X9_about_203 at e2
  by_cases c0 : p = 0
  · rw [if_pos c0] at e1 e2; cases e1; cases e2; exact s2
  rw [if_neg c0] at e1 e2
  by_cases c1 : p = 1
  · rw [if_pos c1] at e1 e2; cases e1; cases e2; exact s1
  rw [if_neg c1] at e1 e2
  by_cases c2 : p = 2
  · rw [if_pos c2] at e1 e2; cases e1; cases e2; exact s3
  rw [if_neg c2] at e1 e2
  by_cases c3 : p = 3
  · rw [if_pos c3] at e1 e2; cases e1; cases e2; exact s4
  rw [if_neg c3] at e1 e2
  by_cases c4 : p = 4
  · rw [if_pos c4] at e1 e2; cases e1; cases e2; exact s5
  rw [if_neg c4] at e1 e2
  by_cases c5 : p = 5
  · rw [if_pos c5] at e1 e2; cases e1; cases e2; exact s6
  rw [if_neg c5] at e1 e2
  by_cases c6 : p = 6
  · rw [if_pos c6] at e1 e2; cases e1; cases e2; exact s7
  rw [if_neg c6] at e1 e2
  by_cases c7 : p = 7
  · rw [if_pos c7] at e1 e2; cases e1; cases e2; exact s8
  rw [if_neg c7] at e1 e2
  by_cases c8 : p = 8
  · rw [if_pos c8] at e1 e2; cases e1; cases e2; exact s9
  rw [if_neg c8] at e1 e2
  by_cases c9 : p = 9
  · rw [if_pos c9] at e1 e2; cases e1; cases e2; exact tp
  rw [if_neg c9] at e1 e2
  obtain ⟨r11, h11, a11, e1⟩ := ob2_some e1
  cases e1
  show r11 = w.1
  unfold f_X8_aboutMany at a11
  obtain ⟨r12, g12, b12, e2⟩ := ob2_some e2
  obtain ⟨l1, l2⟩ := mp_isMarket b12 n0
  have l1 : g = g12 := l1.symm
  subst l1
  have pr := fb_rng p
  -- p - 10 over the whole numbers, where it may be a market
  have p10 : (p - 10).toInt = p.toInt - 10 ∨ p.toInt < -2147483638 := by
    by_cases q : p.toInt < -2147483638
    · exact Or.inr q
    · left
      have := fb_subI (x := p) (y := 10) (by omega) (by omega)
      omega
  have low : p.toInt < -2147483638 → 2147483638 ≤ (p - 10).toInt := by
    intro q
    rw [Int32.toInt_sub, y10]
    rw [Int.bmod_def]
    omega
  rcases l2 with ⟨l2, l3⟩ | ⟨l2, l3, l4⟩
  · have l2 : r12 = 0 := l2
    rw [if_pos l2] at e2
    obtain ⟨r13, b13, e2⟩ := ob1_some e2
    rcases mx_in b13 with ⟨m, u⟩ | ⟨m, u⟩
    · rw [if_pos m] at e2
      cases e2
      show r11 = -2
      have a24 : f_X8_aboutMany_24 h p = some (r11, h11) := by
        by_cases q : p < 20
        · rw [if_pos q] at a11; exact a11
        · rw [if_neg q] at a11
          have dq := gi_of_nlt q
          rw [if_pos (gi_le (by omega))] at a11
          exact a11
      unfold f_X8_aboutMany_24 f_X8_aboutMany_44 at a24
      by_cases q : p < 10
      · rw [if_pos q] at a24; cases a24; rfl
      · rw [if_neg q, s2] at a24
        have dq := gi_of_nlt q
        have am := fb_addI (x := 10) (y := eA g 0 0 0) (by omega) (by omega)
        rw [if_neg (gi_nlt (by omega))] at a24
        cases a24
        rfl
    · rw [if_neg (by rw [m]; decide)] at e2
      rw [if_neg (gi_nlt (by omega)), if_neg (gi_nle (by omega))] at a11
      obtain ⟨r14, h14, a14, a11⟩ := ob2_some a11
      obtain ⟨r15, g15, b15, e2⟩ := ob2_some e2
      unfold f_X4_countFate at a14
      unfold f_X9_geeseOf at b15
      obtain ⟨k1, -⟩ := j_count s.1 n1 _ _ _ _ _ _ a14 b15 (by decide) (by decide) (by decide)
      cases a11
      cases e2
      exact k1
  · have l2 : r12 = 1 := l2
    rw [if_neg (by rw [l2]; decide)] at e2
    have pe : (p - 10).toInt = p.toInt - 10 := by
      rcases p10 with q | q
      · exact q
      · have := low q; omega
    obtain ⟨m, hm⟩ : ∃ m : Nat, (p - 10).toInt = (m : Int) := ⟨(p - 10).toInt.toNat, by omega⟩
    rw [if_pos (gi_lt (by omega))] at a11
    unfold f_X8_aboutMany_24 at a11
    have am := fb_addI (x := 10) (y := eI h 1 4) (by rw [s2]; omega) (by rw [s2]; omega)
    rw [if_neg (gi_nlt (by omega)), if_pos (gi_lt (by rw [am, s2]; omega))] at a11
    have q4 : (m : Int) < (eI h 1 4).toInt := by rw [s2]; omega
    have q44 : (eI h 1 4).toInt ≤ 4 := by rw [s2]; exact n0.2
    obtain ⟨r6, h6, a6, a11⟩ := ob2_some a11
    obtain ⟨rfl, rfl⟩ := pr_inj (cp_ofMarket (q := m) (k := 0) a6 hm rfl q4 q44 (by decide))
    obtain ⟨r7, h7, a7, a11⟩ := ob2_some a11
    obtain ⟨rfl, rfl⟩ := pr_inj (cp_ofMarket (q := m) (k := 1) a7 hm rfl q4 q44 (by decide))
    obtain ⟨r8, h8, a8, a11⟩ := ob2_some a11
    obtain ⟨rfl, rfl⟩ := pr_inj (cp_ofMarket (q := m) (k := 2) a8 hm rfl q4 q44 (by decide))
    obtain ⟨rfl, rfl⟩ := Prod.mk.inj (Option.some.inj a11)
    have m3 : (3 * (p - 10)).toInt = 3 * (p - 10).toInt := fb_mulJ rfl (by omega) (by omega)
    have m4 := fb_addI (x := 10) (y := 3 * (p - 10)) (by omega) (by omega)
    have m5 := fb_addI (x := 10 + 3 * (p - 10)) (y := 1) (by omega) (by omega)
    have m6 := fb_addI (x := 10 + 3 * (p - 10)) (y := 2) (by omega) (by omega)
    have i0 : (10 + 3 * (p - 10)).toNatClampNeg = 10 + (3 * m + 0) := by show (10 + 3 * (p - 10)).toInt.toNat = _; omega
    have i1 : (10 + 3 * (p - 10) + 1).toNatClampNeg = 10 + (3 * m + 1) := by show (10 + 3 * (p - 10) + 1).toInt.toNat = _; omega
    have i2 : (10 + 3 * (p - 10) + 2).toNatClampNeg = 10 + (3 * m + 2) := by show (10 + 3 * (p - 10) + 2).toInt.toNat = _; omega
    obtain ⟨-, e2⟩ := ob_if e2
    obtain ⟨-, e2⟩ := ob_if e2
    obtain ⟨-, e2⟩ := ob_if e2
    rw [i0, i1, i2] at e2
    cases e2
    show eA h 1 1 (3 * m + 0) * 100 + eA h 1 1 (3 * m + 1) * 10 + eA h 1 1 (3 * m + 2) = 100 * eA g 0 0 (10 + (3 * m + 0)) + 10 * eA g 0 0 (10 + (3 * m + 1)) + eA g 0 0 (10 + (3 * m + 2))
    rw [sr_m s.1 (by omega) (show 0 < 3 by decide), sr_m s.1 (by omega) (show 1 < 3 by decide), sr_m s.1 (by omega) (show 2 < 3 by decide), Int32.mul_comm 100, Int32.mul_comm 10]
/-! plucks -/
theorem j_plucks12 {p : Int32} {q : Nat} (hp : p.toInt = (q : Int)) : ∀ (n m : Nat) (h g : HS) (x f : Int32) (z w : Int32 × HS), f_X8_plucks_12 n h p f x = some z → f_X9_plucks_12 m g p x = some w → STD h g → (q : Int) < (eA g 0 0 1).toInt → f = gc (eA g 0 0) 30 q 1 → 0 ≤ x.toInt → z.1 = w.1 := by
  have y1 : (1 : Int32).toInt = 1 := rfl
  intro n
  induction n with
  | zero => intro m h g x f z w e; cases e
  | succ n ih =>
    intro m h g x f z w e e2 s hq hf hx
    cases m with
    | zero => cases e2
    | succ m =>
      obtain ⟨n1, n0, n4⟩ := std_n s
      have gr := s.2.1.2.2.1.2.2 q hq
      rw [f_X8_plucks_12_s] at e
      rw [f_X9_plucks_12_s] at e2
      obtain ⟨d3, g3, b3, e2⟩ := ob2_some e2
      obtain ⟨rfl, rfl⟩ := pr_inj (mp_ofGoose (q := q) (k := 1) b3 hp rfl (by omega) (by decide))
      rw [hf] at e
      by_cases c : gc (eA g 0 0) 30 q 1 < x
      · rw [if_pos c] at e e2
        cases e
        cases e2
        rfl
      · rw [if_neg c] at e e2
        have d := gi_of_nlt c
        have fr : 0 ≤ (gc (eA g 0 0) 30 q 1).toInt ∧ (gc (eA g 0 0) 30 q 1).toInt ≤ 99 := gr.2.1
        have sb := fb_subI (x := gc (eA g 0 0) 30 q 1) (y := x) (by omega) (by omega)
        have ax := fb_addI (x := x) (y := 1) (by omega) (by omega)
        obtain ⟨d5, g5, b5, e2⟩ := ob2_some e2
        obtain ⟨rfl, rfl⟩ := pr_inj (mp_ofGoose (q := q) (k := 2) b5 hp rfl (by omega) (by decide))
        obtain ⟨d6, g6, b6, e2⟩ := ob2_some e2
        obtain ⟨rfl, rfl⟩ := pr_inj (mp_ofGoose (q := q) (k := 3) b6 hp rfl (by omega) (by decide))
        obtain ⟨d7, g7, b7, e2⟩ := ob2_some e2
        obtain ⟨rfl, rfl⟩ := pr_inj (mp_ofGoose (q := q) (k := 1) b7 hp rfl (by omega) (by decide))
        obtain ⟨r3, h3, a3, e⟩ := ob2_some e
        obtain ⟨d8, g8, b8, e2⟩ := ob2_some e2
        obtain ⟨j1, j2⟩ := j_trueWith s hp hq (by unfold MB; omega) a3 b8
        have j1 : r3 = d8 := j1
        subst j1
        have f3 := w_f_X1_isTrueWith _ _ _ _ a3
        have k8 := w_f_X9_isTrueBy _ _ _ _ _ _ b8
        have f3 : Fr S_X1_isTrueWith h h3 := f3
        have k8 : Fr S_X9_isTrueBy g g8 := k8
        have s8 : STD h3 g8 := STD_fr s f3 k8 (by decide) (by decide) (by decide) (by decide)
        have g80 : eA g8 0 0 = eA g 0 0 := k8.2.1 0 0 (by decide)
        by_cases c0 : r3 = 0
        · rw [if_pos c0] at e e2
          exact ih m h3 g8 (x + 1) _ z w e e2 s8 (by rw [g80]; exact hq) (by rw [g80]) (by omega)
        · rw [if_neg c0] at e e2
          cases e
          cases e2
          rfl
theorem j_plucks {h g : HS} {p : Int32} {z w : Int32 × HS} (s : STD h g) (e1 : f_X8_plucks h p = some z) (e2 : f_X9_plucks g p = some w) : z.1 = w.1 := by
  obtain ⟨n1, n0, n4⟩ := std_n s
  have s3 : eI h 1 3 = eA g 0 0 1 := s.1.1.1
  unfold f_X8_plucks at e1
  unfold f_X9_plucks at e2
  obtain ⟨r1, h1, a1, e1⟩ := ob2_some e1
  obtain ⟨r2, g2, b2, e2⟩ := ob2_some e2
  obtain ⟨l1, l2⟩ := mp_isGoose b2 n1
  have l1 : g = g2 := l1.symm
  subst l1
  rcases l2 with ⟨l2, l3⟩ | ⟨l2, l3, l4⟩
  · have l2 : r2 = 0 := l2
    rw [if_pos l2] at e2
    cases e2
    obtain ⟨rfl, rfl⟩ := pr_inj (cp_ofGoose_no a1 (by rw [s3]; exact l3))
    rw [show (8589934592 : Nat) = 8589934591 + 1 from rfl, f_X8_plucks_12_s, if_pos (by decide)] at e1
    cases e1
    rfl
  · have l2 : r2 = 1 := l2
    rw [if_neg (by rw [l2]; decide)] at e2
    obtain ⟨rfl, rfl⟩ := pr_inj (cp_ofGoose (q := p.toInt.toNat) (k := 1) a1 (by omega) rfl (by rw [s3]; omega) (by rw [s3]; exact n1.2) (by decide))
    exact j_plucks12 (q := p.toInt.toNat) (by omega) _ _ _ _ _ _ _ _ e1 e2 s (by omega) (sr_g s.1 (by omega) (by decide)) (by decide)
/-! what is known -/
theorem hv_same {p r d : Int32} (p0 : 0 ≤ p.toInt ∧ p.toInt ≤ 2) (e1 : f_X8_halvesOf p = some r) (e2 : f_X9_halves p = some d) : r = d := by
  have y0 : (0 : Int32).toInt = 0 := rfl
  have y1 : (1 : Int32).toInt = 1 := rfl
  have y2 : (2 : Int32).toInt = 2 := rfl
  unfold f_X8_halvesOf f_X8_halvesOf_16 f_X8_halvesOf_21 at e1
  unfold f_X9_halves f_X9_halves_9 at e2
  by_cases c0 : p = 0
  · rw [if_pos c0] at e1 e2; cases e1; cases e2; rfl
  · rw [if_neg c0] at e1 e2
    have d0 := gi_of_ne c0
    by_cases c1 : p = 1
    · rw [if_pos c1] at e1; cases e1; cases e2; rfl
    · rw [if_neg c1] at e1
      have d1 := gi_of_ne c1
      rw [if_pos (gi_eq (by omega))] at e1
      cases e1; cases e2; rfl
/-- whether one goose tells: the class -/
theorem cp_tells {h g : HS} {x l en : Int32} {z : Int32 × HS} {q : Nat} (s : STD h g) (hx : x.toInt = (q : Int)) (hq : (q : Int) < (eA g 0 0 1).toInt) (e : f_X8_tells h x l en = some z) : (z.1 = 0 ∨ z.1 = 1) ∧ (¬ gc (eA g 0 0) 30 q 2 = l → z.1 = 0) ∧ (gc (eA g 0 0) 30 q 2 = l → ¬ en = 0 → (gc (eA g 0 0) 30 q 4 = 4 → z.1 = 1) ∧ (¬ gc (eA g 0 0) 30 q 4 = 4 → z.1 = 0)) ∧ (gc (eA g 0 0) 30 q 2 = l → en = 0 → (¬ gc (eA g 0 0) 30 q 4 = 2 → z.1 = 0) ∧ (gc (eA g 0 0) 30 q 4 = 2 → ∀ w : Int32 × HS, f_X9_isTrue g x = some w → z.1 = w.1)) := by
  obtain ⟨n1, n0, n4⟩ := std_n s
  have s3 : eI h 1 3 = eA g 0 0 1 := s.1.1.1
  have b1 : (q : Int) < (eI h 1 3).toInt := by rw [s3]; exact hq
  have b2 : (eI h 1 3).toInt ≤ 10 := by rw [s3]; exact n1.2
  unfold f_X8_tells f_X8_tells_70 f_X8_tells_71 f_X8_tells_37 at e
  obtain ⟨r1, h1, a1, e⟩ := ob2_some e
  obtain ⟨rfl, rfl⟩ := pr_inj (cp_ofGoose (q := q) (k := 2) a1 hx rfl b1 b2 (by decide))
  rw [sr_g s.1 hq (show 2 < 9 by decide)] at e
  by_cases cl : gc (eA g 0 0) 30 q 2 = l
  · rw [if_pos cl] at e
    by_cases ce : en = 0
    · rw [if_pos ce] at e
      obtain ⟨r4, h4, a4, e⟩ := ob2_some e
      obtain ⟨rfl, rfl⟩ := pr_inj (cp_ofGoose (q := q) (k := 4) a4 hx rfl b1 b2 (by decide))
      rw [sr_g s.1 hq (show 4 < 9 by decide)] at e
      by_cases cf : gc (eA g 0 0) 30 q 4 = 2
      · rw [if_pos cf] at e
        obtain ⟨r6, h6, a6, e⟩ := ob2_some e
        by_cases c0 : r6 = 0
        · rw [if_pos c0, if_pos (Or.inl rfl)] at e
          cases e
          refine ⟨Or.inl rfl, fun k => absurd cl k, fun _ k => absurd ce k, fun _ _ => ⟨fun k => absurd cf k, fun _ w ew => ?_⟩⟩
          obtain ⟨j1, -⟩ := j_isTrue s hx hq a6 ew
          have j1 : r6 = w.1 := j1
          exact c0.symm.trans j1
        · rw [if_neg c0, if_pos (Or.inr rfl)] at e
          cases e
          refine ⟨Or.inr rfl, fun k => absurd cl k, fun _ k => absurd ce k, fun _ _ => ⟨fun k => absurd cf k, fun _ w ew => ?_⟩⟩
          obtain ⟨j1, j2⟩ := j_isTrue s hx hq a6 ew
          have j1 : r6 = w.1 := j1
          rcases j2 with j2 | j2
          · exact absurd (j1.trans j2) c0
          · exact j2.symm
      · rw [if_neg cf, if_pos (Or.inl rfl)] at e
        cases e
        exact ⟨Or.inl rfl, fun k => absurd cl k, fun _ k => absurd ce k, fun _ _ => ⟨fun _ => rfl, fun k => absurd k cf⟩⟩
    · rw [if_neg ce] at e
      obtain ⟨r8, h8, a8, e⟩ := ob2_some e
      obtain ⟨rfl, rfl⟩ := pr_inj (cp_ofGoose (q := q) (k := 4) a8 hx rfl b1 b2 (by decide))
      rw [sr_g s.1 hq (show 4 < 9 by decide)] at e
      by_cases cf : gc (eA g 0 0) 30 q 4 = 4
      · rw [if_pos cf, if_pos (Or.inr rfl)] at e
        cases e
        exact ⟨Or.inr rfl, fun k => absurd cl k, fun _ _ => ⟨fun _ => rfl, fun k => absurd cf k⟩, fun _ k => absurd k ce⟩
      · rw [if_neg cf, if_pos (Or.inl rfl)] at e
        cases e
        exact ⟨Or.inl rfl, fun k => absurd cl k, fun _ _ => ⟨fun k => absurd k cf, fun _ => rfl⟩, fun _ k => absurd k ce⟩
  · rw [if_neg cl] at e
    cases e
    exact ⟨Or.inl rfl, fun _ => rfl, fun k => absurd k cl, fun k => absurd k cl⟩
/-- what one goose brought till a day: the reference -/
theorem mp_brought {g : HS} {x l d en : Int32} {w : Int32 × HS} {q : Nat} (hx : x.toInt = (q : Int)) (hq : q < 10) (e : f_X9_brought g x l d en = some w) : (¬ gc (eA g 0 0) 30 q 2 = l ∨ gc (eA g 0 0) 30 q 7 = -1 ∨ d < gc (eA g 0 0) 30 q 7 ∨ (en = 0 ∧ ¬ gc (eA g 0 0) 30 q 4 = 2) ∨ (¬ en = 0 ∧ ¬ gc (eA g 0 0) 30 q 4 = 4) → w.1 = 0) ∧ (gc (eA g 0 0) 30 q 2 = l → ¬ gc (eA g 0 0) 30 q 7 = -1 → ¬ d < gc (eA g 0 0) 30 q 7 → (¬ en = 0 → gc (eA g 0 0) 30 q 4 = 4 → f_X9_halves (gc (eA g 0 0) 30 q 3) = some w.1) ∧ (en = 0 → gc (eA g 0 0) 30 q 4 = 2 → ∃ v : Int32 × HS, f_X9_isTrue g x = some v ∧ (v.1 = 0 → w.1 = 0) ∧ (¬ v.1 = 0 → f_X9_halves (gc (eA g 0 0) 30 q 3) = some w.1))) := by
  unfold f_X9_brought f_X9_brought_51 at e
  obtain ⟨d1, g1, b1, e⟩ := ob2_some e
  obtain ⟨rfl, rfl⟩ := pr_inj (mp_ofGoose (q := q) (k := 2) b1 hx rfl hq (by decide))
  by_cases cl : gc (eA g 0 0) 30 q 2 = l
  · rw [if_pos cl] at e
    obtain ⟨d3, g3, b3, e⟩ := ob2_some e
    obtain ⟨rfl, rfl⟩ := pr_inj (mp_ofGoose (q := q) (k := 7) b3 hx rfl hq (by decide))
    by_cases c7 : gc (eA g 0 0) 30 q 7 = -1
    · rw [if_pos c7] at e
      cases e
      exact ⟨fun _ => rfl, fun _ k => absurd c7 k⟩
    · rw [if_neg c7] at e
      obtain ⟨d5, g5, b5, e⟩ := ob2_some e
      obtain ⟨rfl, rfl⟩ := pr_inj (mp_ofGoose (q := q) (k := 7) b5 hx rfl hq (by decide))
      by_cases cd : d < gc (eA g 0 0) 30 q 7
      · rw [if_pos cd] at e
        cases e
        exact ⟨fun _ => rfl, fun _ _ k => absurd cd k⟩
      · rw [if_neg cd] at e
        obtain ⟨d7, g7, b7, e⟩ := ob2_some e
        obtain ⟨rfl, rfl⟩ := pr_inj (mp_ofGoose (q := q) (k := 4) b7 hx rfl hq (by decide))
        unfold f_X9_brought_48 f_X9_brought_51 f_X9_brought_66 f_X9_brought_79 at e
        by_cases ce : en = 0
        · rw [if_pos ce] at e
          by_cases cf : gc (eA g 0 0) 30 q 4 = 2
          · rw [if_pos cf, if_pos ce] at e
            obtain ⟨v, g11, b11, e⟩ := ob2_some e
            refine ⟨fun k => ?_, fun _ _ _ => ⟨fun k => absurd ce k, fun _ _ => ⟨(v, g11), b11, fun v0 => ?_, fun v0 => ?_⟩⟩⟩
            · rcases k with k | k | k | ⟨-, k⟩ | ⟨k, -⟩
              · exact absurd cl k
              · exact absurd k c7
              · exact absurd k cd
              · exact absurd cf k
              · exact absurd ce k
            · have v0 : v = 0 := v0
              rw [if_pos v0] at e
              cases e
              rfl
            · have v0 : ¬ v = 0 := v0
              rw [if_neg v0] at e
              obtain ⟨d13, g13, b13, e⟩ := ob2_some e
              have k11 := w_f_X9_isTrue _ _ _ b11
              have k11 : Fr S_X9_isTrue g g11 := k11
              have t := mp_ofGoose (q := q) (k := 3) b13 hx rfl hq (by decide)
              rw [k11.2.1 0 0 (by decide)] at t
              obtain ⟨rfl, rfl⟩ := pr_inj t
              obtain ⟨d14, b14, e⟩ := ob1_some e
              cases e
              exact b14
          · rw [if_neg cf] at e
            cases e
            exact ⟨fun _ => rfl, fun _ _ _ => ⟨fun k => absurd ce k, fun _ k => absurd k cf⟩⟩
        · rw [if_neg ce] at e
          by_cases cf : gc (eA g 0 0) 30 q 4 = 4
          · rw [if_pos cf, if_neg ce] at e
            obtain ⟨d13, g13, b13, e⟩ := ob2_some e
            obtain ⟨rfl, rfl⟩ := pr_inj (mp_ofGoose (q := q) (k := 3) b13 hx rfl hq (by decide))
            obtain ⟨d14, b14, e⟩ := ob1_some e
            cases e
            refine ⟨fun k => ?_, fun _ _ _ => ⟨fun _ _ => b14, fun k => absurd k ce⟩⟩
            rcases k with k | k | k | ⟨k, -⟩ | ⟨-, k⟩
            · exact absurd cl k
            · exact absurd k c7
            · exact absurd k cd
            · exact absurd k ce
            · exact absurd cf k
          · rw [if_neg cf] at e
            cases e
            exact ⟨fun _ => rfl, fun _ _ _ => ⟨fun _ k => absurd k cf, fun k => absurd k ce⟩⟩
  · rw [if_neg cl] at e
    cases e
    exact ⟨fun _ => rfl, fun k => absurd k cl⟩
theorem or_0 (x : Int32) : x ||| 0 = x := by simp
theorem j_had {l d en : Int32} (l0 : 0 ≤ l.toInt) (dd : 0 ≤ d.toInt) : ∀ (n m : Nat) (h g : HS) (acc x : Int32) (z w : Int32 × HS), f_X8_halvesHad_6 n h l en d 10 acc x = some z → f_X9_knownBy_6 m g l d en acc x = some w → STD h g → 0 ≤ x.toInt → z.1 = w.1 := by
  have y0 : (0 : Int32).toInt = 0 := rfl
  have y1 : (1 : Int32).toInt = 1 := rfl
  have y2 : (2 : Int32).toInt = 2 := rfl
  have y4 : (4 : Int32).toInt = 4 := rfl
  have y10 : (10 : Int32).toInt = 10 := rfl
  have ym : (-1 : Int32).toInt = -1 := rfl
  intro n
  induction n with
  | zero => intro m h g acc x z w e; cases e
  | succ n ih =>
    intro m h g acc x z w e e2 s hx
    cases m with
    | zero => cases e2
    | succ m =>
      obtain ⟨n1, n0, n4⟩ := std_n s
      have s3 : eI h 1 3 = eA g 0 0 1 := s.1.1.1
      rw [f_X8_halvesHad_6_s, s3] at e
      rw [f_X9_knownBy_6_s] at e2
      by_cases c : eA g 0 0 1 ≤ x
      · rw [if_pos c] at e e2
        cases e
        cases e2
        rfl
      · rw [if_neg c] at e e2
        have dc := gi_of_nle c
        obtain ⟨q, hq⟩ : ∃ q : Nat, x.toInt = (q : Int) := ⟨x.toInt.toNat, by omega⟩
        have qx : (q : Int) < (eA g 0 0 1).toInt := by omega
        have ax := fb_addI (x := x) (y := 1) (by omega) (by omega)
        have gr := s.2.1.2.2.1.2.2 q qx
        obtain ⟨d2, g2, b2, e2⟩ := ob2_some e2
        have mb := mp_brought hq (by omega) b2
        have kb := w_f_X9_brought _ _ _ _ _ _ b2
        have kb : Fr S_X9_brought g g2 := kb
        have g20 : eA g2 0 0 = eA g 0 0 := kb.2.1 0 0 (by decide)
        obtain ⟨r2, h2, a2, e⟩ := ob2_some e
        obtain ⟨rfl, rfl⟩ := pr_inj (cp_ofGoose (q := q) (k := 7) a2 hq rfl (by rw [s3]; exact qx) (by rw [s3]; exact n1.2) (by decide))
        rw [sr_g s.1 qx (show 7 < 9 by decide)] at e
        have mb : (¬ gc (eA g 0 0) 30 q 2 = l ∨ gc (eA g 0 0) 30 q 7 = -1 ∨ d < gc (eA g 0 0) 30 q 7 ∨ (en = 0 ∧ ¬ gc (eA g 0 0) 30 q 4 = 2) ∨ (¬ en = 0 ∧ ¬ gc (eA g 0 0) 30 q 4 = 4) → d2 = 0) ∧ (gc (eA g 0 0) 30 q 2 = l → ¬ gc (eA g 0 0) 30 q 7 = -1 → ¬ d < gc (eA g 0 0) 30 q 7 → (¬ en = 0 → gc (eA g 0 0) 30 q 4 = 4 → f_X9_halves (gc (eA g 0 0) 30 q 3) = some d2) ∧ (en = 0 → gc (eA g 0 0) 30 q 4 = 2 → ∃ v : Int32 × HS, f_X9_isTrue g x = some v ∧ (v.1 = 0 → d2 = 0) ∧ (¬ v.1 = 0 → f_X9_halves (gc (eA g 0 0) 30 q 3) = some d2))) := mb
        -- the next goose, with nothing told by this one
        have skip : ∀ h9 : HS, STD h9 g2 → d2 = 0 → f_X8_halvesHad_6 n h9 l en d 10 acc (x + 1) = some z → z.1 = w.1 := by
          intro h9 s9 q0 q1
          rw [q0, or_0] at e2
          exact ih m h9 g2 acc (x + 1) z w q1 e2 s9 (by omega)
        have sh : STD h g2 := STD_fr s (Fr_refl [] h) kb (by decide) (by decide) (by decide) (by decide)
        have late : d < gc (eA g 0 0) 30 q 7 → f_X8_halvesHad_79 (f_X8_halvesHad_6 n) h l en d 10 acc x = some z → z.1 = w.1 := fun q1 q2 => skip h sh (mb.1 (Or.inr (Or.inr (Or.inl q1)))) q2
        have now_ : ¬ d < gc (eA g 0 0) 30 q 7 → f_X8_halvesHad_50 (f_X8_halvesHad_6 n) h l en d 10 acc x = some z → z.1 = w.1 := by
          intro nd q2
          unfold f_X8_halvesHad_50 f_X8_halvesHad_79 at q2
          obtain ⟨r6, h6, a6, q2⟩ := ob2_some q2
          obtain ⟨t1, t2, t3, t4⟩ := cp_tells s hq qx a6
          have f6 := w_f_X8_tells _ _ _ _ _ a6
          have f6 : Fr S_X8_tells h h6 := f6
          have s6 : STD h6 g2 := STD_fr s f6 kb (by decide) (by decide) (by decide) (by decide)
          have c13 : eI h6 1 3 = eA g 0 0 1 := (f6.1 1 3 (by decide)).trans s3
          by_cases c0 : r6 = 0
          · rw [if_pos c0] at q2
            -- she tells nothing: the reference says so too
            refine skip h6 s6 ?_ q2
            by_cases cl : gc (eA g 0 0) 30 q 2 = l
            · by_cases c7 : gc (eA g 0 0) 30 q 7 = -1
              · exact mb.1 (Or.inr (Or.inl c7))
              · by_cases ce : en = 0
                · by_cases cf : gc (eA g 0 0) 30 q 4 = 2
                  · obtain ⟨v, v1, v2, -⟩ := (mb.2 cl c7 nd).2 ce cf
                    exact v2 (((t4 cl ce).2 cf v v1).symm.trans c0)
                  · exact mb.1 (Or.inr (Or.inr (Or.inr (Or.inl ⟨ce, cf⟩))))
                · by_cases cf : gc (eA g 0 0) 30 q 4 = 4
                  · have t := (t3 cl ce).1 cf
                    have t : r6 = 1 := t
                    rw [c0] at t
                    exact absurd t (by decide)
                  · exact mb.1 (Or.inr (Or.inr (Or.inr (Or.inr ⟨ce, cf⟩))))
            · exact mb.1 (Or.inl cl)
          · rw [if_neg c0] at q2
            have r61 : r6 = 1 := by
              rcases t1 with t | t
              · exact absurd t c0
              · exact t
            obtain ⟨r8, h8, a8, q2⟩ := ob2_some q2
            have ta := cp_ofGoose (q := q) (k := 3) a8 hq rfl (by rw [c13]; exact qx) (by rw [c13]; exact n1.2) (by decide)
            rw [f6.2.1 1 0 (by decide), sr_g s.1 qx (show 3 < 9 by decide)] at ta
            obtain ⟨rfl, rfl⟩ := pr_inj ta
            obtain ⟨r9, a9, q2⟩ := ob1_some q2
            have cl : gc (eA g 0 0) 30 q 2 = l := by
              by_cases cl : gc (eA g 0 0) 30 q 2 = l
              · exact cl
              · exact absurd (t2 cl) c0
            have pr : 0 ≤ (gc (eA g 0 0) 30 q 3).toInt ∧ (gc (eA g 0 0) 30 q 3).toInt ≤ 2 := by
              have dl := gi_of_eq cl
              unfold GR at gr
              omega
            have hd : f_X9_halves (gc (eA g 0 0) 30 q 3) = some d2 := by
              by_cases ce : en = 0
              · by_cases cf : gc (eA g 0 0) 30 q 4 = 2
                · have df := gi_of_eq cf
                  have c7 : ¬ gc (eA g 0 0) 30 q 7 = -1 := gi_ne (by unfold GR at gr; omega)
                  obtain ⟨v, v1, -, v3⟩ := (mb.2 cl c7 nd).2 ce cf
                  have tv1 := (t4 cl ce).2 cf v v1
                  have tv1 : r6 = v.1 := tv1
                  exact v3 (by rw [← tv1]; exact c0)
                · exact absurd ((t4 cl ce).1 cf) c0
              · by_cases cf : gc (eA g 0 0) 30 q 4 = 4
                · have df := gi_of_eq cf
                  have c7 : ¬ gc (eA g 0 0) 30 q 7 = -1 := gi_ne (by unfold GR at gr; omega)
                  exact (mb.2 cl c7 nd).1 ce cf
                · exact absurd ((t3 cl ce).2 cf) c0
            have hs := hv_same pr a9 hd
            rw [hs] at q2
            exact ih m h6 g2 _ (x + 1) z w q2 e2 s6 (by omega)
        by_cases c1 : gc (eA g 0 0) 30 q 7 < d
        · rw [if_pos c1] at e
          have d1 := gi_of_lt c1
          exact now_ (gi_nlt (by omega)) e
        · rw [if_neg c1] at e
          have d1 := gi_of_nlt c1
          by_cases c2 : gc (eA g 0 0) 30 q 7 = d
          · rw [if_pos c2, if_neg (gi_nle (by omega))] at e
            have d2' := gi_of_eq c2
            exact now_ (gi_nlt (by omega)) e
          · rw [if_neg c2] at e
            have d2' := gi_of_ne c2
            exact late (gi_lt (by omega)) e
theorem mp_isLetterNumber {p r : Int32} (e : f_X9_isLetterNumber p = some r) : (r = 0 ∧ ¬ (0 ≤ p.toInt ∧ p.toInt ≤ 5)) ∨ (r = 1 ∧ (0 ≤ p.toInt ∧ p.toInt ≤ 5)) := by
  have y0 : (0 : Int32).toInt = 0 := rfl
  have y5 : (5 : Int32).toInt = 5 := rfl
  unfold f_X9_isLetterNumber at e
  obtain ⟨r1, a1, e⟩ := ob1_some e
  obtain ⟨-, e⟩ := ob_if e
  cases e
  rcases mx_in a1 with ⟨k, q⟩ | ⟨k, q⟩
  · exact Or.inl ⟨k, by omega⟩
  · exact Or.inr ⟨k, by omega⟩
theorem j_known {h g : HS} {l d : Int32} {z w : Int32 × HS} (s : STD h g) (e1 : f_X8_known h l d = some z) (e2 : f_X9_known g l d = some w) : z.1 = w.1 := by
  have y0 : (0 : Int32).toInt = 0 := rfl
  have y999 : (999 : Int32).toInt = 999 := rfl
  unfold f_X8_known f_X8_known_18 at e1
  unfold f_X9_known f_X9_known_18 at e2
  obtain ⟨r1, a1, e1⟩ := ob1_some e1
  obtain ⟨t1, b1, e2⟩ := ob1_some e2
  rcases cp_isLetter a1 with ⟨u1, u2⟩ | ⟨u1, u2⟩ <;> rcases mp_isLetterNumber b1 with ⟨v1, v2⟩ | ⟨v1, v2⟩
  · rw [if_pos u1] at e1
    rw [if_pos v1] at e2
    cases e1
    cases e2
    rfl
  · exact absurd v2 u2
  · exact absurd u2 v2
  · rw [if_neg (by rw [u1]; decide)] at e1
    rw [if_neg (by rw [v1]; decide)] at e2
    obtain ⟨t3, b3, e2⟩ := ob1_some e2
    rcases mx_in b3 with ⟨k, q⟩ | ⟨k, q⟩
    · rw [if_pos k] at e2
      cases e2
      by_cases c1 : d < 0
      · rw [if_pos c1] at e1; cases e1; rfl
      · rw [if_neg c1] at e1
        have d1 := gi_of_nlt c1
        rw [if_neg (gi_nle (by omega))] at e1
        cases e1
        rfl
    · rw [if_neg (by rw [k]; decide)] at e2
      rw [if_neg (gi_nlt (by omega)), if_pos (gi_le (by omega))] at e1
      obtain ⟨r5, h5, a5, e1⟩ := ob2_some e1
      obtain ⟨t5, g5, b5, e2⟩ := ob2_some e2
      have f5 := w_f_X8_halvesHad _ _ _ _ _ _ a5
      have k5 := w_f_X9_knownBy _ _ _ _ _ b5
      have f5 : Fr S_X8_halvesHad h h5 := f5
      have k5 : Fr S_X9_knownBy g g5 := k5
      have s5 : STD h5 g5 := STD_fr s f5 k5 (by decide) (by decide) (by decide) (by decide)
      unfold f_X8_halvesHad at a5
      unfold f_X9_knownBy at b5
      have j1 := j_had u2.1 (by omega) _ _ _ _ _ _ _ _ a5 b5 s (by decide)
      have j1 : r5 = t5 := j1
      rw [j1] at e1
      have tail : ∀ y : Int32, f_X8_known_38 h5 l d y = some z → f_X9_known_36 g5 l d y = some w → z.1 = w.1 := by
        intro y q1 q2
        unfold f_X8_known_38 f_X8_known_57 at q1
        unfold f_X9_known_36 f_X9_known_52 at q2
        obtain ⟨r7, h7, a7, q1⟩ := ob2_some q1
        obtain ⟨t7, g7, b7, q2⟩ := ob2_some q2
        unfold f_X8_halvesHad at a7
        unfold f_X9_knownBy at b7
        have j2 := j_had u2.1 (by omega) _ _ _ _ _ _ _ _ a7 b7 s5 (by decide)
        have j2 : r7 = t7 := j2
        rw [j2] at q1
        by_cases c3 : t7 = 3
        · rw [if_pos c3] at q1 q2; cases q1; cases q2; rfl
        · rw [if_neg c3] at q1 q2; cases q1; cases q2; rfl
      by_cases c3 : t5 = 3
      · rw [if_pos c3] at e1 e2; exact tail 1 e1 e2
      · rw [if_neg c3] at e1 e2; exact tail 0 e1 e2
/-! which goose it led to -/
def B1 (x : Int32) : Prop := x = 1 ∨ x = 3
def B2 (x : Int32) : Prop := x = 2 ∨ x = 3
def IN4 (x : Int32) : Prop := 0 ≤ x.toInt ∧ x.toInt < 4
theorem in4_cases {x : Int32} (h : IN4 x) : x = 0 ∨ x = 1 ∨ x = 2 ∨ x = 3 := by
  have y0 : (0 : Int32).toInt = 0 := rfl
  have y1 : (1 : Int32).toInt = 1 := rfl
  have y2 : (2 : Int32).toInt = 2 := rfl
  have y3 : (3 : Int32).toInt = 3 := rfl
  unfold IN4 at h
  by_cases c0 : x.toInt = 0
  · exact Or.inl (gi_eq (by omega))
  · by_cases c1 : x.toInt = 1
    · exact Or.inr (Or.inl (gi_eq (by omega)))
    · by_cases c2 : x.toInt = 2
      · exact Or.inr (Or.inr (Or.inl (gi_eq (by omega))))
      · exact Or.inr (Or.inr (Or.inr (gi_eq (by omega))))
theorem or_bits {x y : Int32} (hx : IN4 x) (hy : IN4 y) : IN4 (x ||| y) ∧ (B1 (x ||| y) ↔ B1 x ∨ B1 y) ∧ (B2 (x ||| y) ↔ B2 x ∨ B2 y) := by
  unfold IN4 B1 B2
  rcases in4_cases hx with rfl | rfl | rfl | rfl <;> rcases in4_cases hy with rfl | rfl | rfl | rfl <;> decide
theorem b3 {x : Int32} (hx : IN4 x) : x = 3 ↔ B1 x ∧ B2 x := by
  unfold B1 B2
  rcases in4_cases hx with rfl | rfl | rfl | rfl <;> decide
/-- when she was settled; what she tells -/
def TH (A : Nat → Int32) (q : Nat) : Int := (gc A 30 q 7).toInt
def HVB (A : Nat → Int32) (q : Nat) : Int32 := if gc A 30 q 3 = 0 then 3 else gc A 30 q 3
def TRU (g : HS) (q : Nat) : Prop := ∃ (x : Int32) (w : Int32 × HS), x.toInt = (q : Int) ∧ f_X9_isTrue g x = some w ∧ w.1 = 1
def TEL (g : HS) (l en : Int32) (q : Nat) : Prop := gc (eA g 0 0) 30 q 2 = l ∧ ((¬ en = 0 ∧ gc (eA g 0 0) 30 q 4 = 4) ∨ (en = 0 ∧ gc (eA g 0 0) 30 q 4 = 2 ∧ TRU g q))
/-- heaps that show the same state -/
def SAM (h0 g0 h g : HS) : Prop := STD h g ∧ STD h0 g ∧ STD h g0 ∧ eA g 0 0 = eA g0 0 0
theorem SAM_fr {S T : CL} {h0 g0 h h' g g' : HS} (s : SAM h0 g0 h g) (f : Fr S h h') (k : Fr T g g') (n1 : ∀ y ∈ KS1, y ∉ S) (n2 : ∀ y ∈ KTC, y ∉ S) (n3 : (1, 0, 0) ∉ T) (n4 : ∀ y ∈ KTM, y ∉ T) : SAM h0 g0 h' g' := ⟨STD_fr s.1 f k n1 n2 n3 n4, STD_fr s.2.1 (Fr_refl [] _) k (by simp) (by simp) n3 n4, STD_fr s.2.2.1 f (Fr_refl [] _) n1 n2 (by simp) (by simp), (k.2.1 0 0 n3).trans s.2.2.2⟩
theorem tru_iff {h0 g0 g : HS} (ic : IC h0) (im : IM g0) (s0 : STD h0 g0) (s : STD h0 g) (ea : eA g 0 0 = eA g0 0 0) {x : Int32} {q : Nat} (hx : x.toInt = (q : Int)) (hq : (q : Int) < (eA g0 0 0 1).toInt) {w : Int32 × HS} (e : f_X9_isTrue g x = some w) : (w.1 = 1 ↔ TRU g0 q) ∧ (w.1 = 0 ∨ w.1 = 1) := by
  have n1 := (std_n s0).1
  obtain ⟨z, ez, -⟩ := u_X1_isTrue h0 x ic
  obtain ⟨v, ev, -⟩ := u_X9_isTrue g0 x im (by omega)
  obtain ⟨j1, j2⟩ := j_isTrue s hx (by rw [ea]; exact hq) ez e
  obtain ⟨j3, j4⟩ := j_isTrue s0 hx hq ez ev
  refine ⟨⟨fun h => ⟨x, v, hx, ev, j3.symm.trans (j1.trans h)⟩, fun h => ?_⟩, j2⟩
  obtain ⟨y, u, hy, eu, u1⟩ := h
  obtain rfl : y = x := gi_eq (hy.trans hx.symm)
  rw [ev] at eu
  cases eu
  exact j1.symm.trans (j3.trans u1)
theorem cp_tel {h0 g0 h : HS} (ic : IC h0) (im : IM g0) (s0 : STD h0 g0) (s : STD h g0) {x l en : Int32} {q : Nat} {z : Int32 × HS} (hx : x.toInt = (q : Int)) (hq : (q : Int) < (eA g0 0 0 1).toInt) (e : f_X8_tells h x l en = some z) : (z.1 = 1 ∧ TEL g0 l en q) ∨ (z.1 = 0 ∧ ¬ TEL g0 l en q) := by
  have n1 := (std_n s0).1
  obtain ⟨t1, t2, t3, t4⟩ := cp_tells s hx hq e
  unfold TEL
  by_cases cl : gc (eA g0 0 0) 30 q 2 = l
  · by_cases ce : en = 0
    · by_cases cf : gc (eA g0 0 0) 30 q 4 = 2
      · obtain ⟨v, ev, -⟩ := u_X9_isTrue g0 x im (by omega)
        obtain ⟨i1, i2⟩ := tru_iff ic im s0 s0 rfl hx hq ev
        have zv := (t4 cl ce).2 cf v ev
        rcases i2 with i2 | i2
        · right
          refine ⟨zv.trans i2, fun k => ?_⟩
          rcases k.2 with ⟨k, -⟩ | ⟨-, -, k⟩
          · exact k ce
          · have := i1.mpr k
            rw [i2] at this
            exact absurd this (by decide)
        · left
          exact ⟨zv.trans i2, cl, Or.inr ⟨ce, cf, i1.mp i2⟩⟩
      · right
        refine ⟨(t4 cl ce).1 cf, fun k => ?_⟩
        rcases k.2 with ⟨k, -⟩ | ⟨-, k, -⟩
        · exact k ce
        · exact cf k
    · by_cases cf : gc (eA g0 0 0) 30 q 4 = 4
      · left
        exact ⟨(t3 cl ce).1 cf, cl, Or.inl ⟨ce, cf⟩⟩
      · right
        refine ⟨(t3 cl ce).2 cf, fun k => ?_⟩
        rcases k.2 with ⟨-, k⟩ | ⟨k, -, -⟩
        · exact cf k
        · exact ce k
  · right
    exact ⟨t2 cl, fun k => cl k.1⟩
theorem tel_part {g0 : HS} (rg : RG (eA g0 0 0)) {l en : Int32} {q : Nat} (l0 : 0 ≤ l.toInt) (hq : (q : Int) < (eA g0 0 0 1).toInt) (t : TEL g0 l en q) : (0 ≤ (gc (eA g0 0 0) 30 q 3).toInt ∧ (gc (eA g0 0 0) 30 q 3).toInt ≤ 2) ∧ 0 ≤ TH (eA g0 0 0) q ∧ TH (eA g0 0 0) q ≤ 999 ∧ IN4 (HVB (eA g0 0 0) q) := by
  have y0 : (0 : Int32).toInt = 0 := rfl
  have y2 : (2 : Int32).toInt = 2 := rfl
  have y3 : (3 : Int32).toInt = 3 := rfl
  have y4 : (4 : Int32).toInt = 4 := rfl
  have gr := rg.2.2.1.2.2 q hq
  have dl := gi_of_eq t.1
  have f2 : 2 ≤ (gc (eA g0 0 0) 30 q 4).toInt := by
    rcases t.2 with ⟨-, k⟩ | ⟨-, k, -⟩
    · have := gi_of_eq k; omega
    · have := gi_of_eq k; omega
  unfold GR at gr
  have p : 0 ≤ (gc (eA g0 0 0) 30 q 3).toInt ∧ (gc (eA g0 0 0) 30 q 3).toInt ≤ 2 := by omega
  unfold TH HVB IN4
  refine ⟨p, by omega, by omega, ?_⟩
  by_cases c : gc (eA g0 0 0) 30 q 3 = 0
  · rw [if_pos c]; omega
  · rw [if_neg c]; omega
theorem hv_HB {A : Nat → Int32} {q : Nat} {r : Int32} (p : 0 ≤ (gc A 30 q 3).toInt ∧ (gc A 30 q 3).toInt ≤ 2) (e : f_X8_halvesOf (gc A 30 q 3) = some r) : r = HVB A q := by
  have e2 : f_X9_halves (gc A 30 q 3) = some (HVB A q) := by
    unfold f_X9_halves f_X9_halves_9 HVB
    by_cases c : gc A 30 q 3 = 0
    · rw [if_pos c, if_pos c]
    · rw [if_neg c, if_neg c]
  exact hv_same p e e2
theorem mp_tel {h0 g0 g : HS} (ic : IC h0) (im : IM g0) (s0 : STD h0 g0) (s : STD h0 g) (ea : eA g 0 0 = eA g0 0 0) {x l en d : Int32} {q : Nat} {w : Int32 × HS} (hx : x.toInt = (q : Int)) (hq : (q : Int) < (eA g0 0 0 1).toInt) (l0 : 0 ≤ l.toInt) (hd : gc (eA g0 0 0) 30 q 7 = d) (d0 : 0 ≤ d.toInt) (e : f_X9_brought g x l d en = some w) : (TEL g0 l en q ∧ w.1 = HVB (eA g0 0 0) q) ∨ (¬ TEL g0 l en q ∧ w.1 = 0) := by
  have ym : (-1 : Int32).toInt = -1 := rfl
  have n1 := (std_n s0).1
  obtain ⟨m1, m2⟩ := mp_brought hx (by omega) e
  rw [ea] at m1 m2
  have c7 : ¬ gc (eA g0 0 0) 30 q 7 = -1 := by rw [hd]; exact gi_ne (by omega)
  have cd : ¬ d < gc (eA g0 0 0) 30 q 7 := by rw [hd]; exact gi_nlt (Int.le_refl _)
  have hv : ∀ r : Int32, f_X9_halves (gc (eA g0 0 0) 30 q 3) = some r → r = HVB (eA g0 0 0) q := by
    intro r er
    unfold f_X9_halves f_X9_halves_9 at er
    unfold HVB
    by_cases c : gc (eA g0 0 0) 30 q 3 = 0
    · rw [if_pos c] at er ⊢; cases er; rfl
    · rw [if_neg c] at er ⊢; cases er; rfl
  by_cases cl : gc (eA g0 0 0) 30 q 2 = l
  · by_cases ce : en = 0
    · by_cases cf : gc (eA g0 0 0) 30 q 4 = 2
      · obtain ⟨v, v1, v2, v3⟩ := (m2 cl c7 cd).2 ce cf
        obtain ⟨i1, i2⟩ := tru_iff ic im s0 s ea hx hq v1
        rcases i2 with i2 | i2
        · right
          refine ⟨fun k => ?_, v2 i2⟩
          rcases k.2 with ⟨k, -⟩ | ⟨-, -, k⟩
          · exact k ce
          · have := i1.mpr k
            rw [i2] at this
            exact absurd this (by decide)
        · left
          exact ⟨⟨cl, Or.inr ⟨ce, cf, i1.mp i2⟩⟩, hv _ (v3 (by rw [i2]; decide))⟩
      · right
        refine ⟨fun k => ?_, m1 (Or.inr (Or.inr (Or.inr (Or.inl ⟨ce, cf⟩))))⟩
        rcases k.2 with ⟨k, -⟩ | ⟨-, k, -⟩
        · exact k ce
        · exact cf k
    · by_cases cf : gc (eA g0 0 0) 30 q 4 = 4
      · left
        exact ⟨⟨cl, Or.inl ⟨ce, cf⟩⟩, hv _ ((m2 cl c7 cd).1 ce cf)⟩
      · right
        refine ⟨fun k => ?_, m1 (Or.inr (Or.inr (Or.inr (Or.inr ⟨ce, cf⟩))))⟩
        rcases k.2 with ⟨-, k⟩ | ⟨k, -, -⟩
        · exact cf k
        · exact ce k
  · right
    exact ⟨fun k => cl k.1, m1 (Or.inl cl)⟩
/-- the halves that a set of geese tells -/
def HS1 (g : HS) (l en : Int32) (P : Nat → Prop) : Prop := ∃ p : Nat, (p : Int) < (eA g 0 0 1).toInt ∧ P p ∧ TEL g l en p ∧ B1 (HVB (eA g 0 0) p)
def HS2 (g : HS) (l en : Int32) (P : Nat → Prop) : Prop := ∃ p : Nat, (p : Int) < (eA g 0 0 1).toInt ∧ P p ∧ TEL g l en p ∧ B2 (HVB (eA g 0 0) p)
def ACC (g : HS) (l en : Int32) (P : Nat → Prop) (r : Int32) : Prop := IN4 r ∧ (B1 r ↔ HS1 g l en P) ∧ (B2 r ↔ HS2 g l en P)
theorem ACC_0 {g : HS} {l en : Int32} {P : Nat → Prop} (h : ∀ p, ¬ P p) : ACC g l en P 0 := by
  refine ⟨by unfold IN4; decide, ⟨fun k => ?_, fun k => ?_⟩, ⟨fun k => ?_, fun k => ?_⟩⟩
  · unfold B1 at k; exact absurd k (by decide)
  · obtain ⟨p, -, k, -⟩ := k; exact absurd k (h p)
  · unfold B2 at k; exact absurd k (by decide)
  · obtain ⟨p, -, k, -⟩ := k; exact absurd k (h p)
theorem ACC_same {g : HS} {l en : Int32} {P Q : Nat → Prop} {r : Int32} (a : ACC g l en P r) (h : ∀ p : Nat, (p : Int) < (eA g 0 0 1).toInt → TEL g l en p → (P p ↔ Q p)) : ACC g l en Q r := by
  obtain ⟨a1, a2, a3⟩ := a
  refine ⟨a1, ⟨fun k => ?_, fun k => ?_⟩, ⟨fun k => ?_, fun k => ?_⟩⟩
  · obtain ⟨p, p1, p2, p3, p4⟩ := a2.mp k; exact ⟨p, p1, (h p p1 p3).mp p2, p3, p4⟩
  · obtain ⟨p, p1, p2, p3, p4⟩ := k; exact a2.mpr ⟨p, p1, (h p p1 p3).mpr p2, p3, p4⟩
  · obtain ⟨p, p1, p2, p3, p4⟩ := a3.mp k; exact ⟨p, p1, (h p p1 p3).mp p2, p3, p4⟩
  · obtain ⟨p, p1, p2, p3, p4⟩ := k; exact a3.mpr ⟨p, p1, (h p p1 p3).mpr p2, p3, p4⟩
theorem ACC_add {g : HS} {l en : Int32} {P Q : Nat → Prop} {r : Int32} {q : Nat} (rg : RG (eA g 0 0)) (l0 : 0 ≤ l.toInt) (a : ACC g l en P r) (hq : (q : Int) < (eA g 0 0 1).toInt) (t : TEL g l en q) (h : ∀ p : Nat, (p : Int) < (eA g 0 0 1).toInt → TEL g l en p → (Q p ↔ P p ∨ p = q)) : ACC g l en Q (r ||| HVB (eA g 0 0) q) := by
  obtain ⟨a1, a2, a3⟩ := a
  obtain ⟨-, -, -, h4⟩ := tel_part rg l0 hq t
  obtain ⟨o1, o2, o3⟩ := or_bits a1 h4
  refine ⟨o1, ⟨fun k => ?_, fun k => ?_⟩, ⟨fun k => ?_, fun k => ?_⟩⟩
  · rcases o2.mp k with k | k
    · obtain ⟨p, p1, p2, p3, p4⟩ := a2.mp k; exact ⟨p, p1, (h p p1 p3).mpr (Or.inl p2), p3, p4⟩
    · exact ⟨q, hq, (h q hq t).mpr (Or.inr rfl), t, k⟩
  · obtain ⟨p, p1, p2, p3, p4⟩ := k
    rcases (h p p1 p3).mp p2 with p2 | p2
    · exact o2.mpr (Or.inl (a2.mpr ⟨p, p1, p2, p3, p4⟩))
    · subst p2; exact o2.mpr (Or.inr p4)
  · rcases o3.mp k with k | k
    · obtain ⟨p, p1, p2, p3, p4⟩ := a3.mp k; exact ⟨p, p1, (h p p1 p3).mpr (Or.inl p2), p3, p4⟩
    · exact ⟨q, hq, (h q hq t).mpr (Or.inr rfl), t, k⟩
  · obtain ⟨p, p1, p2, p3, p4⟩ := k
    rcases (h p p1 p3).mp p2 with p2 | p2
    · exact o3.mpr (Or.inl (a3.mpr ⟨p, p1, p2, p3, p4⟩))
    · subst p2; exact o3.mpr (Or.inr p4)
/-- the class's halves had -/
theorem cp_had {h0 g0 : HS} (ic : IC h0) (im : IM g0) (s0 : STD h0 g0) {l en d b : Int32} (l0 : 0 ≤ l.toInt) : ∀ (n : Nat) (h : HS) (acc x : Int32) (z : Int32 × HS), f_X8_halvesHad_6 n h l en d b acc x = some z → STD h g0 → 0 ≤ x.toInt → ACC g0 l en (fun p => (p : Int) < x.toInt ∧ (TH (eA g0 0 0) p < d.toInt ∨ (TH (eA g0 0 0) p = d.toInt ∧ (p : Int) < b.toInt))) acc → ACC g0 l en (fun p => TH (eA g0 0 0) p < d.toInt ∨ (TH (eA g0 0 0) p = d.toInt ∧ (p : Int) < b.toInt)) z.1 := by
  have y1 : (1 : Int32).toInt = 1 := rfl
  have n1 := (std_n s0).1
  intro n
  induction n with
  | zero => intro h acc x z e; cases e
  | succ n ih =>
    intro h acc x z e s hx a
    have s3 : eI h 1 3 = eA g0 0 0 1 := s.1.1.1
    rw [f_X8_halvesHad_6_s, s3] at e
    by_cases c : eA g0 0 0 1 ≤ x
    · rw [if_pos c] at e
      have dc := gi_of_le c
      cases e
      exact ACC_same a (fun p hp _ => ⟨fun k => k.2, fun k => ⟨by omega, k⟩⟩)
    · rw [if_neg c] at e
      have dc := gi_of_nle c
      obtain ⟨q, hq⟩ : ∃ q : Nat, x.toInt = (q : Int) := ⟨x.toInt.toNat, by omega⟩
      have qx : (q : Int) < (eA g0 0 0 1).toInt := by omega
      have ax := fb_addI (x := x) (y := 1) (by omega) (by omega)
      obtain ⟨r2, h2, a2, e⟩ := ob2_some e
      obtain ⟨rfl, rfl⟩ := pr_inj (cp_ofGoose (q := q) (k := 7) a2 hq rfl (by rw [s3]; exact qx) (by rw [s3]; exact n1.2) (by decide))
      rw [sr_g s.1 qx (show 7 < 9 by decide)] at e
      have skip : ∀ h9 : HS, STD h9 g0 → ¬ ((TH (eA g0 0 0) q < d.toInt ∨ (TH (eA g0 0 0) q = d.toInt ∧ (q : Int) < b.toInt)) ∧ TEL g0 l en q) → f_X8_halvesHad_6 n h9 l en d b acc (x + 1) = some z → ACC g0 l en (fun p => TH (eA g0 0 0) p < d.toInt ∨ (TH (eA g0 0 0) p = d.toInt ∧ (p : Int) < b.toInt)) z.1 := by
        intro h9 s9 nt e9
        refine ih h9 acc (x + 1) z e9 s9 (by omega) (ACC_same a (fun p hp tp => ⟨fun k => ⟨by omega, k.2⟩, fun k => ⟨?_, k.2⟩⟩))
        by_cases cp : p = q
        · subst cp; exact absurd ⟨k.2, tp⟩ nt
        · omega
      have late : ¬ (TH (eA g0 0 0) q < d.toInt ∨ (TH (eA g0 0 0) q = d.toInt ∧ (q : Int) < b.toInt)) → f_X8_halvesHad_79 (f_X8_halvesHad_6 n) h l en d b acc x = some z → ACC g0 l en (fun p => TH (eA g0 0 0) p < d.toInt ∨ (TH (eA g0 0 0) p = d.toInt ∧ (p : Int) < b.toInt)) z.1 := fun k e9 => skip h s (fun w => k w.1) e9
      have soon : (TH (eA g0 0 0) q < d.toInt ∨ (TH (eA g0 0 0) q = d.toInt ∧ (q : Int) < b.toInt)) → f_X8_halvesHad_50 (f_X8_halvesHad_6 n) h l en d b acc x = some z → ACC g0 l en (fun p => TH (eA g0 0 0) p < d.toInt ∨ (TH (eA g0 0 0) p = d.toInt ∧ (p : Int) < b.toInt)) z.1 := by
        intro k e9
        unfold f_X8_halvesHad_50 f_X8_halvesHad_79 at e9
        obtain ⟨r6, h6, a6, e9⟩ := ob2_some e9
        have f6 := w_f_X8_tells _ _ _ _ _ a6
        have f6 : Fr S_X8_tells h h6 := f6
        have s6 : STD h6 g0 := STD_fr s f6 (Fr_refl [] g0) (by decide) (by decide) (by decide) (by decide)
        have c13 : eI h6 1 3 = eA g0 0 0 1 := (f6.1 1 3 (by decide)).trans s3
        rcases cp_tel ic im s0 s hq qx a6 with ⟨t1, t2⟩ | ⟨t1, t2⟩
        · have t1 : r6 = 1 := t1
          rw [if_neg (by rw [t1]; decide)] at e9
          obtain ⟨r8, h8, a8, e9⟩ := ob2_some e9
          have ta := cp_ofGoose (q := q) (k := 3) a8 hq rfl (by rw [c13]; exact qx) (by rw [c13]; exact n1.2) (by decide)
          rw [f6.2.1 1 0 (by decide), sr_g s.1 qx (show 3 < 9 by decide)] at ta
          obtain ⟨rfl, rfl⟩ := pr_inj ta
          obtain ⟨r9, a9, e9⟩ := ob1_some e9
          have tp := tel_part s0.2.1 l0 qx t2
          rw [hv_HB tp.1 a9] at e9
          refine ih h6 _ (x + 1) z e9 s6 (by omega) (ACC_add s0.2.1 l0 a qx t2 (fun p hp _ => ⟨fun w => ?_, fun w => ?_⟩))
          · by_cases cp : p = q
            · exact Or.inr cp
            · exact Or.inl ⟨by omega, w.2⟩
          · rcases w with w | w
            · exact ⟨by omega, w.2⟩
            · subst w; exact ⟨by omega, k⟩
        · have t1 : r6 = 0 := t1
          rw [if_pos t1] at e9
          exact skip h6 s6 (fun w => t2 w.2) e9
      have th : TH (eA g0 0 0) q = (gc (eA g0 0 0) 30 q 7).toInt := rfl
      by_cases c1 : gc (eA g0 0 0) 30 q 7 < d
      · rw [if_pos c1] at e
        have d1 := gi_of_lt c1
        exact soon (Or.inl (by omega)) e
      · rw [if_neg c1] at e
        have d1 := gi_of_nlt c1
        by_cases c2 : gc (eA g0 0 0) 30 q 7 = d
        · rw [if_pos c2] at e
          have d2 := gi_of_eq c2
          by_cases c3 : b ≤ x
          · rw [if_pos c3] at e
            have d3 := gi_of_le c3
            exact late (by omega) e
          · rw [if_neg c3] at e
            have d3 := gi_of_nle c3
            exact soon (Or.inr ⟨by omega, by omega⟩) e
        · rw [if_neg c2] at e
          have d2 := gi_of_ne c2
          exact late (by omega) e
def LEX (A : Nat → Int32) (p q : Nat) : Prop := TH A p < TH A q ∨ (TH A p = TH A q ∧ p ≤ q)
def GOO (g : HS) (l en : Int32) (q : Nat) : Prop := TEL g l en q ∧ HS1 g l en (fun p => LEX (eA g 0 0) p q) ∧ HS2 g l en (fun p => LEX (eA g 0 0) p q)
def LEDX (g : HS) (l en r : Int32) (N : Int) : Prop := (r = -1 ∧ ∀ q : Nat, (q : Int) < N → (q : Int) < (eA g 0 0 1).toInt → ¬ GOO g l en q) ∨ (∃ q : Nat, r.toInt = (q : Int) ∧ (q : Int) < N ∧ (q : Int) < (eA g 0 0 1).toInt ∧ GOO g l en q ∧ ∀ p : Nat, (p : Int) < N → (p : Int) < (eA g 0 0 1).toInt → GOO g l en p → LEX (eA g 0 0) q p)
theorem led_one {g : HS} {l en r s : Int32} {N M : Int} (hN : (eA g 0 0 1).toInt ≤ N) (hM : (eA g 0 0 1).toInt ≤ M) (a : LEDX g l en r N) (b : LEDX g l en s M) : r = s := by
  rcases a with ⟨a1, a2⟩ | ⟨q, a1, a2, a3, a4, a5⟩ <;> rcases b with ⟨b1, b2⟩ | ⟨p, b1, b2, b3, b4, b5⟩
  · rw [a1, b1]
  · exact absurd b4 (a2 p (by omega) b3)
  · exact absurd a4 (b2 q (by omega) a3)
  · have x1 := a5 p (by omega) b3 b4
    have x2 := b5 q (by omega) a3 a4
    unfold LEX at x1 x2
    exact gi_eq (by omega)
theorem cp_led {h0 g0 : HS} (ic : IC h0) (im : IM g0) (s0 : STD h0 g0) {l en : Int32} (l0 : 0 ≤ l.toInt) : ∀ (n : Nat) (h : HS) (fi x : Int32) (z : Int32 × HS), f_X8_led_14 n h l en fi x = some z → STD h g0 → 0 ≤ x.toInt → LEDX g0 l en fi x.toInt → LEDX g0 l en z.1 (eA g0 0 0 1).toInt := by
  have y1 : (1 : Int32).toInt = 1 := rfl
  have ym : (-1 : Int32).toInt = -1 := rfl
  have n1 := (std_n s0).1
  intro n
  induction n with
  | zero => intro h fi x z e; cases e
  | succ n ih =>
    intro h fi x z e s hx a
    have s3 : eI h 1 3 = eA g0 0 0 1 := s.1.1.1
    rw [f_X8_led_14_s, s3] at e
    by_cases c : eA g0 0 0 1 ≤ x
    · rw [if_pos c] at e
      have dc := gi_of_le c
      cases e
      rcases a with ⟨a1, a2⟩ | ⟨q, a1, a2, a3, a4, a5⟩
      · exact Or.inl ⟨a1, fun q q1 q2 => a2 q (by omega) q2⟩
      · exact Or.inr ⟨q, a1, a3, a3, a4, fun p p1 p2 => a5 p (by omega) p2⟩
    · rw [if_neg c] at e
      have dc := gi_of_nle c
      obtain ⟨q, hq⟩ : ∃ q : Nat, x.toInt = (q : Int) := ⟨x.toInt.toNat, by omega⟩
      have qx : (q : Int) < (eA g0 0 0 1).toInt := by omega
      have ax := fb_addI (x := x) (y := 1) (by omega) (by omega)
      obtain ⟨r4, h4, a4, e⟩ := ob2_some e
      obtain ⟨rfl, rfl⟩ := pr_inj (cp_ofGoose (q := q) (k := 7) a4 hq rfl (by rw [s3]; exact qx) (by rw [s3]; exact n1.2) (by decide))
      rw [sr_g s.1 qx (show 7 < 9 by decide)] at e
      -- this goose leads nowhere new
      have keep : ∀ h9 : HS, STD h9 g0 → (GOO g0 l en q → ∃ f : Nat, fi.toInt = (f : Int) ∧ LEX (eA g0 0 0) f q) → f_X8_led_14 n h9 l en fi (x + 1) = some z → LEDX g0 l en z.1 (eA g0 0 0 1).toInt := by
        intro h9 s9 k e9
        refine ih h9 fi (x + 1) z e9 s9 (by omega) ?_
        rcases a with ⟨a1, a2⟩ | ⟨f, a1, a2, a3, a4, a5⟩
        · refine Or.inl ⟨a1, fun p p1 p2 gp => ?_⟩
          by_cases cp : p = q
          · subst cp
            obtain ⟨f, f1, -⟩ := k gp
            rw [a1] at f1
            omega
          · exact a2 p (by omega) p2 gp
        · refine Or.inr ⟨f, a1, by omega, a3, a4, fun p p1 p2 gp => ?_⟩
          by_cases cp : p = q
          · subst cp
            obtain ⟨f', f1, f2⟩ := k gp
            rw [show f = f' by omega]
            exact f2
          · exact a5 p (by omega) p2 gp
      -- she may be the one
      have may : (∀ f : Nat, fi.toInt = (f : Int) → TH (eA g0 0 0) q < TH (eA g0 0 0) f) → f_X8_led_59 (f_X8_led_14 n) h l en fi x (gc (eA g0 0 0) 30 q 7) = some z → LEDX g0 l en z.1 (eA g0 0 0 1).toInt := by
        intro sooner e9
        unfold f_X8_led_59 f_X8_led_64 f_X8_led_101 at e9
        rw [if_neg (by decide)] at e9
        obtain ⟨r9, h9, a9, e9⟩ := ob2_some e9
        have f9 := w_f_X8_tells _ _ _ _ _ a9
        have f9 : Fr S_X8_tells h h9 := f9
        have s9 : STD h9 g0 := STD_fr s f9 (Fr_refl [] g0) (by decide) (by decide) (by decide) (by decide)
        rcases cp_tel ic im s0 s hq qx a9 with ⟨t1, t2⟩ | ⟨t1, t2⟩
        · have t1 : r9 = 1 := t1
          rw [if_neg (by rw [t1]; decide)] at e9
          obtain ⟨r11, h11, a11, e9⟩ := ob2_some e9
          have f11 := w_f_X8_halvesHad _ _ _ _ _ _ a11
          have f11 : Fr S_X8_halvesHad h9 h11 := f11
          have s11 : STD h11 g0 := STD_fr s9 f11 (Fr_refl [] g0) (by decide) (by decide) (by decide) (by decide)
          unfold f_X8_halvesHad at a11
          have A := cp_had ic im s0 l0 _ _ _ _ _ a11 s9 (by decide) (ACC_0 (fun p k => by have : (0 : Int32).toInt = 0 := rfl; omega))
          have A : ACC g0 l en (fun p => LEX (eA g0 0 0) p q) r11 := ACC_same A (fun p _ _ => by
            unfold LEX TH
            omega)
          obtain ⟨A1, A2, A3⟩ := A
          have g3 : r11 = 3 ↔ GOO g0 l en q := by
            refine (b3 A1).trans ⟨fun k => ⟨t2, A2.mp k.1, A3.mp k.2⟩, fun k => ⟨A2.mpr k.2.1, A3.mpr k.2.2⟩⟩
          by_cases c3 : r11 = 3
          · rw [if_pos c3] at e9
            refine ih h11 x (x + 1) z e9 s11 (by omega) (Or.inr ⟨q, hq, by omega, qx, g3.mp c3, fun p p1 p2 gp => ?_⟩)
            by_cases cp : p = q
            · subst cp; exact Or.inr ⟨rfl, Nat.le_refl _⟩
            · rcases a with ⟨a1, a2⟩ | ⟨f, a1, a2, a3, a4, a5⟩
              · exact absurd gp (a2 p (by omega) p2)
              · have l1 := a5 p (by omega) p2 gp
                have l2 := sooner f a1
                unfold LEX at l1 ⊢
                left
                omega
          · rw [if_neg c3] at e9
            exact keep h11 s11 (fun gp => absurd (g3.mpr gp) c3) e9
        · have t1 : r9 = 0 := t1
          rw [if_pos t1] at e9
          exact keep h9 s9 (fun gp => absurd gp.1 t2) e9
      by_cases cf : fi = -1
      · rw [if_pos cf] at e
        exact may (fun f hf => by rw [cf] at hf; omega) e
      · rw [if_neg cf] at e
        rcases id a with ⟨a1, -⟩ | ⟨f, a1, a2, a3, a4', a5⟩
        · exact absurd a1 cf
        obtain ⟨r6, h6, a6, e⟩ := ob2_some e
        obtain ⟨rfl, rfl⟩ := pr_inj (cp_ofGoose (q := f) (k := 7) a6 a1 rfl (by rw [s3]; exact a3) (by rw [s3]; exact n1.2) (by decide))
        rw [sr_g s.1 a3 (show 7 < 9 by decide)] at e
        by_cases c6 : gc (eA g0 0 0) 30 f 7 ≤ gc (eA g0 0 0) 30 q 7
        · rw [if_pos c6] at e
          have d6 := gi_of_le c6
          unfold f_X8_led_64 f_X8_led_101 at e
          rw [if_pos rfl] at e
          refine keep h s (fun _ => ⟨f, a1, ?_⟩) e
          unfold LEX TH
          omega
        · rw [if_neg c6] at e
          have d6 := gi_of_nle c6
          refine may (fun f' hf' => ?_) e
          rw [show f' = f by omega]
          unfold TH
          omega
/-- the reference: day by day, goose by goose -/
def PDX (g : HS) (d x : Int) (p : Nat) : Prop := TH (eA g 0 0) p < d ∨ (TH (eA g 0 0) p = d ∧ (p : Int) < x)
theorem goo_acc {g : HS} {l en acc : Int32} {d x : Int} {q : Nat} (A : ACC g l en (PDX g d x) acc) (h : ∀ p : Nat, TEL g l en p → LEX (eA g 0 0) p q → PDX g d x p) (gq : GOO g l en q) : acc = 3 := by
  obtain ⟨A1, A2, A3⟩ := A
  refine (b3 A1).mpr ⟨A2.mpr ?_, A3.mpr ?_⟩
  · obtain ⟨p, p1, p2, p3, p4⟩ := gq.2.1
    exact ⟨p, p1, h p p3 p2, p3, p4⟩
  · obtain ⟨p, p1, p2, p3, p4⟩ := gq.2.2
    exact ⟨p, p1, h p p3 p2, p3, p4⟩
theorem mp_led25 {h0 g0 : HS} (ic : IC h0) (im : IM g0) (s0 : STD h0 g0) {l en d : Int32} (l0 : 0 ≤ l.toInt) (d0 : 0 ≤ d.toInt) {k14 : HS → Int32 → Int32 → Int32 → Int32 → Option (Int32 × HS)} {w : Int32 × HS} : ∀ (m : Nat) (g : HS) (acc x : Int32), f_X9_led_25 k14 m g l en acc d x = some w → STD h0 g → eA g 0 0 = eA g0 0 0 → 0 ≤ x.toInt → ACC g0 l en (PDX g0 d.toInt x.toInt) acc → ¬ acc = 3 → LEDX g0 l en w.1 (eA g0 0 0 1).toInt ∨ ∃ (g' : HS) (acc' : Int32), k14 g' l en acc' (d + 1) = some w ∧ STD h0 g' ∧ eA g' 0 0 = eA g0 0 0 ∧ ACC g0 l en (PDX g0 (d.toInt + 1) 0) acc' ∧ ¬ acc' = 3 := by
  have y1 : (1 : Int32).toInt = 1 := rfl
  have n1 := (std_n s0).1
  intro m
  induction m with
  | zero => intro g acc x e; cases e
  | succ m ih =>
    intro g acc x e s ea hx A na
    rw [f_X9_led_25_s, ea] at e
    by_cases c : eA g0 0 0 1 ≤ x
    · rw [if_pos c] at e
      have dc := gi_of_le c
      refine Or.inr ⟨g, acc, e, s, ea, ACC_same A (fun p hp _ => ?_), na⟩
      unfold PDX
      omega
    · rw [if_neg c] at e
      have dc := gi_of_nle c
      obtain ⟨q, hq⟩ : ∃ q : Nat, x.toInt = (q : Int) := ⟨x.toInt.toNat, by omega⟩
      have qx : (q : Int) < (eA g0 0 0 1).toInt := by omega
      have ax := fb_addI (x := x) (y := 1) (by omega) (by omega)
      obtain ⟨r5, g5, b5, e⟩ := ob2_some e
      have t5 := mp_ofGoose (q := q) (k := 7) b5 hq rfl (by omega) (by decide)
      rw [ea] at t5
      obtain ⟨rfl, rfl⟩ := pr_inj t5
      unfold f_X9_led_70 at e
      have th : TH (eA g0 0 0) q = (gc (eA g0 0 0) 30 q 7).toInt := rfl
      by_cases c5 : gc (eA g0 0 0) 30 q 7 = d
      · rw [if_pos c5] at e
        have d5 := gi_of_eq c5
        obtain ⟨r7, g7, b7, e⟩ := ob2_some e
        have k7 := w_f_X9_brought _ _ _ _ _ _ b7
        have k7 : Fr S_X9_brought g g7 := k7
        have s7 : STD h0 g7 := STD_fr s (Fr_refl [] h0) k7 (by decide) (by decide) (by decide) (by decide)
        have e7 : eA g7 0 0 = eA g0 0 0 := (k7.2.1 0 0 (by decide)).trans ea
        rcases mp_tel ic im s0 s ea hq qx l0 c5 d0 b7 with ⟨t1, t2⟩ | ⟨t1, t2⟩
        · have t2 : r7 = HVB (eA g0 0 0) q := t2
          rw [t2] at e
          have A' : ACC g0 l en (PDX g0 d.toInt (x + 1).toInt) (acc ||| HVB (eA g0 0 0) q) := ACC_add s0.2.1 l0 A qx t1 (fun p hp _ => by
            unfold PDX
            by_cases cp : p = q
            · subst cp; omega
            · omega)
          by_cases c3 : acc ||| HVB (eA g0 0 0) q = 3
          · rw [if_pos c3] at e
            cases e
            left
            right
            obtain ⟨A1, A2, A3⟩ := A'
            have bb := (b3 A1).mp c3
            refine ⟨q, hq, qx, qx, ⟨t1, ?_, ?_⟩, fun p p1 p2 gp => ?_⟩
            · obtain ⟨p, p1, p2, p3, p4⟩ := A2.mp bb.1
              refine ⟨p, p1, ?_, p3, p4⟩
              unfold PDX at p2
              unfold LEX
              omega
            · obtain ⟨p, p1, p2, p3, p4⟩ := A3.mp bb.2
              refine ⟨p, p1, ?_, p3, p4⟩
              unfold PDX at p2
              unfold LEX
              omega
            · by_cases cl : LEX (eA g0 0 0) q p
              · exact cl
              · refine absurd (goo_acc A (fun r _ lr => ?_) gp) na
                unfold LEX at lr cl
                unfold PDX
                omega
          · rw [if_neg c3] at e
            exact ih g7 _ (x + 1) e s7 e7 (by omega) A' c3
        · have t2 : r7 = 0 := t2
          rw [t2, or_0, if_neg na] at e
          refine ih g7 acc (x + 1) e s7 e7 (by omega) (ACC_same A (fun p hp tp => ?_)) na
          unfold PDX
          by_cases cp : p = q
          · subst cp; exact absurd tp t1
          · omega
      · rw [if_neg c5] at e
        have d5 := gi_of_ne c5
        refine ih g acc (x + 1) e s ea (by omega) (ACC_same A (fun p hp _ => ?_)) na
        unfold PDX
        by_cases cp : p = q
        · subst cp; omega
        · omega
theorem mp_led14 {h0 g0 : HS} (ic : IC h0) (im : IM g0) (s0 : STD h0 g0) {l en : Int32} (l0 : 0 ≤ l.toInt) {w : Int32 × HS} : ∀ (m : Nat) (g : HS) (acc d : Int32), f_X9_led_14 m g l en acc d = some w → STD h0 g → eA g 0 0 = eA g0 0 0 → 0 ≤ d.toInt → ACC g0 l en (PDX g0 d.toInt 0) acc → ¬ acc = 3 → LEDX g0 l en w.1 (eA g0 0 0 1).toInt := by
  have y1 : (1 : Int32).toInt = 1 := rfl
  have y0 : (0 : Int32).toInt = 0 := rfl
  have y1000 : (1000 : Int32).toInt = 1000 := rfl
  have n1 := (std_n s0).1
  intro m
  induction m with
  | zero => intro g acc d e; cases e
  | succ m ih =>
    intro g acc d e s ea hd A na
    rw [f_X9_led_14_s] at e
    by_cases c : (1000 : Int32) ≤ d
    · rw [if_pos c] at e
      have dc := gi_of_le c
      cases e
      left
      refine ⟨rfl, fun q q1 q2 gq => na (goo_acc A (fun p tp lp => ?_) gq)⟩
      have t := tel_part s0.2.1 l0 q1 gq.1
      unfold LEX at lp
      unfold PDX
      omega
    · rw [if_neg c] at e
      have dc := gi_of_nle c
      have ax := fb_addI (x := d) (y := 1) (by omega) (by omega)
      rcases mp_led25 ic im s0 l0 hd _ _ _ _ e s ea (by decide) A na with k | ⟨g', acc', k1, k2, k3, k4, k5⟩
      · exact k
      · refine ih g' acc' (d + 1) k1 k2 k3 (by omega) ?_ k5
        rw [show (d + 1).toInt = d.toInt + 1 by omega]
        exact k4
theorem j_led {h g : HS} {l en : Int32} {z w : Int32 × HS} (ic : IC h) (im : IM g) (s : STD h g) (e1 : f_X8_led h l en = some z) (e2 : f_X9_led g l en = some w) : z.1 = w.1 := by
  have y0 : (0 : Int32).toInt = 0 := rfl
  have n1 := (std_n s).1
  unfold f_X8_led at e1
  unfold f_X9_led at e2
  obtain ⟨r1, a1, e1⟩ := ob1_some e1
  obtain ⟨t1, b1, e2⟩ := ob1_some e2
  rcases cp_isLetter a1 with ⟨u1, u2⟩ | ⟨u1, u2⟩ <;> rcases mp_isLetterNumber b1 with ⟨v1, v2⟩ | ⟨v1, v2⟩
  · rw [if_pos u1] at e1
    rw [if_pos v1] at e2
    cases e1
    cases e2
    rfl
  · exact absurd v2 u2
  · exact absurd u2 v2
  · rw [if_neg (by rw [u1]; decide)] at e1
    rw [if_neg (by rw [v1]; decide)] at e2
    have L1 := cp_led ic im s u2.1 _ _ _ _ _ e1 s (by decide) (Or.inl ⟨rfl, fun q q1 _ => by omega⟩)
    have A0 : ACC g l en (PDX g (0 : Int32).toInt 0) 0 := by
      refine ⟨by unfold IN4; decide, ⟨fun k => ?_, fun k => ?_⟩, ⟨fun k => ?_, fun k => ?_⟩⟩
      · unfold B1 at k; exact absurd k (by decide)
      · obtain ⟨p, p1, p2, p3, -⟩ := k
        have t := tel_part s.2.1 u2.1 p1 p3
        unfold PDX at p2
        omega
      · unfold B2 at k; exact absurd k (by decide)
      · obtain ⟨p, p1, p2, p3, -⟩ := k
        have t := tel_part s.2.1 u2.1 p1 p3
        unfold PDX at p2
        omega
    have L2 := mp_led14 ic im s u2.1 _ _ _ _ e2 s rfl (by decide) A0 (by decide)
    exact led_one (Int.le_refl _) (Int.le_refl _) L1 L2
theorem j_answer {h g : HS} {l : Int32} {z w : Int32 × HS} (ic : IC h) (im : IM g) (s : STD h g) (e1 : f_X8_answer h l = some z) (e2 : f_X9_answer g l = some w) : z.1 = w.1 := by
  have y0 : (0 : Int32).toInt = 0 := rfl
  have y2 : (2 : Int32).toInt = 2 := rfl
  have n1 := (std_n s).1
  have n0 := (std_n s).2.1
  unfold f_X8_answer at e1
  unfold f_X9_answer f_X9_answer_40 at e2
  obtain ⟨r1, h1, a1, e1⟩ := ob2_some e1
  obtain ⟨t1, g1, b1, e2⟩ := ob2_some e2
  have j := j_led ic im s a1 b1
  have j : r1 = t1 := j
  subst j
  have f1 := w_f_X8_led _ _ _ _ a1
  have k1 := w_f_X9_led _ _ _ _ b1
  have f1 : Fr S_X8_led h h1 := f1
  have k1 : Fr S_X9_led g g1 := k1
  have s1 : STD h1 g1 := STD_fr s f1 k1 (by decide) (by decide) (by decide) (by decide)
  have g10 : eA g1 0 0 = eA g 0 0 := k1.2.1 0 0 (by decide)
  by_cases c : r1 = -1
  · rw [if_pos c] at e1 e2
    cases e1
    cases e2
    rfl
  · rw [if_neg c] at e1 e2
    -- who it was: a goose that friends have
    have who : ∃ q : Nat, r1.toInt = (q : Int) ∧ (q : Int) < (eA g 0 0 1).toInt ∧ gc (eA g 0 0) 30 q 4 = 2 := by
      unfold f_X8_led at a1
      obtain ⟨r2, a2, a1⟩ := ob1_some a1
      rcases cp_isLetter a2 with ⟨u1, u2⟩ | ⟨u1, u2⟩
      · rw [if_pos u1] at a1
        obtain ⟨q1, -⟩ := Prod.mk.inj (Option.some.inj a1)
        exact absurd q1.symm c
      · rw [if_neg (by rw [u1]; decide)] at a1
        have L1 := cp_led ic im s u2.1 _ _ _ _ _ a1 s (by decide) (Or.inl ⟨rfl, fun q q1 _ => by omega⟩)
        rcases L1 with ⟨q1, -⟩ | ⟨q, q1, q2, q3, q4, -⟩
        · exact absurd q1 c
        · refine ⟨q, q1, q3, ?_⟩
          rcases q4.1.2 with ⟨k, -⟩ | ⟨-, k, -⟩
          · exact absurd rfl k
          · exact k
    obtain ⟨q, hq, qx, q4⟩ := who
    have s3 : eI h1 1 3 = eA g 0 0 1 := by rw [← g10]; exact s1.1.1.1
    have s4 : eI h1 1 4 = eA g 0 0 0 := by rw [← g10]; exact s1.1.1.2.1
    have gr := s.2.1.2.2.1.2.2 q qx
    have d4 := gi_of_eq q4
    have to_ : 0 ≤ (gc (eA g 0 0) 30 q 5).toInt ∧ (gc (eA g 0 0) 30 q 5).toInt < (eA g 0 0 0).toInt := by unfold GR at gr; omega
    obtain ⟨m, hm⟩ : ∃ m : Nat, (gc (eA g 0 0) 30 q 5).toInt = (m : Int) := ⟨(gc (eA g 0 0) 30 q 5).toInt.toNat, by omega⟩
    have q1x : (q : Int) < (eA g1 0 0 1).toInt := by rw [g10]; exact qx
    obtain ⟨r3, h3, a3, e1⟩ := ob2_some e1
    obtain ⟨rfl, rfl⟩ := pr_inj (cp_ofGoose (q := q) (k := 7) a3 hq rfl (by rw [s3]; exact qx) (by rw [s3]; exact n1.2) (by decide))
    obtain ⟨r4, h4, a4, e1⟩ := ob2_some e1
    obtain ⟨rfl, rfl⟩ := pr_inj (cp_ofGoose (q := q) (k := 5) a4 hq rfl (by rw [s3]; exact qx) (by rw [s3]; exact n1.2) (by decide))
    rw [sr_g s1.1 q1x (show 5 < 9 by decide), sr_g s1.1 q1x (show 7 < 9 by decide), g10] at e1
    obtain ⟨r5, h5, a5, e1⟩ := ob2_some e1
    obtain ⟨rfl, rfl⟩ := pr_inj (cp_ofMarket (q := m) (k := 0) a5 hm rfl (by rw [s4]; omega) (by rw [s4]; exact n0.2) (by decide))
    cases e1
    obtain ⟨t3, g3, b3, e2⟩ := ob2_some e2
    have t3e := mp_ofGoose (q := q) (k := 7) b3 hq rfl (by omega) (by decide)
    rw [g10] at t3e
    obtain ⟨rfl, rfl⟩ := pr_inj t3e
    obtain ⟨t4, g4, b4, e2⟩ := ob2_some e2
    have t4e := mp_ofGoose (q := q) (k := 5) b4 hq rfl (by omega) (by decide)
    rw [g10] at t4e
    obtain ⟨rfl, rfl⟩ := pr_inj t4e
    obtain ⟨-, e2⟩ := ob_if e2
    rw [mp_mk0 hm (by omega), g10] at e2
    cases e2
    show gc (eA g 0 0) 30 q 7 + eA h1 1 1 (3 * m + 0) = gc (eA g 0 0) 30 q 7 + eA g 0 0 (10 + (3 * m + 0))
    have mm := sr_m s1.1 (show (m : Int) < (eA g1 0 0 0).toInt by rw [g10]; omega) (show 0 < 3 by decide)
    rw [mm, g10]
