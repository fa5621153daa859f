/-! a step is taken back -/
theorem mp_undo23 {N : Nat} (N19 : N ≤ 19) : ∀ (n : Nat) (g : HS) (x1 : Int32) (r : Int32 × HS), f_X9_undo_23 n g x1 = some r → 0 ≤ x1.toInt → (eA g 0 0 5).toInt = (N : Int) → r.1 = eA g 0 0 5 ∧ (∀ i : Nat, x1.toInt ≤ (i : Int) → i < 93 → eA r.2 0 0 (30 + i) = eA g 0 0 (130 + 93 * N + i)) ∧ (∀ k : Nat, ((k : Int) < 30 + x1.toInt ∨ 123 ≤ k) → eA r.2 0 0 k = eA g 0 0 k) ∧ Fr [(1, 0, 0)] g r.2 := by
  have y1 : (1 : Int32).toInt = 1 := rfl
  have y30 : (30 : Int32).toInt = 30 := rfl
  have y93 : (93 : Int32).toInt = 93 := rfl
  have y130 : (130 : Int32).toInt = 130 := rfl
  intro n
  induction n with
  | zero => intro g x1 r e; cases e
  | succ n ih =>
    intro g x1 r e h0 hN
    rw [f_X9_undo_23_s] at e
    by_cases c : (93 : Int32) ≤ x1
    · rw [if_pos c] at e
      have d := gi_of_le c
      cases e
      exact ⟨rfl, fun i q1 q2 => by omega, fun k _ => rfl, Fr_refl _ _⟩
    · rw [if_neg c] at e
      have d := gi_of_nle c
      have a1 := fb_addI (x := 30) (y := x1) (by omega) (by omega)
      have a2 := fb_mulJ (x := 93) (y := eA g 0 0 5) (k := 93) rfl (by omega) (by omega)
      have a3 := fb_addI (x := 130) (y := 93 * eA g 0 0 5) (by omega) (by omega)
      have a4 := fb_addI (x := 130 + 93 * eA g 0 0 5) (y := x1) (by omega) (by omega)
      have a5 := fb_addI (x := x1) (y := 1) (by omega) (by omega)
      have j1 : (30 + x1).toNatClampNeg = 30 + x1.toInt.toNat := by show (30 + x1).toInt.toNat = _; omega
      have j2 : (130 + 93 * eA g 0 0 5 + x1).toNatClampNeg = 130 + 93 * N + x1.toInt.toNat := by show (130 + 93 * eA g 0 0 5 + x1).toInt.toNat = _; omega
      obtain ⟨-, e⟩ := ob_if e
      obtain ⟨-, e⟩ := ob_if e
      rw [j1, j2] at e
      have u : ∀ k : Nat, ¬ k = 30 + x1.toInt.toNat → upd (eA g 0 0) (30 + x1.toInt.toNat) (eA g 0 0 (130 + 93 * N + x1.toInt.toNat)) k = eA g 0 0 k := fun k hk => ud_ne hk
      obtain ⟨k1, k2, k3, k4⟩ := ih _ (x1 + 1) r e (by omega) (by show (upd (eA g 0 0) (30 + x1.toInt.toNat) (eA g 0 0 (130 + 93 * N + x1.toInt.toNat)) 5).toInt = _; rw [u 5 (by omega)]; exact hN)
      have k1 : r.1 = upd (eA g 0 0) (30 + x1.toInt.toNat) (eA g 0 0 (130 + 93 * N + x1.toInt.toNat)) 5 := k1
      have k2 : ∀ i : Nat, (x1 + 1).toInt ≤ (i : Int) → i < 93 → eA r.2 0 0 (30 + i) = upd (eA g 0 0) (30 + x1.toInt.toNat) (eA g 0 0 (130 + 93 * N + x1.toInt.toNat)) (130 + 93 * N + i) := k2
      have k3 : ∀ k : Nat, ((k : Int) < 30 + (x1 + 1).toInt ∨ 123 ≤ k) → eA r.2 0 0 k = upd (eA g 0 0) (30 + x1.toInt.toNat) (eA g 0 0 (130 + 93 * N + x1.toInt.toNat)) k := k3
      refine ⟨by rw [k1, u 5 (by omega)], fun i q1 q2 => ?_, fun k q => ?_, Fr_trans (Fr_sA (by decide) (Fr_refl _ _)) k4⟩
      · by_cases ci : (i : Int) = x1.toInt
        · rw [k3 (30 + i) (by omega), show x1.toInt.toNat = i by omega, ud_eq]
        · rw [k2 i (by omega) q2, u _ (by omega)]
      · rw [k3 k (by omega), u k (by omega)]
theorem cp_takeBack {h : HS} {z : Int32 × HS} {cn : Nat} (e : f_X4_takeStepBack h = some z) (f0 : 0 ≤ (eI h 1 11).toInt ∧ (eI h 1 11).toInt < 20) (n0 : 1 ≤ (eI h 1 12).toInt ∧ (eI h 1 12).toInt ≤ 20) {a : Nat} (ha : a = ((eI h 1 11).toInt.toNat + ((eI h 1 12).toInt.toNat - 1)) % 20 * 94) (hc : (eA h 1 2 (a + 90)).toInt = (cn : Int)) (c10 : cn ≤ 10) : z.1 = 1 ∧ (∀ i : Nat, i < 9 * cn → eA z.2 1 0 i = eA h 1 2 (a + i)) ∧ (∀ i : Nat, 9 * cn ≤ i → eA z.2 1 0 i = eA h 1 0 i) ∧ eI z.2 1 5 = eA h 1 2 (a + 91) ∧ eI z.2 1 7 = eA h 1 2 (a + 92) ∧ eI z.2 1 8 = eA h 1 2 (a + 93) ∧ eI z.2 1 12 = eI h 1 12 - 1 := by
  have y0 : (0 : Int32).toInt = 0 := rfl
  have y1 : (1 : Int32).toInt = 1 := rfl
  have y2 : (2 : Int32).toInt = 2 := rfl
  have y3 : (3 : Int32).toInt = 3 := rfl
  have y90 : (90 : Int32).toInt = 90 := rfl
  have y94 : (94 : Int32).toInt = 94 := rfl
  have y1880 : (1880 : Int32).toInt = 1880 := rfl
  have a1 := fb_addI (x := eI h 1 11) (y := eI h 1 12) (by omega) (by omega)
  have a2 := fb_subI (x := eI h 1 11 + eI h 1 12) (y := 1) (by omega) (by omega)
  have a3 := md20 (x := eI h 1 11 + eI h 1 12 - 1) (by omega)
  have i3 : (eI h 1 11 + eI h 1 12 - 1).toInt.toNat = (eI h 1 11).toInt.toNat + ((eI h 1 12).toInt.toNat - 1) := by omega
  rw [i3] at a3
  unfold f_X4_takeStepBack f_X4_takeStepBack_42 at e
  rw [if_neg (gi_nlt (by omega))] at e
  generalize hm : eI h 1 11 + eI h 1 12 - 1 - (eI h 1 11 + eI h 1 12 - 1) / 20 * 20 = M at e a3
  have a4 : (M * 94).toInt = M.toInt * 94 := fb_mulK rfl (by omega) (by omega)
  generalize hE : M * 94 = E at e a4
  have b20 := Nat.mod_lt ((eI h 1 11).toInt.toNat + ((eI h 1 12).toInt.toNat - 1)) (show 0 < 20 by decide)
  generalize ((eI h 1 11).toInt.toNat + ((eI h 1 12).toInt.toNat - 1)) % 20 = b at a3 ha b20
  have Ei : E.toInt = (a : Int) := by omega
  have p94 := fb_addI (x := E) (y := 94) (by omega) (by omega)
  have p90 := fb_addI (x := E) (y := 90) (by omega) (by omega)
  have p91 := fb_addI (x := E + 90) (y := 1) (by omega) (by omega)
  have p92 := fb_addI (x := E + 90) (y := 2) (by omega) (by omega)
  have p93 := fb_addI (x := E + 90) (y := 3) (by omega) (by omega)
  have j0 : E.toNatClampNeg = a := by show E.toInt.toNat = _; omega
  have j90 : (E + 90).toNatClampNeg = a + 90 := by show (E + 90).toInt.toNat = _; omega
  have j91 : (E + 90 + 1).toNatClampNeg = a + 91 := by show (E + 90 + 1).toInt.toNat = _; omega
  have j92 : (E + 90 + 2).toNatClampNeg = a + 92 := by show (E + 90 + 2).toInt.toNat = _; omega
  have j93 : (E + 90 + 3).toNatClampNeg = a + 93 := by show (E + 90 + 3).toInt.toNat = _; omega
  rw [if_neg (gi_nlt (by omega)), if_pos (gi_le (by omega))] at e
  obtain ⟨-, e⟩ := ob_if e
  rw [j90] at e
  have m9 : (eA h 1 2 (a + 90) * 9).toInt = (eA h 1 2 (a + 90)).toInt * 9 := fb_mulK rfl (by omega) (by omega)
  have mid : (if (if 0 < eA h 1 2 (a + 90) * 9 then eA h 1 2 (a + 90) * 9 else 0) < 90 then (if 0 < eA h 1 2 (a + 90) * 9 then eA h 1 2 (a + 90) * 9 else 0) else (90 : Int32)).toInt = ((9 * cn : Nat) : Int) := by
    by_cases c1 : 0 < eA h 1 2 (a + 90) * 9
    · rw [if_pos c1]
      by_cases c2 : eA h 1 2 (a + 90) * 9 < 90
      · rw [if_pos c2]; omega
      · rw [if_neg c2]
        have := gi_of_nlt c2
        omega
    · rw [if_neg c1]
      have := gi_of_nlt c1
      rw [if_pos (by decide)]
      omega
  generalize (if (if 0 < eA h 1 2 (a + 90) * 9 then eA h 1 2 (a + 90) * 9 else 0) < 90 then (if 0 < eA h 1 2 (a + 90) * 9 then eA h 1 2 (a + 90) * 9 else 0) else (90 : Int32)) = C at e mid
  have jC : C.toNatClampNeg = 9 * cn := by show C.toInt.toNat = _; omega
  obtain ⟨-, e⟩ := ob_if e
  obtain ⟨-, e⟩ := ob_if e
  obtain ⟨-, e⟩ := ob_if e
  obtain ⟨-, e⟩ := ob_if e
  obtain ⟨-, e⟩ := ob_if e
  obtain ⟨-, e⟩ := ob_if e
  obtain ⟨-, e⟩ := ob_if e
  rw [j0, j91, j92, j93, jC] at e
  cases e
  refine ⟨rfl, fun i hi => ?_, fun i hi => ?_, rfl, rfl, rfl, rfl⟩
  · show va_cpy (eA h 1 2) (eA h 1 0) a 0 (9 * cn) i = _
    unfold va_cpy
    rw [if_pos (by omega)]
    rfl
  · show va_cpy (eA h 1 2) (eA h 1 0) a 0 (9 * cn) i = _
    unfold va_cpy
    rw [if_neg (by omega)]
theorem j_undo {h g : HS} {z w : Int32 × HS} (sr : SRel h 1 (eA g 0 0)) (rg : RG (eA g 0 0)) (e1 : f_X8_undo h = some z) (e2 : f_X9_undo g = some w) : DONE h g z w := by
  have y0 : (0 : Int32).toInt = 0 := rfl
  have y1 : (1 : Int32).toInt = 1 := rfl
  obtain ⟨⟨s1, s2, s3, s4, s5, s6, s7, s8, s9⟩, ge, mk, f0, st⟩ := id sr
  obtain ⟨r1', r2', r3', r4'⟩ := id rg
  have rn := r1'
  unfold RN at rn
  have d9 := gi_of_eq s9
  unfold f_X8_undo f_X8_undo_21 at e1
  unfold f_X9_undo at e2
  obtain ⟨r1, h1, a1, e1⟩ := ob2_some e1
  by_cases c : eA g 0 0 5 = 0
  · rw [if_pos c] at e2
    have d := gi_of_eq c
    unfold f_X4_takeStepBack f_X4_takeStepBack_42 at a1
    rw [if_pos (gi_lt (by omega))] at a1
    cases a1
    rw [if_pos rfl] at e1
    cases e1
    cases e2
    exact DONE_no sr rg
  · rw [if_neg c] at e2
    have d := gi_of_ne c
    have fr := w_f_X4_takeStepBack _ _ a1
    obtain ⟨N, hN⟩ : ∃ N : Nat, (eA g 0 0 5).toInt = (N : Int) + 1 := ⟨(eA g 0 0 5).toInt.toNat - 1, by omega⟩
    have sub := fb_subI (x := eA g 0 0 5) (y := 1) (by omega) (by omega)
    have Nn : (eA g 0 0 5).toInt.toNat = N + 1 := by omega
    rw [Nn] at st
    obtain ⟨x1, x2, x3, x4, x5, x6⟩ := st N (by omega)
    have hn1 : (eI h 1 12).toInt.toNat - 1 = N := by omega
    obtain ⟨cn, hcn⟩ : ∃ cn : Nat, (eA h 1 2 (((eI h 1 11).toInt.toNat + N) % 20 * 94 + 90)).toInt = (cn : Int) := ⟨(eA h 1 2 (((eI h 1 11).toInt.toNat + N) % 20 * 94 + 90)).toInt.toNat, by omega⟩
    obtain ⟨v1, v2, v3, v4, v5, v6, v7⟩ := cp_takeBack (cn := cn) a1 f0 (by omega) (a := ((eI h 1 11).toInt.toNat + N) % 20 * 94) (by rw [hn1]) hcn (by omega)
    have v1 : r1 = 1 := v1
    have v2 : ∀ i : Nat, i < 9 * cn → eA h1 1 0 i = eA h 1 2 (((eI h 1 11).toInt.toNat + N) % 20 * 94 + i) := v2
    have v3 : ∀ i : Nat, 9 * cn ≤ i → eA h1 1 0 i = eA h 1 0 i := v3
    have v4 : eI h1 1 5 = eA h 1 2 (((eI h 1 11).toInt.toNat + N) % 20 * 94 + 91) := v4
    have v5 : eI h1 1 7 = eA h 1 2 (((eI h 1 11).toInt.toNat + N) % 20 * 94 + 92) := v5
    have v6 : eI h1 1 8 = eA h 1 2 (((eI h 1 11).toInt.toNat + N) % 20 * 94 + 93) := v6
    have v7 : eI h1 1 12 = eI h 1 12 - 1 := v7
    have fr : Fr S_X4_takeStepBack h h1 := fr
    rw [if_neg (by rw [v1]; decide)] at e1
    cases e1
    obtain ⟨k1, k2, k3, k4⟩ := mp_undo23 (N := N) (by omega) _ _ 0 w e2 (by decide) (by show (upd (eA g 0 0) 5 (eA g 0 0 5 - 1) 5).toInt = _; rw [ud_eq]; omega)
    have u5 : ∀ k : Nat, ¬ k = 5 → upd (eA g 0 0) 5 (eA g 0 0 5 - 1) k = eA g 0 0 k := fun k hk => ud_ne hk
    have u55 : eA (sA g 0 0 (upd (eA g 0 0) 5 (eA g 0 0 5 - 1))) 0 0 5 = eA g 0 0 5 - 1 := (ud_eq : upd (eA g 0 0) 5 (eA g 0 0 5 - 1) 5 = eA g 0 0 5 - 1)
    have k1 : w.1 = eA g 0 0 5 - 1 := k1.trans u55
    have k2 : ∀ i : Nat, i < 93 → eA w.2 0 0 (30 + i) = eA g 0 0 (130 + 93 * N + i) := fun i hi => (k2 i (by omega) hi).trans (u5 _ (by omega))
    have k3' : ∀ k : Nat, ¬ k = 5 → (k < 30 ∨ 123 ≤ k) → eA w.2 0 0 k = eA g 0 0 k := fun k k5 q => (k3 k (by omega)).trans (u5 k k5)
    have k5 : eA w.2 0 0 5 = eA g 0 0 5 - 1 := (k3 5 (by omega)).trans u55
    generalize hB : eA w.2 0 0 = B at *
    have e12 : eI h1 1 12 = B 5 := by rw [v7, k5, s9]
    refine ⟨?_, ?_, ?_⟩
    · show eI h1 1 12 = w.1
      rw [k1, e12, k5]
    · rw [hB]
      refine ⟨⟨?_, ?_, ?_, ?_, ?_, ?_, ?_, ?_, e12⟩, ?_, ?_, ?_, ?_⟩
      · exact (fr.1 1 3 (by decide)).trans (s1.trans (k3' 1 (by decide) (by omega)).symm)
      · exact (fr.1 1 4 (by decide)).trans (s2.trans (k3' 0 (by decide) (by omega)).symm)
      · exact v4.trans (x4.trans (k2 90 (by decide)).symm)
      · exact (fr.1 1 6 (by decide)).trans (s4.trans (k3' 2 (by decide) (by omega)).symm)
      · exact v5.trans (x5.trans (k2 91 (by decide)).symm)
      · exact v6.trans (x6.trans (k2 92 (by decide)).symm)
      · exact (fr.1 1 9 (by decide)).trans (s7.trans (k3' 3 (by decide) (by omega)).symm)
      · exact (fr.1 1 10 (by decide)).trans (s8.trans (k3' 4 (by decide) (by omega)).symm)
      · intro i hi
        rw [k3' 1 (by decide) (by omega)] at hi
        rw [k2 i (by omega)]
        show eA h1 1 0 i = _
        by_cases ci : i < 9 * cn
        · rw [v2 i ci]; exact x2 i (by omega)
        · rw [v3 i (by omega), x3 i (by omega) hi]
          unfold nxr
          rw [if_neg (by omega)]
          exact ge i hi
      · show MKT (eA h1 1 1) B
        rw [fr.2.1 1 1 (by decide)]
        intro i hi
        rw [k3' 0 (by decide) (by omega)] at hi
        rw [k3' _ (by omega) (by omega)]
        exact mk i hi
      · show 0 ≤ (eI h1 1 11).toInt ∧ (eI h1 1 11).toInt < 20
        rw [fr.1 1 11 (by decide)]; exact f0
      · show STEPS (eA h1 1 2) B (eI h1 1 11).toInt.toNat (B 5).toInt.toNat
        rw [fr.2.1 1 2 (by decide), fr.1 1 11 (by decide), show (B 5).toInt.toNat = N by rw [k5]; omega]
        intro j hj
        obtain ⟨w1, w2, w3, w4, w5, w6⟩ := st j (by omega)
        have Bj : ∀ i : Nat, i < 93 → B (130 + 93 * j + i) = eA g 0 0 (130 + 93 * j + i) := fun i hi => k3' _ (by omega) (by omega)
        have e1 : B 1 = eA g 0 0 1 := k3' 1 (by decide) (by omega)
        refine ⟨by rw [e1]; exact w1, fun i hi => ?_, fun i q1 q2 => ?_, by rw [Bj 90 (by decide)]; exact w4, by rw [Bj 91 (by decide)]; exact w5, by rw [Bj 92 (by decide)]; exact w6⟩
        · rw [Bj i (by omega)]; exact w2 i hi
        · rw [e1] at q2
          rw [Bj i (by omega), w3 i q1 q2]
          unfold nxr
          rw [if_pos (show j + 1 < N + 1 by omega)]
          by_cases cj : j + 1 < N
          · rw [if_pos cj]; exact (k3' _ (by omega) (by omega)).symm
          · rw [if_neg cj, k2 i (by omega), show j + 1 = N by omega]
    · rw [hB]
      have e1 : B 1 = eA g 0 0 1 := k3' 1 (by decide) (by omega)
      have e0 : B 0 = eA g 0 0 0 := k3' 0 (by decide) (by omega)
      refine ⟨?_, ?_, ?_, ?_⟩
      · unfold RN
        rw [e1, e0, k5, k3' 3 (by decide) (by omega), k3' 4 (by decide) (by omega), k3' 2 (by decide) (by omega)]
        omega
      · intro m hm
        rw [e0] at hm
        rw [k3' _ (by omega) (by omega), k3' _ (by omega) (by omega), k3' _ (by omega) (by omega)]
        exact r2' m hm
      · exact RW_eq (r4' N (by omega)) (fun k hk => k2 k hk) e1 rn.1.2 (by rw [e0]; exact Int.le_refl _)
      · intro j hj
        rw [k5] at hj
        exact RW_eq (r4' j (by omega)) (fun k hk => k3' _ (by omega) (by omega)) e1 rn.1.2 (by rw [e0]; exact Int.le_refl _)
/-! the image -/
theorem SR_copy {h h' : HS} {o o' : Nat} {A B : Nat → Int32} (sr : SRel h o A) (rn : RN A) (u : ∀ k : Nat, k < 1990 → B k = A k) (i3 : eI h' o' 3 = eI h o 3) (i4 : eI h' o' 4 = eI h o 4) (i5 : eI h' o' 5 = eI h o 5) (i6 : eI h' o' 6 = eI h o 6) (i7 : eI h' o' 7 = eI h o 7) (i8 : eI h' o' 8 = eI h o 8) (i9 : eI h' o' 9 = eI h o 9) (i10 : eI h' o' 10 = eI h o 10) (i11 : eI h' o' 11 = eI h o 11) (i12 : eI h' o' 12 = eI h o 12) (a0 : ∀ k : Nat, k < 90 → eA h' o' 0 k = eA h o 0 k) (a1 : ∀ k : Nat, k < 12 → eA h' o' 1 k = eA h o 1 k) (a2 : ∀ k : Nat, k < 1880 → eA h' o' 2 k = eA h o 2 k) : SRel h' o' B := by
  obtain ⟨⟨s1, s2, s3, s4, s5, s6, s7, s8, s9⟩, ge, mk, f0, st⟩ := sr
  unfold RN at rn
  refine ⟨⟨?_, ?_, ?_, ?_, ?_, ?_, ?_, ?_, ?_⟩, ?_, ?_, by rw [i11]; exact f0, ?_⟩
  · rw [i3, u 1 (by decide)]; exact s1
  · rw [i4, u 0 (by decide)]; exact s2
  · rw [i5, u 120 (by decide)]; exact s3
  · rw [i6, u 2 (by decide)]; exact s4
  · rw [i7, u 121 (by decide)]; exact s5
  · rw [i8, u 122 (by decide)]; exact s6
  · rw [i9, u 3 (by decide)]; exact s7
  · rw [i10, u 4 (by decide)]; exact s8
  · rw [i12, u 5 (by decide)]; exact s9
  · intro i hi
    rw [u 1 (by decide)] at hi
    rw [a0 i (by omega), u _ (by omega)]
    exact ge i hi
  · intro i hi
    rw [u 0 (by decide)] at hi
    rw [a1 i (by omega), u _ (by omega)]
    exact mk i hi
  · rw [i11, u 5 (by decide)]
    intro j hj
    obtain ⟨x1, x2, x3, x4, x5, x6⟩ := st j hj
    have ml := Nat.mod_lt ((eI h o 11).toInt.toNat + j) (show 0 < 20 by decide)
    generalize ((eI h o 11).toInt.toNat + j) % 20 = b at *
    have c : ∀ i : Nat, i < 94 → eA h' o' 2 (b * 94 + i) = eA h o 2 (b * 94 + i) := fun i hi => a2 _ (by omega)
    refine ⟨?_, fun i hi => ?_, fun i q1 q2 => ?_, ?_, ?_, ?_⟩
    · rw [c 90 (by decide), u 1 (by decide)]; exact x1
    · rw [c 90 (by decide)] at hi
      rw [c i (by omega), u _ (by omega)]
      exact x2 i hi
    · rw [c 90 (by decide)] at q1
      rw [u 1 (by decide)] at q2
      rw [u _ (by omega), x3 i q1 q2]
      unfold nxr
      by_cases cn : j + 1 < (A 5).toInt.toNat
      · rw [if_pos cn]; exact (u _ (by omega)).symm
      · rw [if_neg cn]; exact (u _ (by omega)).symm
    · rw [c 91 (by decide), u _ (by omega)]; exact x4
    · rw [c 92 (by decide), u _ (by omega)]; exact x5
    · rw [c 93 (by decide), u _ (by omega)]; exact x6
theorem RG_copy {A B : Nat → Int32} (rg : RG A) (u : ∀ k : Nat, k < 1990 → B k = A k) : RG B := by
  obtain ⟨r1, r2, r3, r4⟩ := rg
  have rn := r1
  unfold RN at rn
  refine ⟨?_, ?_, ?_, ?_⟩
  · unfold RN
    rw [u 1 (by decide), u 0 (by decide), u 5 (by decide), u 3 (by decide), u 4 (by decide), u 2 (by decide)]
    exact rn
  · intro m hm
    rw [u 0 (by decide)] at hm
    rw [u _ (by omega), u _ (by omega), u _ (by omega)]
    exact r2 m hm
  · exact RW_eq r3 (fun k hk => u _ (by omega)) (u 1 (by decide)) rn.1.2 (by rw [u 0 (by decide)]; exact Int.le_refl _)
  · intro j hj
    rw [u 5 (by decide)] at hj
    exact RW_eq (r4 j hj) (fun k hk => u _ (by omega)) (u 1 (by decide)) rn.1.2 (by rw [u 0 (by decide)]; exact Int.le_refl _)
