/-! a step is kept by both -/
def KEPT (h h' g g' : HS) : Prop := SRel h' 1 (eA g' 0 0) ∧ RG (eA g' 0 0) ∧ SFul h' (eA g' 0 0) ∧ (∀ k : Nat, k < 130 → ¬ k = 5 → eA g' 0 0 k = eA g 0 0 k) ∧ Fr [(1, 1, 2), (0, 1, 11), (0, 1, 12)] h h' ∧ Fr [(1, 0, 0)] g g'
theorem rg_app {A B : Nat → Int32} {n : Nat} (rg : RG A) (n19 : n ≤ 19) (hn : (A 5).toInt = (n : Int)) (b1 : ∀ k : Nat, ¬ k = 5 → (k < 130 + 93 * n ∨ 130 + 93 * n + 93 ≤ k) → B k = A k) (b2 : ∀ i : Nat, i < 93 → B (130 + 93 * n + i) = A (30 + i)) (b5 : B 5 = A 5 + 1) : RG B := by
  have y1 : (1 : Int32).toInt = 1 := rfl
  obtain ⟨r1, r2, r3, r4⟩ := rg
  have a5 := fb_addI (x := A 5) (y := 1) (by omega) (by omega)
  have E : ∀ k : Nat, k < 130 → ¬ k = 5 → B k = A k := fun k hk k5 => b1 k k5 (by omega)
  have n1 := r1.1
  refine ⟨?_, ?_, ?_, ?_⟩
  · unfold RN at *
    rw [E 1 (by decide) (by decide), E 0 (by decide) (by decide), E 2 (by decide) (by decide), E 3 (by decide) (by decide), E 4 (by decide) (by decide), b5]
    omega
  · intro m hm
    have r02 := r1.2.1
    rw [E 0 (by decide) (by decide)] at hm
    rw [E _ (by omega) (by omega), E _ (by omega) (by omega), E _ (by omega) (by omega)]
    exact r2 m hm
  · exact RW_eq r3 (fun k hk => E _ (by omega) (by omega)) (E 1 (by decide) (by decide)) n1.2 (by rw [E 0 (by decide) (by decide)]; exact Int.le_refl _)
  · intro j hj
    rw [b5] at hj
    by_cases c : j = n
    · subst c
      exact RW_eq r3 b2 (E 1 (by decide) (by decide)) n1.2 (by rw [E 0 (by decide) (by decide)]; exact Int.le_refl _)
    · exact RW_eq (r4 j (by omega)) (fun k hk => b1 _ (by omega) (by omega)) (E 1 (by decide) (by decide)) n1.2 (by rw [E 0 (by decide) (by decide)]; exact Int.le_refl _)
theorem rg_drop {A B : Nat → Int32} (rg : RG A) (hn : (A 5).toInt = 20) (b5 : B 5 = 19) (b1 : ∀ k : Nat, ¬ k = 5 → (k < 130 ∨ 1897 ≤ k) → B k = A k) (b2 : ∀ k : Nat, 130 ≤ k → k < 1897 → B k = A (k + 93)) : RG B := by
  have y19 : (19 : Int32).toInt = 19 := rfl
  obtain ⟨r1, r2, r3, r4⟩ := rg
  have E : ∀ k : Nat, k < 130 → ¬ k = 5 → B k = A k := fun k hk k5 => b1 k k5 (by omega)
  have n1 := r1.1
  refine ⟨?_, ?_, ?_, ?_⟩
  · unfold RN at *
    rw [E 1 (by decide) (by decide), E 0 (by decide) (by decide), E 2 (by decide) (by decide), E 3 (by decide) (by decide), E 4 (by decide) (by decide), b5]
    omega
  · intro m hm
    have r02 := r1.2.1
    rw [E 0 (by decide) (by decide)] at hm
    rw [E _ (by omega) (by omega), E _ (by omega) (by omega), E _ (by omega) (by omega)]
    exact r2 m hm
  · exact RW_eq r3 (fun k hk => E _ (by omega) (by omega)) (E 1 (by decide) (by decide)) n1.2 (by rw [E 0 (by decide) (by decide)]; exact Int.le_refl _)
  · intro j hj
    rw [b5] at hj
    refine RW_eq (r4 (j + 1) (by omega)) (fun k hk => ?_) (E 1 (by decide) (by decide)) n1.2 (by rw [E 0 (by decide) (by decide)]; exact Int.le_refl _)
    rw [b2 _ (by omega) (by omega), show 130 + 93 * j + k + 93 = 130 + 93 * (j + 1) + k by omega]
theorem j_keep {h h' g g' : HS} (sr : SRel h 1 (eA g 0 0)) (rg : RG (eA g 0 0)) (e1 : f_X4_keepStep h = some h') (e2 : f_X9_keepsStep g = some g') : KEPT h h' g g' := by
  have y1 : (1 : Int32).toInt = 1 := rfl
  have y19 : (19 : Int32).toInt = 19 := rfl
  have y20 : (20 : Int32).toInt = 20 := rfl
  have z0 : (0 : Int32).toInt = 0 := rfl
  obtain ⟨⟨s1, s2, s3, s4, s5, s6, s7, s8, s9⟩, ge, mk, f0, st⟩ := sr
  obtain ⟨⟨n1, n0, n5, n3, n4, n2⟩, -⟩ := id rg
  have d9 := gi_of_eq s9
  -- the append, from a first row f and n rows
  have app : ∀ (hk : HS) (g1 : HS) (n : Nat), f_X4_keepStep_35 hk = some h' → f_X9_keepsStep_51 g1 = some g' → n ≤ 19 → (eA g1 0 0 5).toInt = (n : Int) → (eI hk 1 12).toInt = (n : Int) + 1 → (0 ≤ (eI hk 1 11).toInt ∧ (eI hk 1 11).toInt < 20) → Fr [(0, 1, 11), (0, 1, 12)] h hk → Fr [(1, 0, 0)] g g1 → RG (eA g1 0 0) → (∀ k : Nat, k < 130 → ¬ k = 5 → eA g1 0 0 k = eA g 0 0 k) → STEPS (eA hk 1 2) (eA g1 0 0) (eI hk 1 11).toInt.toNat n → KEPT h h' g g' := by
    intro hk g1 n e35 e51 n19 hn hc hf fk fg rg1 E1 st1
    have k0 := cp_keep35 e35 hf (by omega)
    have fr := w_f_X4_keepStep_35 _ _ e35
    unfold f_X9_keepsStep_51 at e51
    obtain ⟨b1, b2, b3, b4⟩ := mp_keep53 (N := n) n19 _ g1 g' 0 e51 (by decide) hn
    have b1 : ∀ k : Nat, ¬ k = 5 → (k < 130 + 93 * n ∨ 130 + 93 * n + 93 ≤ k) → eA g' 0 0 k = eA g1 0 0 k := fun k k5 q => b1 k k5 (by omega)
    have b2 : ∀ i : Nat, i < 93 → eA g' 0 0 (130 + 93 * n + i) = eA g1 0 0 (30 + i) := fun i hi => b2 i (by omega) hi
    have a5 := fb_addI (x := eA g1 0 0 5) (y := 1) (by omega) (by omega)
    have E : ∀ k : Nat, k < 130 → ¬ k = 5 → eA g' 0 0 k = eA g 0 0 k := fun k hk2 k5 => (b1 k k5 (by omega)).trans (E1 k hk2 k5)
    have q11 : eI h' 1 11 = eI hk 1 11 := fr.1 1 11 (by decide)
    have q12 : eI h' 1 12 = eI hk 1 12 := fr.1 1 12 (by decide)
    have I : ∀ k : Nat, ¬ k = 11 → ¬ k = 12 → eI h' 1 k = eI h 1 k := by
      intro k c11 c12
      rw [fr.1 1 k (by unfold S_X4_keepStep_35; simp), fk.1 1 k (by simp; omega)]
    have G0 : eA h' 1 0 = eA h 1 0 := by rw [fr.2.1 1 0 (by decide), fk.2.1 1 0 (by decide)]
    have G1 : eA h' 1 1 = eA h 1 1 := by rw [fr.2.1 1 1 (by decide), fk.2.1 1 1 (by decide)]
    have hk0 : eA hk 1 0 = eA h 1 0 := fk.2.1 1 0 (by decide)
    have N5 : (eA g' 0 0 5).toInt.toNat = n + 1 := by rw [b3]; omega
    have cn : (eI hk 1 12).toInt.toNat - 1 = n := by omega
    rw [cn] at k0
    have ge1 : GEE (eA hk 1 0) (eA g1 0 0) := by
      intro i hi
      rw [E1 1 (by decide) (by decide)] at hi
      rw [hk0, E1 _ (by omega) (by omega)]
      exact ge i hi
    obtain ⟨w1, w2⟩ := steps_app st1 n19 rg1.1.1 ge1 ((fk.1 1 3 (by decide)).trans (s1.trans (E1 1 (by decide) (by decide)).symm)) ((fk.1 1 5 (by decide)).trans (s3.trans (E1 120 (by decide) (by decide)).symm)) ((fk.1 1 7 (by decide)).trans (s5.trans (E1 121 (by decide) (by decide)).symm)) ((fk.1 1 8 (by decide)).trans (s6.trans (E1 122 (by decide) (by decide)).symm)) b1 b2
    rw [← k0] at w1 w2
    refine ⟨⟨⟨?_, ?_, ?_, ?_, ?_, ?_, ?_, ?_, ?_⟩, ?_, ?_, ?_, ?_⟩, rg_app rg1 n19 hn b1 b2 b3, ?_, E, ?_, ?_⟩
    · rw [I 3 (by decide) (by decide), E 1 (by decide) (by decide)]; exact s1
    · rw [I 4 (by decide) (by decide), E 0 (by decide) (by decide)]; exact s2
    · rw [I 5 (by decide) (by decide), E 120 (by decide) (by decide)]; exact s3
    · rw [I 6 (by decide) (by decide), E 2 (by decide) (by decide)]; exact s4
    · rw [I 7 (by decide) (by decide), E 121 (by decide) (by decide)]; exact s5
    · rw [I 8 (by decide) (by decide), E 122 (by decide) (by decide)]; exact s6
    · rw [I 9 (by decide) (by decide), E 3 (by decide) (by decide)]; exact s7
    · rw [I 10 (by decide) (by decide), E 4 (by decide) (by decide)]; exact s8
    · rw [q12, b3]; exact gi_eq (by omega)
    · rw [G0]
      intro i hi
      rw [E 1 (by decide) (by decide)] at hi
      rw [E _ (by omega) (by omega)]
      exact ge i hi
    · rw [G1]
      intro i hi
      rw [E 0 (by decide) (by decide)] at hi
      rw [E _ (by omega) (by omega)]
      exact mk i hi
    · rw [q11]; exact hf
    · rw [q11, N5]; exact w1
    · unfold SFul
      rw [q11, N5]
      exact ⟨by omega, w2⟩
    · exact Fr_trans (Fr_mono (by decide) fk) (Fr_mono (by decide) fr)
    · exact Fr_trans fg b4
  unfold f_X4_keepStep at e1
  unfold f_X9_keepsStep at e2
  by_cases c : eA g 0 0 5 = 20
  · have dc := gi_of_eq c
    rw [if_pos c] at e2
    rw [if_pos (gi_le (by omega))] at e1
    obtain ⟨g1, k0, k1, k2, k3, k4⟩ := mp_keep15 _ g g' 130 e2 (by decide) (by decide)
    have d1 := gi_of_eq k1
    have k2 : ∀ k : Nat, ¬ k = 5 → (k < 130 ∨ 1897 ≤ k) → eA g1 0 0 k = eA g 0 0 k := fun k k5 q => k2 k k5 (by have : (130 : Int32).toInt = 130 := rfl; omega)
    have k3 : ∀ k : Nat, 130 ≤ k → k < 1897 → eA g1 0 0 k = eA g 0 0 (k + 93) := fun k q1 q2 => k3 k (by have : (130 : Int32).toInt = 130 := rfl; omega) q2
    have a1 := fb_addI (x := eI h 1 11) (y := 1) (by omega) (by omega)
    have m := md20 (x := eI h 1 11 + 1) (by omega)
    have st20 : STEPS (eA h 1 2) (eA g 0 0) (eI h 1 11).toInt.toNat 20 := by
      have : (eA g 0 0 5).toInt.toNat = 20 := by omega
      rw [this] at st
      exact st
    have dr := steps_drop st20 n1.2 k2 k3
    have fx : (eI (sI h 1 11 (eI h 1 11 + 1 - (eI h 1 11 + 1) / 20 * 20)) 1 11).toInt.toNat = ((eI h 1 11).toInt.toNat + 1) % 20 := by
      show (eI h 1 11 + 1 - (eI h 1 11 + 1) / 20 * 20).toInt.toNat = _
      rw [m, show (eI h 1 11 + 1).toInt.toNat = (eI h 1 11).toInt.toNat + 1 by omega]
      omega
    refine app _ g1 19 e1 k0 (by decide) d1 ?_ ?_ (Fr_sI (by decide) (Fr_refl _ _)) k4 (rg_drop rg dc k1 k2 k3) (fun k hk k5 => k2 k k5 (Or.inl hk)) ?_
    · show (eI h 1 12).toInt = _; omega
    · show 0 ≤ (eI h 1 11 + 1 - (eI h 1 11 + 1) / 20 * 20).toInt ∧ (eI h 1 11 + 1 - (eI h 1 11 + 1) / 20 * 20).toInt < 20
      have := Nat.mod_lt (eI h 1 11 + 1).toInt.toNat (show 0 < 20 by decide)
      omega
    · rw [fx]; exact dr
  · have dc := gi_of_ne c
    rw [if_neg c] at e2
    rw [if_neg (gi_nle (by omega))] at e1
    have a1 := fb_addI (x := eI h 1 12) (y := 1) (by omega) (by omega)
    refine app _ g (eA g 0 0 5).toInt.toNat e1 e2 (by omega) (by omega) ?_ f0 (Fr_sI (by decide) (Fr_refl _ _)) (Fr_refl _ _) rg (fun _ _ _ => rfl) st
    show (eI h 1 12 + 1).toInt = _
    omega
