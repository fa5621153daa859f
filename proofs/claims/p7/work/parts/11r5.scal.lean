/-! calls that change few cells -/
theorem SR_scal {h h' : HS} {A B : Nat → Int32} (sr : SRel h 1 A) (n1 : (A 1).toInt ≤ 10) (n0 : (A 0).toInt ≤ 4) (u : ∀ k : Nat, ¬ k = 2 → ¬ k = 3 → ¬ k = 4 → ¬ k = 120 → ¬ k = 122 → B k = A k) (f : Fr [(0, 1, 5), (0, 1, 6), (0, 1, 8), (0, 1, 9), (0, 1, 10)] h h') (i5 : eI h' 1 5 = B 120) (i6 : eI h' 1 6 = B 2) (i8 : eI h' 1 8 = B 122) (i9 : eI h' 1 9 = B 3) (i10 : eI h' 1 10 = B 4) : SRel h' 1 B := by
  obtain ⟨⟨s1, s2, s3, s4, s5, s6, s7, s8, s9⟩, ge, mk, f0, st⟩ := sr
  have U : ∀ k : Nat, ¬ k = 2 ∧ ¬ k = 3 ∧ ¬ k = 4 ∧ ¬ k = 120 ∧ ¬ k = 122 → B k = A k := fun k q => u k q.1 q.2.1 q.2.2.1 q.2.2.2.1 q.2.2.2.2
  refine ⟨⟨?_, ?_, i5, i6, ?_, i8, i9, i10, ?_⟩, ?_, ?_, ?_, ?_⟩
  · rw [f.1 1 3 (by decide), U 1 (by decide)]; exact s1
  · rw [f.1 1 4 (by decide), U 0 (by decide)]; exact s2
  · rw [f.1 1 7 (by decide), U 121 (by decide)]; exact s5
  · rw [f.1 1 12 (by decide), U 5 (by decide)]; exact s9
  · rw [f.2.1 1 0 (by decide)]
    intro i hi
    rw [U 1 (by decide)] at hi
    rw [U _ (by omega)]
    exact ge i hi
  · rw [f.2.1 1 1 (by decide)]
    intro i hi
    rw [U 0 (by decide)] at hi
    rw [U _ (by omega)]
    exact mk i hi
  · rw [f.1 1 11 (by decide)]; exact f0
  · rw [f.2.1 1 2 (by decide), f.1 1 11 (by decide), U 5 (by decide)]
    exact STEPS_congr st (U 1 (by decide)) (fun k hk _ => U k (by omega)) n1 (Or.inr (fun k hk => U _ (by omega)))
theorem RG_scal {A B : Nat → Int32} (rg : RG A) (u : ∀ k : Nat, ¬ k = 2 → ¬ k = 3 → ¬ k = 4 → ¬ k = 120 → ¬ k = 122 → B k = A k) (b2 : 0 ≤ (B 2).toInt ∧ (B 2).toInt ≤ 99) (b3 : 0 ≤ (B 3).toInt ∧ (B 3).toInt ≤ 4) (b4 : -1 ≤ (B 4).toInt ∧ (B 4).toInt < (B 3).toInt) (b120 : 0 ≤ (B 120).toInt) : RG B := by
  obtain ⟨r1, r2, r3, r4⟩ := rg
  have U : ∀ k : Nat, ¬ k = 2 ∧ ¬ k = 3 ∧ ¬ k = 4 ∧ ¬ k = 120 ∧ ¬ k = 122 → B k = A k := fun k q => u k q.1 q.2.1 q.2.2.1 q.2.2.2.1 q.2.2.2.2
  have n1 := r1.1
  have n0 := r1.2.1
  refine ⟨?_, ?_, ⟨b120, ?_, fun p hp => ?_⟩, ?_⟩
  · unfold RN at *
    rw [U 1 (by decide), U 0 (by decide), U 5 (by decide)]
    omega
  · intro m hm
    rw [U 0 (by decide)] at hm
    rw [U _ (by omega), U _ (by omega), U _ (by omega)]
    exact r2 m hm
  · show 0 ≤ (B 121).toInt ∧ (B 121).toInt ≤ 999
    rw [U 121 (by decide)]; exact r3.2.1
  · rw [U 1 (by decide)] at hp
    rw [U 0 (by decide)]
    exact GR_eq (r3.2.2 p hp) (fun k hk => U _ (by omega)) (Int.le_refl _)
  · intro j hj
    rw [U 5 (by decide)] at hj
    exact RW_eq (r4 j hj) (fun k hk => U _ (by omega)) (U 1 (by decide)) n1.2 (by rw [U 0 (by decide)]; exact Int.le_refl _)
theorem j_store {h g : HS} {p1 p2 : Int32} {z w : Int32 × HS} (sr : SRel h 1 (eA g 0 0)) (rg : RG (eA g 0 0)) (e1 : f_X8_store h p1 p2 = some z) (e2 : f_X9_store g p1 p2 = some w) : DONE h g z w := by
  have y0 : (0 : Int32).toInt = 0 := rfl
  have y99 : (99 : Int32).toInt = 99 := rfl
  have y9999 : (9999 : Int32).toInt = 9999 := rfl
  unfold f_X8_store f_X8_store_21 at e1
  unfold f_X9_store f_X9_store_21 at e2
  have sc := sr.1
  have no : z = (0, h) → w = (0, g) → DONE h g z w := fun a b => by rw [a, b]; exact DONE_no sr rg
  obtain ⟨r1, b1, e2⟩ := ob1_some e2
  rcases mx_in b1 with ⟨k, q⟩ | ⟨k, q⟩
  · rw [if_pos k] at e2
    refine no ?_ (Option.some.inj e2).symm
    by_cases c1 : p1 < 0
    · rw [if_pos c1] at e1; exact (Option.some.inj e1).symm
    · rw [if_neg c1] at e1
      have d1 := gi_of_nlt c1
      rw [if_pos (gi_lt (by omega))] at e1
      exact (Option.some.inj e1).symm
  · rw [if_neg (by rw [k]; decide)] at e2
    rw [if_neg (gi_nlt (by omega)), if_neg (gi_nlt (by omega))] at e1
    obtain ⟨r3, b3, e2⟩ := ob1_some e2
    rcases mx_in b3 with ⟨k3, q3⟩ | ⟨k3, q3⟩
    · rw [if_pos k3] at e2
      refine no ?_ (Option.some.inj e2).symm
      by_cases c1 : p2 < 0
      · rw [if_pos c1] at e1; exact (Option.some.inj e1).symm
      · rw [if_neg c1] at e1
        have d1 := gi_of_nlt c1
        rw [if_neg (gi_nle (by omega))] at e1
        exact (Option.some.inj e1).symm
    · rw [if_neg (by rw [k3]; decide)] at e2
      rw [if_neg (gi_nlt (by omega)), if_pos (gi_le (by omega))] at e1
      cases e1
      cases e2
      have u : ∀ k : Nat, ¬ k = 2 → ¬ k = 3 → ¬ k = 4 → ¬ k = 120 → ¬ k = 122 → upd (upd (eA g 0 0) 120 p1) 2 p2 k = eA g 0 0 k := fun k a _ _ b _ => by rw [ud_ne a, ud_ne b]
      have v2 : upd (upd (eA g 0 0) 120 p1) 2 p2 2 = p2 := ud_eq
      have v120 : upd (upd (eA g 0 0) 120 p1) 2 p2 120 = p1 := by rw [ud_ne (by decide)]; exact ud_eq
      have v3 : upd (upd (eA g 0 0) 120 p1) 2 p2 3 = eA g 0 0 3 := by rw [ud_ne (by decide), ud_ne (by decide)]
      have v4 : upd (upd (eA g 0 0) 120 p1) 2 p2 4 = eA g 0 0 4 := by rw [ud_ne (by decide), ud_ne (by decide)]
      have v122 : upd (upd (eA g 0 0) 120 p1) 2 p2 122 = eA g 0 0 122 := by rw [ud_ne (by decide), ud_ne (by decide)]
      refine ⟨rfl, SR_scal (h := h) (h' := sI (sI h 1 5 p1) 1 6 p2) (B := upd (upd (eA g 0 0) 120 p1) 2 p2) sr rg.1.1.2 rg.1.2.1.2 u (Fr_sI (by decide) (Fr_sI (by decide) (Fr_refl _ _))) v120.symm v2.symm (sc.2.2.2.2.2.1.trans v122.symm) (sc.2.2.2.2.2.2.1.trans v3.symm) (sc.2.2.2.2.2.2.2.1.trans v4.symm), ?_⟩
      have rn := rg.1
      unfold RN at rn
      exact RG_scal (B := upd (upd (eA g 0 0) 120 p1) 2 p2) rg u (by rw [v2]; omega) (by rw [v3]; omega) (by rw [v3, v4]; omega) (by rw [v120]; omega)
theorem j_seed {h g : HS} {p1 : Int32} {z w : Int32 × HS} (sr : SRel h 1 (eA g 0 0)) (rg : RG (eA g 0 0)) (e1 : f_X8_seed h p1 = some z) (e2 : f_X9_seed g p1 = some w) : DONE h g z w := by
  have y0 : (0 : Int32).toInt = 0 := rfl
  have y9999 : (9999 : Int32).toInt = 9999 := rfl
  unfold f_X8_seed f_X8_seed_11 at e1
  unfold f_X9_seed at e2
  have sc := sr.1
  have no : z = (0, h) → w = (0, g) → DONE h g z w := fun a b => by rw [a, b]; exact DONE_no sr rg
  obtain ⟨r1, b1, e2⟩ := ob1_some e2
  rcases mx_in b1 with ⟨k, q⟩ | ⟨k, q⟩
  · rw [if_pos k] at e2
    refine no ?_ (Option.some.inj e2).symm
    by_cases c1 : p1 < 0
    · rw [if_pos c1] at e1; exact (Option.some.inj e1).symm
    · rw [if_neg c1] at e1
      have d1 := gi_of_nlt c1
      rw [if_neg (gi_nle (by omega))] at e1
      exact (Option.some.inj e1).symm
  · rw [if_neg (by rw [k]; decide)] at e2
    rw [if_neg (gi_nlt (by omega)), if_pos (gi_le (by omega))] at e1
    cases e1
    cases e2
    generalize p1 * 11 + 9 = v
    have u : ∀ k : Nat, ¬ k = 2 → ¬ k = 3 → ¬ k = 4 → ¬ k = 120 → ¬ k = 122 → upd (eA g 0 0) 122 v k = eA g 0 0 k := fun k _ _ _ _ b => ud_ne b
    have v2 : upd (eA g 0 0) 122 v 2 = eA g 0 0 2 := ud_ne (by decide)
    have v120 : upd (eA g 0 0) 122 v 120 = eA g 0 0 120 := ud_ne (by decide)
    have v3 : upd (eA g 0 0) 122 v 3 = eA g 0 0 3 := ud_ne (by decide)
    have v4 : upd (eA g 0 0) 122 v 4 = eA g 0 0 4 := ud_ne (by decide)
    refine ⟨rfl, SR_scal (h := h) (h' := sI h 1 8 v) (B := upd (eA g 0 0) 122 v) sr rg.1.1.2 rg.1.2.1.2 u (Fr_sI (by decide) (Fr_refl _ _)) (sc.2.2.1.trans v120.symm) (sc.2.2.2.1.trans v2.symm) ud_eq.symm (sc.2.2.2.2.2.2.1.trans v3.symm) (sc.2.2.2.2.2.2.2.1.trans v4.symm), ?_⟩
    have rn := rg.1
    unfold RN at rn
    exact RG_scal (B := upd (eA g 0 0) 122 v) rg u (by rw [v2]; omega) (by rw [v3]; omega) (by rw [v3, v4]; omega) (by rw [v120]; exact rg.2.2.1.1)
theorem j_by {h g : HS} {p1 : Int32} {z w : Int32 × HS} (sr : SRel h 1 (eA g 0 0)) (rg : RG (eA g 0 0)) (e1 : f_X8_by h p1 = some z) (e2 : f_X9_by g p1 = some w) : DONE h g z w := by
  have y0 : (0 : Int32).toInt = 0 := rfl
  have y1 : (1 : Int32).toInt = 1 := rfl
  have ym : (-1 : Int32).toInt = -1 := rfl
  have sc := sr.1
  have s9 : eI h 1 9 = eA g 0 0 3 := sc.2.2.2.2.2.2.1
  have rn := rg.1
  unfold RN at rn
  unfold f_X8_by f_X8_by_16 at e1
  unfold f_X9_by f_X9_by_23 at e2
  rw [s9] at e1
  have no : z = (0, h) → w = (0, g) → DONE h g z w := fun a b => by rw [a, b]; exact DONE_no sr rg
  have yes : -1 ≤ p1.toInt → p1.toInt < (eA g 0 0 3).toInt → z = (1, sI h 1 10 p1) → w = (1, sA g 0 0 (upd (eA g 0 0) 4 p1)) → DONE h g z w := by
    intro l1 l2 a b
    rw [a, b]
    have u : ∀ k : Nat, ¬ k = 2 → ¬ k = 3 → ¬ k = 4 → ¬ k = 120 → ¬ k = 122 → upd (eA g 0 0) 4 p1 k = eA g 0 0 k := fun k _ _ b _ _ => ud_ne b
    have v2 : upd (eA g 0 0) 4 p1 2 = eA g 0 0 2 := ud_ne (by decide)
    have v120 : upd (eA g 0 0) 4 p1 120 = eA g 0 0 120 := ud_ne (by decide)
    have v3 : upd (eA g 0 0) 4 p1 3 = eA g 0 0 3 := ud_ne (by decide)
    have v4 : upd (eA g 0 0) 4 p1 4 = p1 := ud_eq
    have v122 : upd (eA g 0 0) 4 p1 122 = eA g 0 0 122 := ud_ne (by decide)
    refine ⟨rfl, SR_scal (h := h) (h' := sI h 1 10 p1) (B := upd (eA g 0 0) 4 p1) sr rg.1.1.2 rg.1.2.1.2 u (Fr_sI (by decide) (Fr_refl _ _)) (sc.2.2.1.trans v120.symm) (sc.2.2.2.1.trans v2.symm) (sc.2.2.2.2.2.1.trans v122.symm) (s9.trans v3.symm) v4.symm, ?_⟩
    exact RG_scal (B := upd (eA g 0 0) 4 p1) rg u (by rw [v2]; omega) (by rw [v3]; omega) (by rw [v3, v4]; omega) (by rw [v120]; exact rg.2.2.1.1)
  by_cases cm : p1 = -1
  · rw [if_pos cm] at e2
    have d := gi_of_eq cm
    rw [if_neg (gi_nlt (by omega)), if_pos (gi_lt (by omega))] at e1
    exact yes (by omega) (by omega) (Option.some.inj e1).symm (Option.some.inj e2).symm
  · rw [if_neg cm] at e2
    have d := gi_of_ne cm
    have s := fb_subI (x := eA g 0 0 3) (y := 1) (by omega) (by omega)
    obtain ⟨r2, b2, e2⟩ := ob1_some e2
    rcases mx_in b2 with ⟨k, q⟩ | ⟨k, q⟩
    · rw [if_pos k] at e2
      refine no ?_ (Option.some.inj e2).symm
      by_cases c1 : p1 < -1
      · rw [if_pos c1] at e1; exact (Option.some.inj e1).symm
      · rw [if_neg c1] at e1
        have d1 := gi_of_nlt c1
        rw [if_neg (gi_nlt (by omega))] at e1
        exact (Option.some.inj e1).symm
    · rw [if_neg (by rw [k]; decide)] at e2
      rw [if_neg (gi_nlt (by omega)), if_pos (gi_lt (by omega))] at e1
      exact yes (by omega) (by omega) (Option.some.inj e1).symm (Option.some.inj e2).symm
