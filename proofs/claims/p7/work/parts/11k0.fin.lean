/-! a text that stands: what both sides keep of it for good -/
def LWF (o t : Nat) (h g : HS) (c w : Nat) : Prop := 0 ≤ (eA h o 3 w).toInt ∧ (eA h o 3 w).toInt ≤ (eA h o 4 w).toInt ∧ (eA h o 4 w).toInt ≤ (eI h o 5).toInt ∧ (eA g 0 8 (24 * t + c)).toInt = 400 * (t : Int) + (eA h o 3 w).toInt + (c : Int) ∧ CDR (eA h o 2) (eA g 0 12) (eA g 0 13) (400 * t + c) (eA h o 3 w).toInt (eA h o 4 w).toInt ∧ (eA g 0 12 ((eA h o 4 w).toInt.toNat + (400 * t + c))).toInt = 408
def CLF (o t : Nat) (h g : HS) (c : Nat) : Prop := 0 ≤ (eA g 0 7 (24 * t + c)).toInt ∧ (eA g 0 7 (24 * t + c)).toInt ≤ 7 ∧ (eA h o 0 (4 * c)).toInt = 16 + (eA g 0 7 (24 * t + c)).toInt ∧ ((eA g 0 7 (24 * t + c)).toInt ≤ 3 → LWF o t h g c (eA g 0 7 (24 * t + c)).toInt.toNat) ∧ (4 ≤ (eA g 0 7 (24 * t + c)).toInt → eA h o 0 (4 * c + 1) = eA g 0 9 (24 * t + c) ∧ ((eA g 0 7 (24 * t + c)).toInt ≤ 5 → eA h o 0 (4 * c + 2) = eA g 0 10 (24 * t + c)) ∧ ((eA g 0 7 (24 * t + c)).toInt = 4 → eA h o 0 (4 * c + 3) = eA g 0 11 (24 * t + c)))
def TXF (o t : Nat) (h g : HS) : Prop := (eI h o 1).toInt = (eA g 0 6 t).toInt ∧ (0 ≤ (eI h o 1).toInt ∧ (eI h o 1).toInt ≤ 24) ∧ (0 ≤ (eI h o 5).toInt ∧ (eI h o 5).toInt ≤ 300) ∧ (∀ c : Nat, (c : Int) < (eI h o 1).toInt → CLF o t h g c) ∧ (∀ w : Nat, w < 4 → ((eA h o 3 w = -1 ∧ ∀ c : Nat, (c : Int) < (eI h o 1).toInt → ¬ (eA g 0 7 (24 * t + c)).toInt = (w : Int)) ∨ (¬ eA h o 3 w = -1 ∧ ∃ c : Nat, (c : Int) < (eI h o 1).toInt ∧ (eA g 0 7 (24 * t + c)).toInt = (w : Int))))
theorem mp_318 {T : Nat} {x1 : Int32} (hT : x1.toInt = (T : Int)) (hT4 : T < 4) : ∀ (n : Nat) (g : HS) (x2 : Int32) (r : Int32 × HS), f_X9_text_318 n g x1 x2 = some r → 0 ≤ x2.toInt → x2.toInt ≤ (eI g 0 36).toInt → (eI g 0 36).toInt ≤ 400 → r.1 = x1 ∧ eA r.2 0 0 = upd (eA g 0 0) 3 (eA g 0 0 3 + 1) ∧ Fr [(1, 0, 12), (1, 0, 13), (1, 0, 0)] g r.2 ∧ (∀ k : Nat, x2.toInt ≤ (k : Int) → (k : Int) < (eI g 0 36).toInt → eA r.2 0 12 (400 * T + k) = eA g 0 37 k ∧ eA r.2 0 13 (400 * T + k) = eA g 0 38 k) ∧ (∀ i : Nat, ((i : Int) < 400 * (T : Int) + x2.toInt ∨ 400 * (T : Int) + (eI g 0 36).toInt ≤ (i : Int)) → eA r.2 0 12 i = eA g 0 12 i ∧ eA r.2 0 13 i = eA g 0 13 i) := by
  have z1 : (1 : Int32).toInt = 1 := rfl
  intro n
  induction n with
  | zero => intro g x2 r e; cases e
  | succ n ih =>
    intro g x2 r e h0 h1 h2
    rw [f_X9_text_318_s] at e
    by_cases c : eI g 0 36 ≤ x2
    · rw [if_pos c] at e
      have d := gi_of_le c
      cases e
      exact ⟨rfl, rfl, Fr_sA (by decide) (Fr_refl _ _), fun k q1 q2 => by omega, fun i _ => ⟨rfl, rfl⟩⟩
    · rw [if_neg c] at e
      have d := gi_of_nle c
      obtain ⟨-, e⟩ := ob_if e
      obtain ⟨-, e⟩ := ob_if e
      obtain ⟨-, e⟩ := ob_if e
      obtain ⟨-, e⟩ := ob_if e
      have a1 := fb_mulJ (x := 400) (y := x1) (k := 400) rfl (by omega) (by omega)
      have a2 := fb_addI (x := 400 * x1) (y := x2) (by omega) (by omega)
      have a3 := fb_addI (x := x2) (y := 1) (by omega) (by omega)
      have ix : (400 * x1 + x2).toNatClampNeg = 400 * T + x2.toInt.toNat := by rw [Int32.toNatClampNeg]; omega
      have iy : x2.toNatClampNeg = x2.toInt.toNat := rfl
      rw [ix, iy] at e
      obtain ⟨k1, k2, k3, k4, k5⟩ := ih _ (x2 + 1) r e (by omega) (by show (x2 + 1).toInt ≤ (eI g 0 36).toInt; omega) h2
      have k4 : ∀ k : Nat, (x2 + 1).toInt ≤ (k : Int) → (k : Int) < (eI g 0 36).toInt → eA r.2 0 12 (400 * T + k) = eA g 0 37 k ∧ eA r.2 0 13 (400 * T + k) = eA g 0 38 k := k4
      have k5 : ∀ i : Nat, ((i : Int) < 400 * (T : Int) + (x2 + 1).toInt ∨ 400 * (T : Int) + (eI g 0 36).toInt ≤ (i : Int)) → eA r.2 0 12 i = upd (eA g 0 12) (400 * T + x2.toInt.toNat) (eA g 0 37 x2.toInt.toNat) i ∧ eA r.2 0 13 i = upd (eA g 0 13) (400 * T + x2.toInt.toNat) (eA g 0 38 x2.toInt.toNat) i := k5
      refine ⟨k1, k2, Fr_trans (Fr_sA (by decide) (Fr_sA (by decide) (Fr_refl _ _))) k3, fun k q1 q2 => ?_, fun i q => ?_⟩
      · by_cases ck : (k : Int) = x2.toInt
        · have y := k5 (400 * T + k) (by omega)
          unfold upd at y
          rw [if_pos (by omega), if_pos (by omega), show x2.toInt.toNat = k by omega] at y
          exact y
        · exact k4 k (by omega) q2
      · have y := k5 i (by omega)
        unfold upd at y
        rw [if_neg (by omega), if_neg (by omega)] at y
        exact y
theorem mp_211 {T : Nat} {x1 : Int32} (hT : x1.toInt = (T : Int)) (hT4 : T < 4) : ∀ (n : Nat) (g : HS) (x2 : Int32) (r : Int32 × HS), f_X9_text_211 n g x1 x2 = some r → 0 ≤ x2.toInt → x2.toInt ≤ (eI g 0 29).toInt → (eI g 0 29).toInt ≤ 24 → ∃ g1 : HS, f_X9_text_318 8589934592 g1 x1 0 = some r ∧ Fr [(1, 0, 7), (1, 0, 8), (1, 0, 9), (1, 0, 10), (1, 0, 11)] g g1 ∧ (∀ k : Nat, x2.toInt ≤ (k : Int) → (k : Int) < (eI g 0 29).toInt → eA g1 0 7 (24 * T + k) = eA g 0 31 k ∧ eA g1 0 8 (24 * T + k) = 400 * x1 + eA g 0 32 k ∧ eA g1 0 9 (24 * T + k) = eA g 0 33 k ∧ eA g1 0 10 (24 * T + k) = eA g 0 34 k ∧ eA g1 0 11 (24 * T + k) = eA g 0 35 k) ∧ (∀ i : Nat, ((i : Int) < 24 * (T : Int) + x2.toInt ∨ 24 * (T : Int) + (eI g 0 29).toInt ≤ (i : Int)) → eA g1 0 7 i = eA g 0 7 i ∧ eA g1 0 8 i = eA g 0 8 i ∧ eA g1 0 9 i = eA g 0 9 i ∧ eA g1 0 10 i = eA g 0 10 i ∧ eA g1 0 11 i = eA g 0 11 i) := by
  have z1 : (1 : Int32).toInt = 1 := rfl
  intro n
  induction n with
  | zero => intro g x2 r e; cases e
  | succ n ih =>
    intro g x2 r e h0 h1 h2
    rw [f_X9_text_211_s] at e
    by_cases c : eI g 0 29 ≤ x2
    · rw [if_pos c] at e
      have d := gi_of_le c
      exact ⟨g, e, Fr_refl _ _, fun k q1 q2 => by omega, fun i _ => ⟨rfl, rfl, rfl, rfl, rfl⟩⟩
    · rw [if_neg c] at e
      have d := gi_of_nle c
      obtain ⟨-, e⟩ := ob_if e
      obtain ⟨-, e⟩ := ob_if e
      obtain ⟨-, e⟩ := ob_if e
      obtain ⟨-, e⟩ := ob_if e
      obtain ⟨-, e⟩ := ob_if e
      obtain ⟨-, e⟩ := ob_if e
      obtain ⟨-, e⟩ := ob_if e
      obtain ⟨-, e⟩ := ob_if e
      obtain ⟨-, e⟩ := ob_if e
      obtain ⟨-, e⟩ := ob_if e
      have a1 := fb_mulJ (x := 24) (y := x1) (k := 24) rfl (by omega) (by omega)
      have a2 := fb_addI (x := 24 * x1) (y := x2) (by omega) (by omega)
      have a3 := fb_addI (x := x2) (y := 1) (by omega) (by omega)
      have ix : (24 * x1 + x2).toNatClampNeg = 24 * T + x2.toInt.toNat := by rw [Int32.toNatClampNeg]; omega
      have iy : x2.toNatClampNeg = x2.toInt.toNat := rfl
      rw [ix, iy] at e
      obtain ⟨g1, k1, k3, k4, k5⟩ := ih _ (x2 + 1) r e (by omega) (by show (x2 + 1).toInt ≤ (eI g 0 29).toInt; omega) h2
      have k4 : ∀ k : Nat, (x2 + 1).toInt ≤ (k : Int) → (k : Int) < (eI g 0 29).toInt → eA g1 0 7 (24 * T + k) = eA g 0 31 k ∧ eA g1 0 8 (24 * T + k) = 400 * x1 + eA g 0 32 k ∧ eA g1 0 9 (24 * T + k) = eA g 0 33 k ∧ eA g1 0 10 (24 * T + k) = eA g 0 34 k ∧ eA g1 0 11 (24 * T + k) = eA g 0 35 k := k4
      have k5 : ∀ i : Nat, ((i : Int) < 24 * (T : Int) + (x2 + 1).toInt ∨ 24 * (T : Int) + (eI g 0 29).toInt ≤ (i : Int)) → eA g1 0 7 i = upd (eA g 0 7) (24 * T + x2.toInt.toNat) (eA g 0 31 x2.toInt.toNat) i ∧ eA g1 0 8 i = upd (eA g 0 8) (24 * T + x2.toInt.toNat) (400 * x1 + eA g 0 32 x2.toInt.toNat) i ∧ eA g1 0 9 i = upd (eA g 0 9) (24 * T + x2.toInt.toNat) (eA g 0 33 x2.toInt.toNat) i ∧ eA g1 0 10 i = upd (eA g 0 10) (24 * T + x2.toInt.toNat) (eA g 0 34 x2.toInt.toNat) i ∧ eA g1 0 11 i = upd (eA g 0 11) (24 * T + x2.toInt.toNat) (eA g 0 35 x2.toInt.toNat) i := k5
      refine ⟨g1, k1, Fr_trans (Fr_sA (by decide) (Fr_sA (by decide) (Fr_sA (by decide) (Fr_sA (by decide) (Fr_sA (by decide) (Fr_refl _ _)))))) k3, fun k q1 q2 => ?_, fun i q => ?_⟩
      · by_cases ck : (k : Int) = x2.toInt
        · have y := k5 (24 * T + k) (by omega)
          unfold upd at y
          rw [if_pos (by omega), if_pos (by omega), if_pos (by omega), if_pos (by omega), if_pos (by omega), show x2.toInt.toNat = k by omega] at y
          exact y
        · exact k4 k (by omega) q2
      · have y := k5 i (by omega)
        unfold upd at y
        rw [if_neg (by omega), if_neg (by omega), if_neg (by omega), if_neg (by omega), if_neg (by omega)] at y
        exact y
def TAP (h g : HS) : Prop := eI h 3 1 = eI g 0 3 ∧ ∀ j : Int, 0 ≤ j → j < cL h → BR (cB h j) (mB g j)
abbrev SPX : CL := [(0, 0, 3), (0, 0, 4), (0, 0, 5), (0, 0, 14), (0, 0, 15), (0, 0, 16), (0, 0, 17), (0, 0, 18), (0, 0, 19), (0, 0, 20), (0, 0, 21), (0, 0, 22), (1, 0, 23), (1, 0, 24), (0, 0, 25), (1, 0, 26), (1, 0, 27), (0, 0, 28), (0, 0, 29), (0, 0, 30), (1, 0, 31), (1, 0, 32), (1, 0, 33), (1, 0, 34), (1, 0, 35), (0, 0, 36), (1, 0, 37), (1, 0, 38)]
/-- the other texts stay as they were -/
def KTX (t : Nat) (g g' : HS) : Prop := (∀ u : Nat, ¬ u = t → eA g' 0 6 u = eA g 0 6 u) ∧ (∀ i : Nat, (i < 24 * t ∨ 24 * t + 24 ≤ i) → eA g' 0 7 i = eA g 0 7 i ∧ eA g' 0 8 i = eA g 0 8 i ∧ eA g' 0 9 i = eA g 0 9 i ∧ eA g' 0 10 i = eA g 0 10 i ∧ eA g' 0 11 i = eA g 0 11 i) ∧ (∀ i : Nat, (i < 400 * t ∨ 400 * t + 400 ≤ i) → eA g' 0 12 i = eA g 0 12 i ∧ eA g' 0 13 i = eA g 0 13 i)
def TXO (o t : Nat) (h4 g : HS) (r : Int32 × HS) : Prop := (¬ eI h4 5 0 = 0 ∧ r.1 = -1 ∧ eI r.2 0 4 = eI h4 5 0 ∧ eI r.2 0 5 = eI h4 5 1 ∧ eI r.2 0 3 = 0 ∧ Fr SPX g r.2) ∨ (eI h4 5 0 = 0 ∧ r.1 = eA g 0 0 3 ∧ eI r.2 0 4 = 0 ∧ eI r.2 0 5 = eI h4 5 1 ∧ eI r.2 0 3 = 0 ∧ eA r.2 0 0 = upd (eA g 0 0) 3 (eA g 0 0 3 + 1) ∧ TXF o t h4 r.2 ∧ KTX t g r.2 ∧ eA r.2 0 1 = eA g 0 1)
