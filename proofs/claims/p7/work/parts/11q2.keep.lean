/-! a step is kept -/
def KS (s0 s : Nat → Int32) (a : Nat) (c gr d x : Int32) : Nat → Int32 := upd (upd (upd (upd (va_cpy s0 s 0 a 90) (a + 90) c) (a + 91) gr) (a + 92) d) (a + 93) x
theorem KS_in {s0 s : Nat → Int32} {a i : Nat} {c gr d x : Int32} (h : i < 90) : KS s0 s a c gr d x (a + i) = s0 i := by
  unfold KS upd va_cpy
  rw [if_neg (by omega), if_neg (by omega), if_neg (by omega), if_neg (by omega), if_pos (by omega)]
  congr 1
  omega
theorem KS_90 {s0 s : Nat → Int32} {a : Nat} {c gr d x : Int32} : KS s0 s a c gr d x (a + 90) = c := by
  unfold KS upd va_cpy
  rw [if_neg (by omega), if_neg (by omega), if_neg (by omega), if_pos rfl]
theorem KS_91 {s0 s : Nat → Int32} {a : Nat} {c gr d x : Int32} : KS s0 s a c gr d x (a + 91) = gr := by
  unfold KS upd va_cpy
  rw [if_neg (by omega), if_neg (by omega), if_pos rfl]
theorem KS_92 {s0 s : Nat → Int32} {a : Nat} {c gr d x : Int32} : KS s0 s a c gr d x (a + 92) = d := by
  unfold KS upd va_cpy
  rw [if_neg (by omega), if_pos rfl]
theorem KS_93 {s0 s : Nat → Int32} {a : Nat} {c gr d x : Int32} : KS s0 s a c gr d x (a + 93) = x := by
  unfold KS upd va_cpy
  rw [if_pos rfl]
theorem KS_out {s0 s : Nat → Int32} {a k : Nat} {c gr d x : Int32} (h : k < a ∨ a + 94 ≤ k) : KS s0 s a c gr d x k = s k := by
  unfold KS upd va_cpy
  rw [if_neg (by omega), if_neg (by omega), if_neg (by omega), if_neg (by omega), if_neg (by omega)]
theorem cp_keep35 {h h' : HS} (e : f_X4_keepStep_35 h = some h') (f0 : 0 ≤ (eI h 1 11).toInt ∧ (eI h 1 11).toInt < 20) (n0 : 1 ≤ (eI h 1 12).toInt ∧ (eI h 1 12).toInt ≤ 20) : eA h' 1 2 = KS (eA h 1 0) (eA h 1 2) (((eI h 1 11).toInt.toNat + ((eI h 1 12).toInt.toNat - 1)) % 20 * 94) (eI h 1 3) (eI h 1 5) (eI h 1 7) (eI h 1 8) := by
  have y0 : (0 : Int32).toInt = 0 := rfl
  have y1 : (1 : Int32).toInt = 1 := rfl
  have y2 : (2 : Int32).toInt = 2 := rfl
  have y3 : (3 : Int32).toInt = 3 := rfl
  have y90 : (90 : Int32).toInt = 90 := rfl
  have y94 : (94 : Int32).toInt = 94 := rfl
  have y1880 : (1880 : Int32).toInt = 1880 := rfl
  have a1 := fb_addI (x := eI h 1 11) (y := eI h 1 12) (by omega) (by omega)
  have a2 := fb_subI (x := eI h 1 11 + eI h 1 12) (y := 1) (by omega) (by omega)
  have a3 := md20 (x := eI h 1 11 + eI h 1 12 - 1) (by omega)
  have i3 : (eI h 1 11 + eI h 1 12 - 1).toInt.toNat = (eI h 1 11).toInt.toNat + ((eI h 1 12).toInt.toNat - 1) := by omega
  rw [i3] at a3
  unfold f_X4_keepStep_35 f_X4_keepStep_69 at e
  generalize hm : eI h 1 11 + eI h 1 12 - 1 - (eI h 1 11 + eI h 1 12 - 1) / 20 * 20 = M at e a3
  have a4 : (M * 94).toInt = M.toInt * 94 := fb_mulK rfl (by omega) (by omega)
  generalize hE : M * 94 = E at e a4
  generalize ha : ((eI h 1 11).toInt.toNat + ((eI h 1 12).toInt.toNat - 1)) % 20 = b at a3 ⊢
  have b20 : b < 20 := by rw [← ha]; exact Nat.mod_lt _ (by decide)
  have Ei : E.toInt = ((b * 94 : Nat) : Int) := by omega
  have p94 := fb_addI (x := E) (y := 94) (by omega) (by omega)
  have p90 := fb_addI (x := E) (y := 90) (by omega) (by omega)
  have p91 := fb_addI (x := E + 90) (y := 1) (by omega) (by omega)
  have p92 := fb_addI (x := E + 90) (y := 2) (by omega) (by omega)
  have p93 := fb_addI (x := E + 90) (y := 3) (by omega) (by omega)
  have j0 : E.toNatClampNeg = b * 94 := by show E.toInt.toNat = _; omega
  have j90 : (E + 90).toNatClampNeg = b * 94 + 90 := by show (E + 90).toInt.toNat = _; omega
  have j91 : (E + 90 + 1).toNatClampNeg = b * 94 + 91 := by show (E + 90 + 1).toInt.toNat = _; omega
  have j92 : (E + 90 + 2).toNatClampNeg = b * 94 + 92 := by show (E + 90 + 2).toInt.toNat = _; omega
  have j93 : (E + 90 + 3).toNatClampNeg = b * 94 + 93 := by show (E + 90 + 3).toInt.toNat = _; omega
  rw [if_neg (gi_nlt (by omega)), if_pos (gi_le (by omega))] at e
  obtain ⟨-, e⟩ := ob_if e
  obtain ⟨-, e⟩ := ob_if e
  obtain ⟨-, e⟩ := ob_if e
  obtain ⟨-, e⟩ := ob_if e
  obtain ⟨-, e⟩ := ob_if e
  obtain ⟨-, e⟩ := ob_if e
  rw [j0, j90, j91, j92, j93] at e
  have eh := (Option.some.inj e).symm
  rw [eh]
  rfl
theorem mp_keep53 {N : Nat} (N19 : N ≤ 19) : ∀ (n : Nat) (g g' : HS) (x1 : Int32), f_X9_keepsStep_53 n g x1 = some g' → 0 ≤ x1.toInt → (eA g 0 0 5).toInt = (N : Int) → (∀ k : Nat, ¬ k = 5 → ((k : Int) < 130 + 93 * (N : Int) + x1.toInt ∨ 130 + 93 * N + 93 ≤ k) → eA g' 0 0 k = eA g 0 0 k) ∧ (∀ i : Nat, x1.toInt ≤ (i : Int) → i < 93 → eA g' 0 0 (130 + 93 * N + i) = eA g 0 0 (30 + i)) ∧ eA g' 0 0 5 = eA g 0 0 5 + 1 ∧ Fr [(1, 0, 0)] g g' := by
  have y1 : (1 : Int32).toInt = 1 := rfl
  have y30 : (30 : Int32).toInt = 30 := rfl
  have y93 : (93 : Int32).toInt = 93 := rfl
  have y130 : (130 : Int32).toInt = 130 := rfl
  intro n
  induction n with
  | zero => intro g g' x1 e; cases e
  | succ n ih =>
    intro g g' x1 e h0 hN
    rw [f_X9_keepsStep_53_s] at e
    by_cases c : (93 : Int32) ≤ x1
    · rw [if_pos c] at e
      have d := gi_of_le c
      cases e
      refine ⟨fun k k5 _ => ?_, fun i q1 q2 => by omega, ?_, Fr_sA (by decide) (Fr_refl _ _)⟩
      · show upd (eA g 0 0) 5 (eA g 0 0 5 + 1) k = _
        unfold upd
        rw [if_neg k5]
      · show upd (eA g 0 0) 5 (eA g 0 0 5 + 1) 5 = _
        unfold upd
        rw [if_pos rfl]
    · rw [if_neg c] at e
      have d := gi_of_nle c
      have a1 := fb_addI (x := 30) (y := x1) (by omega) (by omega)
      have a2 := fb_mulJ (x := 93) (y := eA g 0 0 5) (k := 93) rfl (by omega) (by omega)
      have a3 := fb_addI (x := 130) (y := 93 * eA g 0 0 5) (by omega) (by omega)
      have a4 := fb_addI (x := 130 + 93 * eA g 0 0 5) (y := x1) (by omega) (by omega)
      have a5 := fb_addI (x := x1) (y := 1) (by omega) (by omega)
      have j1 : (30 + x1).toNatClampNeg = 30 + x1.toInt.toNat := by show (30 + x1).toInt.toNat = _; omega
      have j2 : (130 + 93 * eA g 0 0 5 + x1).toNatClampNeg = 130 + 93 * N + x1.toInt.toNat := by show (130 + 93 * eA g 0 0 5 + x1).toInt.toNat = _; omega
      obtain ⟨-, e⟩ := ob_if e
      obtain ⟨-, e⟩ := ob_if e
      rw [j1, j2] at e
      have u : ∀ k : Nat, ¬ k = 130 + 93 * N + x1.toInt.toNat → upd (eA g 0 0) (130 + 93 * N + x1.toInt.toNat) (eA g 0 0 (30 + x1.toInt.toNat)) k = eA g 0 0 k := fun k hk => by unfold upd; rw [if_neg hk]
      obtain ⟨k1, k2, k3, k4⟩ := ih _ g' (x1 + 1) e (by omega) (by show (upd (eA g 0 0) (130 + 93 * N + x1.toInt.toNat) (eA g 0 0 (30 + x1.toInt.toNat)) 5).toInt = _; rw [u 5 (by omega)]; exact hN)
      have k1 : ∀ k : Nat, ¬ k = 5 → ((k : Int) < 130 + 93 * (N : Int) + (x1 + 1).toInt ∨ 130 + 93 * N + 93 ≤ k) → eA g' 0 0 k = upd (eA g 0 0) (130 + 93 * N + x1.toInt.toNat) (eA g 0 0 (30 + x1.toInt.toNat)) k := k1
      have k2 : ∀ i : Nat, (x1 + 1).toInt ≤ (i : Int) → i < 93 → eA g' 0 0 (130 + 93 * N + i) = upd (eA g 0 0) (130 + 93 * N + x1.toInt.toNat) (eA g 0 0 (30 + x1.toInt.toNat)) (30 + i) := k2
      have k3 : eA g' 0 0 5 = upd (eA g 0 0) (130 + 93 * N + x1.toInt.toNat) (eA g 0 0 (30 + x1.toInt.toNat)) 5 + 1 := k3
      refine ⟨fun k k5 q => ?_, fun i q1 q2 => ?_, ?_, Fr_trans (Fr_sA (by decide) (Fr_refl _ _)) k4⟩
      · rw [k1 k k5 (by omega), u k (by omega)]
      · by_cases ci : (i : Int) = x1.toInt
        · rw [k1 (130 + 93 * N + i) (by omega) (by omega)]
          unfold upd
          rw [if_pos (by omega), show x1.toInt.toNat = i by omega]
        · rw [k2 i (by omega) q2, u _ (by omega)]
      · rw [k3, u 5 (by omega)]
theorem mp_keep15 : ∀ (n : Nat) (g g' : HS) (x1 : Int32), f_X9_keepsStep_15 n g x1 = some g' → 130 ≤ x1.toInt → x1.toInt ≤ 1897 → ∃ g1 : HS, f_X9_keepsStep_51 g1 = some g' ∧ eA g1 0 0 5 = 19 ∧ (∀ k : Nat, ¬ k = 5 → ((k : Int) < x1.toInt ∨ 1897 ≤ k) → eA g1 0 0 k = eA g 0 0 k) ∧ (∀ k : Nat, x1.toInt ≤ (k : Int) → k < 1897 → eA g1 0 0 k = eA g 0 0 (k + 93)) ∧ Fr [(1, 0, 0)] g g1 := by
  have y1 : (1 : Int32).toInt = 1 := rfl
  have y93 : (93 : Int32).toInt = 93 := rfl
  have y1897 : (1897 : Int32).toInt = 1897 := rfl
  intro n
  induction n with
  | zero => intro g g' x1 e; cases e
  | succ n ih =>
    intro g g' x1 e h0 h1
    rw [f_X9_keepsStep_15_s] at e
    by_cases c : (1897 : Int32) ≤ x1
    · rw [if_pos c] at e
      have d := gi_of_le c
      refine ⟨_, e, ?_, fun k k5 _ => ?_, fun i q1 q2 => by omega, Fr_sA (by decide) (Fr_refl _ _)⟩
      · show upd (eA g 0 0) 5 19 5 = _
        unfold upd
        rw [if_pos rfl]
      · show upd (eA g 0 0) 5 19 k = _
        unfold upd
        rw [if_neg k5]
    · rw [if_neg c] at e
      have d := gi_of_nle c
      have a1 := fb_addI (x := x1) (y := 93) (by omega) (by omega)
      have a5 := fb_addI (x := x1) (y := 1) (by omega) (by omega)
      have j1 : (x1 + 93).toNatClampNeg = x1.toInt.toNat + 93 := by show (x1 + 93).toInt.toNat = _; omega
      have j2 : x1.toNatClampNeg = x1.toInt.toNat := rfl
      obtain ⟨-, e⟩ := ob_if e
      obtain ⟨-, e⟩ := ob_if e
      rw [j1, j2] at e
      have u : ∀ k : Nat, ¬ k = x1.toInt.toNat → upd (eA g 0 0) x1.toInt.toNat (eA g 0 0 (x1.toInt.toNat + 93)) k = eA g 0 0 k := fun k hk => by unfold upd; rw [if_neg hk]
      obtain ⟨g1, k0, k1, k2, k3, k4⟩ := ih _ g' (x1 + 1) e (by omega) (by omega)
      have k2 : ∀ k : Nat, ¬ k = 5 → ((k : Int) < (x1 + 1).toInt ∨ 1897 ≤ k) → eA g1 0 0 k = upd (eA g 0 0) x1.toInt.toNat (eA g 0 0 (x1.toInt.toNat + 93)) k := k2
      have k3 : ∀ k : Nat, (x1 + 1).toInt ≤ (k : Int) → k < 1897 → eA g1 0 0 k = upd (eA g 0 0) x1.toInt.toNat (eA g 0 0 (x1.toInt.toNat + 93)) (k + 93) := k3
      refine ⟨g1, k0, k1, fun k k5 q => ?_, fun k q1 q2 => ?_, Fr_trans (Fr_sA (by decide) (Fr_refl _ _)) k4⟩
      · rw [k2 k k5 (by omega), u k (by omega)]
      · by_cases ci : (k : Int) = x1.toInt
        · rw [k2 k (by omega) (by omega)]
          unfold upd
          rw [if_pos (by omega), show x1.toInt.toNat = k by omega]
        · rw [k3 k (by omega) q2, u _ (by omega)]
/-! rows in a ring against rows in a line -/
theorem steps_app {s0 s A B : Nat → Int32} {f n : Nat} {c gr d x : Int32} (x0 : STEPS s A f n) (n19 : n ≤ 19) (r1 : 0 ≤ (A 1).toInt ∧ (A 1).toInt ≤ 10) (ge : GEE s0 A) (hc : c = A 1) (hg : gr = A 120) (hd : d = A 121) (hx : x = A 122) (b1 : ∀ k : Nat, ¬ k = 5 → (k < 130 + 93 * n ∨ 130 + 93 * n + 93 ≤ k) → B k = A k) (b2 : ∀ i : Nat, i < 93 → B (130 + 93 * n + i) = A (30 + i)) : STEPS (KS s0 s ((f + n) % 20 * 94) c gr d x) B f (n + 1) ∧ KS s0 s ((f + n) % 20 * 94) c gr d x ((f + n) % 20 * 94 + 90) = B 1 := by
  have e1 : B 1 = A 1 := b1 1 (by decide) (by omega)
  refine ⟨fun j hj => ?_, by rw [KS_90, e1, hc]⟩
  by_cases cj : j = n
  · subst cj
    refine ⟨?_, fun i hi => ?_, fun i q1 q2 => ?_, ?_, ?_, ?_⟩
    · rw [KS_90, hc, e1]; omega
    · rw [KS_90, hc] at hi
      rw [KS_in (by omega), b2 i (by omega)]
      exact ge i hi
    · rw [KS_90, hc] at q1
      rw [e1] at q2
      omega
    · rw [KS_91, b2 90 (by decide), hg]
    · rw [KS_92, b2 91 (by decide), hd]
    · rw [KS_93, b2 92 (by decide), hx]
  · have jn : j < n := by omega
    obtain ⟨x1, x2, x3, x4, x5, x6⟩ := x0 j jn
    have far : ∀ i : Nat, i < 94 → KS s0 s ((f + n) % 20 * 94) c gr d x ((f + j) % 20 * 94 + i) = s ((f + j) % 20 * 94 + i) := by
      intro i hi
      apply KS_out
      have : ¬ (f + j) % 20 = (f + n) % 20 := by omega
      omega
    have bj : ∀ i : Nat, i < 93 → B (130 + 93 * j + i) = A (130 + 93 * j + i) := fun i hi => b1 _ (by omega) (by omega)
    refine ⟨?_, fun i hi => ?_, fun i q1 q2 => ?_, ?_, ?_, ?_⟩
    · rw [far 90 (by decide), e1]; exact x1
    · rw [far 90 (by decide)] at hi
      rw [far i (by omega), bj i (by omega)]
      exact x2 i hi
    · rw [far 90 (by decide)] at q1
      rw [e1] at q2
      rw [bj i (by omega), x3 i q1 q2]
      unfold nxr
      rw [if_pos (show j + 1 < n + 1 by omega)]
      by_cases c1 : j + 1 < n
      · rw [if_pos c1]; exact (b1 _ (by omega) (by omega)).symm
      · rw [if_neg c1, show j + 1 = n by omega]
        exact (b2 i (by omega)).symm
    · rw [far 91 (by decide), bj 90 (by decide)]; exact x4
    · rw [far 92 (by decide), bj 91 (by decide)]; exact x5
    · rw [far 93 (by decide), bj 92 (by decide)]; exact x6
theorem steps_drop {s A B : Nat → Int32} {f : Nat} (x0 : STEPS s A f 20) (r1 : (A 1).toInt ≤ 10) (b1 : ∀ k : Nat, ¬ k = 5 → (k < 130 ∨ 1897 ≤ k) → B k = A k) (b2 : ∀ k : Nat, 130 ≤ k → k < 1897 → B k = A (k + 93)) : STEPS s B ((f + 1) % 20) 19 := by
  have e1 : B 1 = A 1 := b1 1 (by decide) (by omega)
  intro j hj
  obtain ⟨x1, x2, x3, x4, x5, x6⟩ := x0 (j + 1) (by omega)
  have sl : ((f + 1) % 20 + j) % 20 = (f + (j + 1)) % 20 := by omega
  rw [sl]
  have bj : ∀ i : Nat, i < 93 → B (130 + 93 * j + i) = A (130 + 93 * (j + 1) + i) := fun i hi => by
    rw [b2 _ (by omega) (by omega), show 130 + 93 * j + i + 93 = 130 + 93 * (j + 1) + i by omega]
  refine ⟨by rw [e1]; exact x1, fun i hi => ?_, fun i q1 q2 => ?_, by rw [bj 90 (by decide)]; exact x4, by rw [bj 91 (by decide)]; exact x5, by rw [bj 92 (by decide)]; exact x6⟩
  · rw [bj i (by omega)]; exact x2 i hi
  · rw [e1] at q2
    rw [bj i (by omega), x3 i q1 q2]
    unfold nxr
    by_cases c : j + 1 < 19
    · rw [if_pos (show j + 1 + 1 < 20 by omega), if_pos c, b2 (130 + 93 * (j + 1) + i) (by omega) (by omega), show 130 + 93 * (j + 1) + i + 93 = 130 + 93 * (j + 1 + 1) + i by omega]
    · rw [if_neg (show ¬ j + 1 + 1 < 20 by omega), if_neg c]
      exact (b1 _ (by omega) (by omega)).symm
