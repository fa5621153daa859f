/-! sums of sixteen longs, and the loops of the chances (draft of start 9, not compiled yet) -/
def smN : Nat → (Nat → Int64) → Int64
  | 0, _ => 0
  | n + 1, f => smN n f + f n
theorem smN_congr {f g : Nat → Int64} : ∀ (n : Nat), (∀ i : Nat, i < n → f i = g i) → smN n f = smN n g := by
  intro n
  induction n with
  | zero => intro _; rfl
  | succ n ih =>
    intro h
    show smN n f + f n = smN n g + g n
    rw [ih (fun i hi => h i (by omega)), h n (by omega)]
theorem smN_add {f g : Nat → Int64} : ∀ (n : Nat), smN n (fun i => f i + g i) = smN n f + smN n g := by
  intro n
  induction n with
  | zero => rfl
  | succ n ih =>
    show smN n (fun i => f i + g i) + (f n + g n) = (smN n f + f n) + (smN n g + g n)
    rw [ih, Int64.add_assoc, Int64.add_assoc, ← Int64.add_assoc (smN n g), Int64.add_comm (smN n g) (f n), Int64.add_assoc (f n)]
theorem smN_one {j : Nat} {v : Int64} : ∀ (n : Nat), smN n (fun i => if i = j then v else 0) = if j < n then v else 0 := by
  intro n
  induction n with
  | zero => rfl
  | succ n ih =>
    show smN n (fun i => if i = j then v else 0) + (if n = j then v else 0) = _
    rw [ih]
    by_cases c : n = j
    · subst c
      rw [if_neg (by omega), if_pos rfl, if_pos (by omega), Int64.zero_add]
    · rw [if_neg c, Int64.add_zero]
      by_cases c2 : j < n
      · rw [if_pos c2, if_pos (by omega)]
      · rw [if_neg c2, if_neg (by omega)]
/-- the same pair, friends first or the enemy first -/
def prm (i : Nat) : Nat := i % 4 * 4 + i / 4
theorem smN_prm (f : Nat → Int64) : smN 16 f = smN 16 (fun i => f (prm i)) := by
  show 0 + f 0 + f 1 + f 2 + f 3 + f 4 + f 5 + f 6 + f 7 + f 8 + f 9 + f 10 + f 11 + f 12 + f 13 + f 14 + f 15 = 0 + f 0 + f 4 + f 8 + f 12 + f 1 + f 5 + f 9 + f 13 + f 2 + f 6 + f 10 + f 14 + f 3 + f 7 + f 11 + f 15
  ac_rfl
def adL (f : Nat → Int64) (i : Nat) (v : Int64) : Nat → Int64 := vp_updL f i (f i + v)
theorem adL_at (f : Nat → Int64) (i j : Nat) (v : Int64) : adL f i v j = f j + if i = j then v else 0 := by
  unfold adL vp_updL
  by_cases c : j = i
  · rw [if_pos c, if_pos c.symm, c]
  · rw [if_neg c, if_neg (fun k => c k.symm), Int64.add_zero]
/-! places: friends' and the enemy's halves joined (draft of start 9, not compiled yet) -/
theorem px_f : ∀ i : Fin 16, ∀ T : Fin 4, (nI i.val ||| (nI T.val * 4)).toInt.toNat = (i.val ||| 4 * T.val) ∧ (i.val ||| 4 * T.val) < 16 := by decide +kernel
theorem px_e : ∀ i : Fin 16, ∀ T : Fin 4, (nI i.val ||| nI T.val).toInt.toNat = (i.val ||| T.val) ∧ (i.val ||| T.val) < 16 := by decide +kernel
theorem pm_f : ∀ k : Fin 16, ∀ T : Fin 4, (nI k.val / 4 * 4 + ((nI k.val - nI k.val / 4 * 4) ||| nI T.val)).toInt.toNat = prm (prm k.val ||| 4 * T.val) := by decide +kernel
theorem pm_e : ∀ k : Fin 16, ∀ T : Fin 4, (4 * (nI k.val / 4 ||| nI T.val) + (nI k.val - nI k.val / 4 * 4)).toInt.toNat = prm (prm k.val ||| T.val) := by decide +kernel
theorem prm_prm : ∀ i : Fin 16, prm (prm i.val) = i.val ∧ prm i.val < 16 := by decide
theorem prm_inj {i j : Nat} (hi : i < 16) (hj : j < 16) : prm i = prm j ↔ i = j := by
  refine ⟨fun h => ?_, fun h => by rw [h]⟩
  have a := (prm_prm ⟨i, hi⟩).1
  have b := (prm_prm ⟨j, hj⟩).1
  have a : prm (prm i) = i := a
  have b : prm (prm j) = j := b
  rw [← a, ← b, h]
/-- what one source gives to one place, the class's way -/
def gvC (W : Nat → Int64) (F R : Int64) (H T j i : Nat) : Int64 := (if (i ||| 4 * T) = j then W i * F else 0) + (if (i ||| H) = j then W i * R else 0)
theorem cp_add129 {x7 x8 : Int32} {H T : Nat} (hH : H < 4) (hT : T < 4) {B W : Nat → Int64} {h' : HS} : ∀ (n : Nat) (h : HS) (x : Int32), f_X0_add_129 n h (nI H) (nI T) x7 x8 x = some h' → 0 ≤ x.toInt → x.toInt ≤ 16 → eJ h 7 2 = W → (∀ j : Nat, j < 16 → eJ h 7 3 j = B j + smN x.toInt.toNat (gvC W x8.toInt64 x7.toInt64 H T j)) → (∀ j : Nat, j < 16 → eJ h' 7 2 j = B j + smN 16 (gvC W x8.toInt64 x7.toInt64 H T j)) ∧ eL h' 7 1 = eL h 7 1 * 100 ∧ Fr [(3, 7, 2), (3, 7, 3), (2, 7, 1)] h h' := by
  have y1 : (1 : Int32).toInt = 1 := rfl
  have y16 : (16 : Int32).toInt = 16 := rfl
  intro n
  induction n with
  | zero => intro h x e; cases e
  | succ n ih =>
    intro h x e x0 x16 hW hB
    rw [f_X0_add_129_s] at e
    by_cases c : (16 : Int32) ≤ x
    · rw [if_pos c] at e
      have d := gi_of_le c
      cases e
      refine ⟨fun j hj => ?_, rfl, Fr_sL (by decide) (Fr_sJ (by decide) (Fr_refl _ _))⟩
      show va_cpy (eJ h 7 3) (eJ h 7 2) 0 0 16 j = _
      unfold va_cpy
      rw [if_pos (by omega), Nat.zero_add, Nat.sub_zero, hB j hj, show x.toInt.toNat = 16 by omega]
    · rw [if_neg c] at e
      have d := gi_of_nle c
      obtain ⟨i, hi, rfl⟩ := gi_nat (x := x) 16 x0 (by omega)
      have xi : (nI i).toInt = (i : Int) := nI_toInt (by omega)
      have a3 := fb_addI (x := nI i) (y := 1) (by omega) (by omega)
      obtain ⟨-, e⟩ := ob_if e
      obtain ⟨-, e⟩ := ob_if e
      obtain ⟨-, e⟩ := ob_if e
      obtain ⟨-, e⟩ := ob_if e
      obtain ⟨-, e⟩ := ob_if e
      obtain ⟨-, e⟩ := ob_if e
      have p1 : (nI i ||| (nI T * 4)).toNatClampNeg = (i ||| 4 * T) := (px_f ⟨i, hi⟩ ⟨T, hT⟩).1
      have p2 : (nI i ||| nI H).toNatClampNeg = (i ||| H) := (px_e ⟨i, hi⟩ ⟨H, hH⟩).1
      have p3 : (nI i).toNatClampNeg = i := by show (nI i).toInt.toNat = i; omega
      rw [p1, p2, p3] at e
      obtain ⟨k1, k2, k3⟩ := ih _ (nI i + 1) e (by omega) (by omega) hW (fun j hj => by
        show adL (adL (eJ h 7 3) (i ||| 4 * T) (eJ h 7 2 i * x8.toInt64)) (i ||| H) (eJ h 7 2 i * x7.toInt64) j = _
        rw [adL_at, adL_at, hB j hj, hW, show (nI i + 1).toInt.toNat = i + 1 by omega, show (nI i).toInt.toNat = i by omega, Int64.add_assoc, Int64.add_assoc]
        rfl)
      exact ⟨k1, k2, Fr_trans (Fr_sJ (by decide) (Fr_sJ (by decide) (Fr_refl _ _))) k3⟩
theorem cp_add86 {x7 x8 : Int32} {H T : Nat} (hH : H < 4) (hT : T < 4) {W : Nat → Int64} {h' : HS} : ∀ (n : Nat) (h : HS) (x : Int32), f_X0_add_86 n h (nI H) (nI T) x7 x8 x = some h' → 0 ≤ x.toInt → x.toInt ≤ 16 → eJ h 7 2 = W → (∀ j : Nat, (j : Int) < x.toInt → eJ h 7 3 j = W j * (100 - x8 - x7).toInt64) → (∀ j : Nat, j < 16 → eJ h' 7 2 j = W j * (100 - x8 - x7).toInt64 + smN 16 (gvC W x8.toInt64 x7.toInt64 H T j)) ∧ eL h' 7 1 = eL h 7 1 * 100 ∧ Fr [(3, 7, 2), (3, 7, 3), (2, 7, 1)] h h' := by
  have y1 : (1 : Int32).toInt = 1 := rfl
  have y16 : (16 : Int32).toInt = 16 := rfl
  intro n
  induction n with
  | zero => intro h x e; cases e
  | succ n ih =>
    intro h x e x0 x16 hW hB
    rw [f_X0_add_86_s] at e
    by_cases c : (16 : Int32) ≤ x
    · rw [if_pos c] at e
      have d := gi_of_le c
      exact cp_add129 hH hT (B := fun j => W j * (100 - x8 - x7).toInt64) _ h 0 e (by decide) (by decide) hW (fun j hj => by
        show eJ h 7 3 j = W j * (100 - x8 - x7).toInt64 + 0
        rw [Int64.add_zero]
        exact hB j (by omega))
    · rw [if_neg c] at e
      have d := gi_of_nle c
      obtain ⟨-, e⟩ := ob_if e
      obtain ⟨-, e⟩ := ob_if e
      have a3 := fb_addI (x := x) (y := 1) (by omega) (by omega)
      have p3 : x.toNatClampNeg = x.toInt.toNat := rfl
      rw [p3] at e
      obtain ⟨k1, k2, k3⟩ := ih _ (x + 1) e (by omega) (by omega) hW (fun j hj => by
        show vp_updL (eJ h 7 3) x.toInt.toNat (eJ h 7 2 x.toInt.toNat * (100 - x8 - x7).toInt64) j = _
        unfold vp_updL
        by_cases cj : j = x.toInt.toNat
        · rw [if_pos cj, cj, hW]
        · rw [if_neg cj]; exact hB j (by omega))
      exact ⟨k1, k2, Fr_trans (Fr_sJ (by decide) (Fr_refl _ _)) k3⟩
/-- what one source gives to one place, the reference's way -/
def gvM (V : Nat → Int64) (f10 b c10 r : Int64) (H T t k : Nat) : Int64 := ((if prm (prm k ||| 4 * T) = t then V k * f10 * 10 else 0) + (if k = t then V k * b * c10 else 0)) + (if prm (prm k ||| H) = t then V k * b * r else 0)
theorem mp_copy164 {g' : HS} {N : Nat → Int64} : ∀ (n : Nat) (g : HS) (x : Int32), f_X9_comesMany_164 n g x = some g' → 0 ≤ x.toInt → x.toInt ≤ 16 → eJ g 0 42 = N → (∀ j : Nat, (j : Int) < x.toInt → eJ g 0 41 j = N j) → (∀ j : Nat, j < 16 → eJ g' 0 41 j = N j) ∧ Fr [(3, 0, 41)] g g' := by
  have y1 : (1 : Int32).toInt = 1 := rfl
  have y16 : (16 : Int32).toInt = 16 := rfl
  intro n
  induction n with
  | zero => intro g x e; cases e
  | succ n ih =>
    intro g x e x0 x16 hN hB
    rw [f_X9_comesMany_164_s] at e
    by_cases c : (16 : Int32) ≤ x
    · rw [if_pos c] at e
      have d := gi_of_le c
      cases e
      exact ⟨fun j hj => hB j (by omega), Fr_refl _ _⟩
    · rw [if_neg c] at e
      have d := gi_of_nle c
      obtain ⟨-, e⟩ := ob_if e
      obtain ⟨-, e⟩ := ob_if e
      have a3 := fb_addI (x := x) (y := 1) (by omega) (by omega)
      have p3 : x.toNatClampNeg = x.toInt.toNat := rfl
      rw [p3] at e
      obtain ⟨k1, k2⟩ := ih _ (x + 1) e (by omega) (by omega) hN (fun j hj => by
        show vp_updL (eJ g 0 41) x.toInt.toNat (eJ g 0 42 x.toInt.toNat) j = _
        unfold vp_updL
        by_cases cj : j = x.toInt.toNat
        · rw [if_pos cj, cj, hN]
        · rw [if_neg cj]; exact hB j (by omega))
      exact ⟨k1, Fr_trans (Fr_sJ (by decide) (Fr_refl _ _)) k2⟩
theorem mp_come27 {b r p tr : Int32} {H T : Nat} (hH : H < 4) (hT : T < 4) (eH : f_X9_halves p = some (nI H)) (eT : (tr = 0 ∧ T = 0) ∨ (¬ tr = 0 ∧ T = H)) {V : Nat → Int64} {g' : HS} : ∀ (n : Nat) (g : HS) (x : Int32), f_X9_comesMany_27 n g b r p tr x = some g' → 0 ≤ x.toInt → x.toInt ≤ 16 → eJ g 0 41 = V → (∀ t : Nat, t < 16 → eJ g 0 42 t = smN x.toInt.toNat (gvM V (10 - b).toInt64 b.toInt64 (10 - r).toInt64 r.toInt64 H T t)) → (∀ t : Nat, t < 16 → eJ g' 0 41 t = smN 16 (gvM V (10 - b).toInt64 b.toInt64 (10 - r).toInt64 r.toInt64 H T t)) ∧ Fr [(3, 0, 41), (3, 0, 42)] g g' := by
  have y1 : (1 : Int32).toInt = 1 := rfl
  have y16 : (16 : Int32).toInt = 16 := rfl
  intro n
  induction n with
  | zero => intro g x e; cases e
  | succ n ih =>
    intro g x e x0 x16 hV hB
    rw [f_X9_comesMany_27_s] at e
    by_cases c : (16 : Int32) ≤ x
    · rw [if_pos c] at e
      have d := gi_of_le c
      obtain ⟨k1, k2⟩ := mp_copy164 (N := eJ g 0 42) _ g 0 e (by decide) (by decide) rfl (fun j hj => by have : (0 : Int32).toInt = 0 := rfl; omega)
      refine ⟨fun t ht => ?_, Fr_mono (by decide) k2⟩
      rw [k1 t ht, hB t ht, show x.toInt.toNat = 16 by omega]
    · rw [if_neg c] at e
      have d := gi_of_nle c
      obtain ⟨k, hk, rfl⟩ := gi_nat (x := x) 16 x0 (by omega)
      have xi : (nI k).toInt = (k : Int) := nI_toInt (by omega)
      have a3 := fb_addI (x := nI k) (y := 1) (by omega) (by omega)
      have e : f_X9_comesMany_51 (f_X9_comesMany_27 n) g b r p tr (nI k) (nI T) (nI k - nI k / 4 * 4) = some g' := by
        rcases eT with ⟨q1, q2⟩ | ⟨q1, q2⟩
        · rw [if_pos q1] at e
          rw [q2]
          exact e
        · rw [if_neg q1] at e
          obtain ⟨r5, b5, e⟩ := ob1_some e
          rw [eH] at b5
          obtain rfl := Option.some.inj b5
          rw [q2]
          exact e
      unfold f_X9_comesMany_51 at e
      obtain ⟨r9, b9, e⟩ := ob1_some e
      rw [eH] at b9
      obtain rfl := Option.some.inj b9
      obtain ⟨-, e⟩ := ob_if e
      obtain ⟨-, e⟩ := ob_if e
      obtain ⟨-, e⟩ := ob_if e
      obtain ⟨-, e⟩ := ob_if e
      obtain ⟨-, e⟩ := ob_if e
      obtain ⟨-, e⟩ := ob_if e
      obtain ⟨-, e⟩ := ob_if e
      obtain ⟨-, e⟩ := ob_if e
      obtain ⟨-, e⟩ := ob_if e
      have p1 : (nI k / 4 * 4 + ((nI k - nI k / 4 * 4) ||| nI T)).toNatClampNeg = prm (prm k ||| 4 * T) := pm_f ⟨k, hk⟩ ⟨T, hT⟩
      have p2 : (4 * (nI k / 4 ||| nI H) + (nI k - nI k / 4 * 4)).toNatClampNeg = prm (prm k ||| H) := pm_e ⟨k, hk⟩ ⟨H, hH⟩
      have p3 : (nI k).toNatClampNeg = k := by show (nI k).toInt.toNat = k; omega
      rw [p1, p2, p3] at e
      obtain ⟨k1, k2⟩ := ih _ (nI k + 1) e (by omega) (by omega) hV (fun t ht => by
        show adL (adL (adL (eJ g 0 42) (prm (prm k ||| 4 * T)) (eJ g 0 41 k * (10 - b).toInt64 * 10)) k (eJ g 0 41 k * b.toInt64 * (10 - r).toInt64)) (prm (prm k ||| H)) (eJ g 0 41 k * b.toInt64 * r.toInt64) t = _
        rw [adL_at, adL_at, adL_at, hB t ht, hV, show (nI k + 1).toInt.toNat = k + 1 by omega, show (nI k).toInt.toNat = k by omega, Int64.add_assoc, Int64.add_assoc]
        show _ = smN k _ + gvM V _ _ _ _ H T t k
        unfold gvM
        rw [Int64.add_assoc])
      exact ⟨k1, Fr_trans (Fr_sJ (by decide) (Fr_sJ (by decide) (Fr_sJ (by decide) (Fr_refl _ _)))) k2⟩
theorem mp_come3 {b r p tr : Int32} {H T : Nat} (hH : H < 4) (hT : T < 4) (eH : f_X9_halves p = some (nI H)) (eT : (tr = 0 ∧ T = 0) ∨ (¬ tr = 0 ∧ T = H)) {V : Nat → Int64} {g' : HS} : ∀ (n : Nat) (g : HS) (x : Int32), f_X9_comesMany_3 n g b r p tr x = some g' → 0 ≤ x.toInt → x.toInt ≤ 16 → eJ g 0 41 = V → (∀ j : Nat, (j : Int) < x.toInt → eJ g 0 42 j = 0) → (∀ t : Nat, t < 16 → eJ g' 0 41 t = smN 16 (gvM V (10 - b).toInt64 b.toInt64 (10 - r).toInt64 r.toInt64 H T t)) ∧ Fr [(3, 0, 41), (3, 0, 42)] g g' := by
  have y1 : (1 : Int32).toInt = 1 := rfl
  have y16 : (16 : Int32).toInt = 16 := rfl
  intro n
  induction n with
  | zero => intro g x e; cases e
  | succ n ih =>
    intro g x e x0 x16 hV hB
    rw [f_X9_comesMany_3_s] at e
    by_cases c : (16 : Int32) ≤ x
    · rw [if_pos c] at e
      have d := gi_of_le c
      exact mp_come27 hH hT eH eT _ g 0 e (by decide) (by decide) hV (fun t ht => hB t (by omega))
    · rw [if_neg c] at e
      have d := gi_of_nle c
      obtain ⟨-, e⟩ := ob_if e
      have a3 := fb_addI (x := x) (y := 1) (by omega) (by omega)
      have p3 : x.toNatClampNeg = x.toInt.toNat := rfl
      rw [p3] at e
      obtain ⟨k1, k2⟩ := ih _ (x + 1) e (by omega) (by omega) hV (fun j hj => by
        show vp_updL (eJ g 0 42) x.toInt.toNat 0 j = _
        unfold vp_updL
        by_cases cj : j = x.toInt.toNat
        · rw [if_pos cj]
        · rw [if_neg cj]; exact hB j (by omega))
      exact ⟨k1, Fr_trans (Fr_sJ (by decide) (Fr_refl _ _)) k2⟩
/-- both ways give the same, place by place -/
theorem come_same {W V : Nat → Int64} {F R M f10 b c10 r : Int64} {H T : Nat} (hH : H < 4) (hT : T < 4) (wv : ∀ i : Nat, i < 16 → W i = V (prm i)) (eF : ∀ x : Int64, x * f10 * 10 = x * F) (eM : ∀ x : Int64, x * b * c10 = x * M) (eR : ∀ x : Int64, x * b * r = x * R) {j : Nat} (hj : j < 16) : W j * M + smN 16 (gvC W F R H T j) = smN 16 (gvM V f10 b c10 r H T (prm j)) := by
  rw [smN_prm (gvM V f10 b c10 r H T (prm j))]
  have e : smN 16 (fun i => gvM V f10 b c10 r H T (prm j) (prm i)) = smN 16 (fun i => (if i = j then W j * M else 0) + gvC W F R H T j i) := by
    refine smN_congr 16 (fun i hi => ?_)
    have pp : prm (prm i) = i := (prm_prm ⟨i, hi⟩).1
    have q1 : (i ||| 4 * T) < 16 := (px_f ⟨i, hi⟩ ⟨T, hT⟩).2
    have q2 : (i ||| H) < 16 := (px_e ⟨i, hi⟩ ⟨H, hH⟩).2
    unfold gvM gvC
    rw [pp, eF, eM, eR, ← wv i hi]
    have c1 : (if prm (i ||| 4 * T) = prm j then W i * F else (0 : Int64)) = if (i ||| 4 * T) = j then W i * F else 0 := by
      by_cases c : (i ||| 4 * T) = j
      · rw [if_pos c, if_pos ((prm_inj q1 hj).mpr c)]
      · rw [if_neg c, if_neg (fun k => c ((prm_inj q1 hj).mp k))]
    have c2 : (if prm (i ||| H) = prm j then W i * R else (0 : Int64)) = if (i ||| H) = j then W i * R else 0 := by
      by_cases c : (i ||| H) = j
      · rw [if_pos c, if_pos ((prm_inj q2 hj).mpr c)]
      · rw [if_neg c, if_neg (fun k => c ((prm_inj q2 hj).mp k))]
    have c3 : (if prm i = prm j then W i * M else (0 : Int64)) = if i = j then W j * M else 0 := by
      by_cases c : i = j
      · rw [if_pos c, if_pos (by rw [c]), c]
      · rw [if_neg c, if_neg (fun k => c ((prm_inj hi hj).mp k))]
    rw [c1, c2, c3, Int64.add_comm (if (i ||| 4 * T) = j then W i * F else 0), Int64.add_assoc]
  rw [e, smN_add, smN_one, if_pos hj]
/-! the same sums over whole numbers: nothing wraps (draft of start 9, not compiled yet) -/
def smZ : Nat → (Nat → Int) → Int
  | 0, _ => 0
  | n + 1, f => smZ n f + f n
theorem smZ_congr {f g : Nat → Int} : ∀ (n : Nat), (∀ i : Nat, i < n → f i = g i) → smZ n f = smZ n g := by
  intro n
  induction n with
  | zero => intro _; rfl
  | succ n ih =>
    intro h
    show smZ n f + f n = smZ n g + g n
    rw [ih (fun i hi => h i (by omega)), h n (by omega)]
theorem smZ_add {f g : Nat → Int} : ∀ (n : Nat), smZ n (fun i => f i + g i) = smZ n f + smZ n g := by
  intro n
  induction n with
  | zero => rfl
  | succ n ih =>
    show smZ n (fun i => f i + g i) + (f n + g n) = (smZ n f + f n) + (smZ n g + g n)
    omega
theorem smZ_mul {f : Nat → Int} {c : Int} : ∀ (n : Nat), smZ n (fun i => f i * c) = smZ n f * c := by
  intro n
  induction n with
  | zero => show (0 : Int) = 0 * c; rw [Int.zero_mul]
  | succ n ih =>
    show smZ n (fun i => f i * c) + f n * c = (smZ n f + f n) * c
    rw [ih, Int.add_mul]
theorem smZ_one {j : Nat} {v : Int} : ∀ (n : Nat), smZ n (fun i => if j = i then v else 0) = if j < n then v else 0 := by
  intro n
  induction n with
  | zero => rfl
  | succ n ih =>
    show smZ n (fun i => if j = i then v else 0) + (if j = n then v else 0) = _
    rw [ih]
    by_cases c : j = n
    · rw [if_neg (by omega), if_pos c, if_pos (by omega), Int.zero_add]
    · rw [if_neg c, Int.add_zero]
      by_cases c2 : j < n
      · rw [if_pos c2, if_pos (by omega)]
      · rw [if_neg c2, if_neg (by omega)]
theorem smZ_zero : ∀ (n : Nat), smZ n (fun _ => 0) = 0 := by
  intro n
  induction n with
  | zero => rfl
  | succ n ih => show smZ n (fun _ => 0) + 0 = 0; omega
theorem smZ_nn {f : Nat → Int} : ∀ (n : Nat), (∀ i : Nat, i < n → 0 ≤ f i) → 0 ≤ smZ n f ∧ ∀ i : Nat, i < n → f i ≤ smZ n f := by
  intro n
  induction n with
  | zero => intro _; exact ⟨Int.le_refl _, fun i hi => absurd hi (by omega)⟩
  | succ n ih =>
    intro h
    obtain ⟨k1, k2⟩ := ih (fun i hi => h i (by omega))
    have k3 := h n (by omega)
    show 0 ≤ smZ n f + f n ∧ ∀ i : Nat, i < n + 1 → f i ≤ smZ n f + f n
    refine ⟨by omega, fun i hi => ?_⟩
    by_cases c : i = n
    · subst c; omega
    · have := k2 i (by omega); omega
theorem smZ_swap {f : Nat → Nat → Int} (m : Nat) : ∀ (n : Nat), smZ n (fun i => smZ m (fun j => f i j)) = smZ m (fun j => smZ n (fun i => f i j)) := by
  intro n
  induction n with
  | zero => exact (smZ_zero m).symm
  | succ n ih =>
    show smZ n (fun i => smZ m (fun j => f i j)) + smZ m (fun j => f n j) = smZ m (fun j => smZ n (fun i => f i j) + f n j)
    rw [ih, smZ_add]
theorem smN_Z {f : Nat → Int64} {z : Nat → Int} : ∀ (n : Nat), (∀ i : Nat, i < n → (f i).toInt = z i ∧ 0 ≤ z i) → smZ n z < 9223372036854775808 → (smN n f).toInt = smZ n z := by
  intro n
  induction n with
  | zero => intro _ _; rfl
  | succ n ih =>
    intro h l
    have l : smZ n z + z n < 9223372036854775808 := l
    have k := h n (by omega)
    have nn := (smZ_nn (f := z) n (fun i hi => (h i (by omega)).2)).1
    have e := ih (fun i hi => h i (by omega)) (by omega)
    show (smN n f + f n).toInt = smZ n z + z n
    rw [Int64.toInt_add, e, k.1, q_bmod (by omega) (by omega)]
theorem q_mulS {x y : Int64} {a : Int} (ha : 0 ≤ a) (h0 : 0 ≤ x.toInt) (h1 : x.toInt ≤ 10000000000000000) (hy : y.toInt = a) (a1 : a ≤ 100) : (x * y).toInt = x.toInt * a ∧ 0 ≤ x.toInt * a := by
  have u1 : x.toInt * a ≤ 10000000000000000 * 100 := Int.mul_le_mul h1 a1 ha (by omega)
  have u0 : 0 ≤ x.toInt * a := Int.mul_nonneg h0 ha
  rw [Int64.toInt_mul, hy, q_bmod (by omega) (by omega)]
  exact ⟨rfl, u0⟩
/-- n geese: sixteen numbers, none below 0, together 100 ^ n -/
def NNV (V : Nat → Int64) (n : Nat) : Prop := (∀ k : Nat, k < 16 → 0 ≤ (V k).toInt) ∧ smZ 16 (fun k => (V k).toInt) = 100 ^ n
theorem gvM_Z {V : Nat → Int64} {f10 b c10 r : Int64} {H T t k : Nat} {bz rz v : Int} (b0 : 0 ≤ bz ∧ bz ≤ 10) (r0 : 0 ≤ rz ∧ rz ≤ 10) (ef : f10.toInt = 10 - bz) (eb : b.toInt = bz) (ec : c10.toInt = 10 - rz) (er : r.toInt = rz) (hv : (V k).toInt = v) (v0 : 0 ≤ v) (v1 : v ≤ 100000000000000) : (gvM V f10 b c10 r H T t k).toInt = ((if prm (prm k ||| 4 * T) = t then v * (10 - bz) * 10 else 0) + (if k = t then v * bz * (10 - rz) else 0)) + (if prm (prm k ||| H) = t then v * bz * rz else 0) ∧ 0 ≤ (if prm (prm k ||| 4 * T) = t then v * (10 - bz) * 10 else (0 : Int)) ∧ 0 ≤ (if k = t then v * bz * (10 - rz) else (0 : Int)) ∧ 0 ≤ (if prm (prm k ||| H) = t then v * bz * rz else (0 : Int)) := by
  have y10 : (10 : Int64).toInt = 10 := rfl
  have y0 : (0 : Int64).toInt = 0 := rfl
  have a1 := q_mulS (x := V k) (y := f10) (a := 10 - bz) (by omega) (by omega) (by omega) ef (by omega)
  have a2 := q_mulS (x := V k) (y := b) (a := bz) (by omega) (by omega) (by omega) eb (by omega)
  rw [hv] at a1 a2
  have m1 : v * (10 - bz) ≤ 100000000000000 * 10 := Int.mul_le_mul v1 (by omega) (by omega) (by omega)
  have m2 : v * bz ≤ 100000000000000 * 10 := Int.mul_le_mul v1 (by omega) (by omega) (by omega)
  have a3 := q_mulS (x := V k * f10) (y := 10) (a := 10) (by omega) (by rw [a1.1]; exact a1.2) (by rw [a1.1]; omega) y10 (by omega)
  have a4 := q_mulS (x := V k * b) (y := c10) (a := 10 - rz) (by omega) (by rw [a2.1]; exact a2.2) (by rw [a2.1]; omega) ec (by omega)
  have a5 := q_mulS (x := V k * b) (y := r) (a := rz) (by omega) (by rw [a2.1]; exact a2.2) (by rw [a2.1]; omega) er (by omega)
  rw [a1.1] at a3
  rw [a2.1] at a4 a5
  have n3 : v * (10 - bz) * 10 ≤ 100000000000000 * 10 * 10 := Int.mul_le_mul m1 (by omega) (by omega) (by omega)
  have n4 : v * bz * (10 - rz) ≤ 100000000000000 * 10 * 10 := Int.mul_le_mul m2 (by omega) (by omega) (by omega)
  have n5 : v * bz * rz ≤ 100000000000000 * 10 * 10 := Int.mul_le_mul m2 (by omega) (by omega) (by omega)
  have b1 : (if prm (prm k ||| 4 * T) = t then V k * f10 * 10 else (0 : Int64)).toInt = (if prm (prm k ||| 4 * T) = t then v * (10 - bz) * 10 else 0) ∧ 0 ≤ (if prm (prm k ||| 4 * T) = t then v * (10 - bz) * 10 else (0 : Int)) ∧ (if prm (prm k ||| 4 * T) = t then v * (10 - bz) * 10 else (0 : Int)) ≤ 100000000000000 * 10 * 10 := by
    by_cases c : prm (prm k ||| 4 * T) = t
    · rw [if_pos c, if_pos c]; exact ⟨a3.1, a3.2, n3⟩
    · rw [if_neg c, if_neg c]; exact ⟨y0, by omega, by omega⟩
  have b2 : (if k = t then V k * b * c10 else (0 : Int64)).toInt = (if k = t then v * bz * (10 - rz) else 0) ∧ 0 ≤ (if k = t then v * bz * (10 - rz) else (0 : Int)) ∧ (if k = t then v * bz * (10 - rz) else (0 : Int)) ≤ 100000000000000 * 10 * 10 := by
    by_cases c : k = t
    · rw [if_pos c, if_pos c]; exact ⟨a4.1, a4.2, n4⟩
    · rw [if_neg c, if_neg c]; exact ⟨y0, by omega, by omega⟩
  have b3' : (if prm (prm k ||| H) = t then V k * b * r else (0 : Int64)).toInt = (if prm (prm k ||| H) = t then v * bz * rz else 0) ∧ 0 ≤ (if prm (prm k ||| H) = t then v * bz * rz else (0 : Int)) ∧ (if prm (prm k ||| H) = t then v * bz * rz else (0 : Int)) ≤ 100000000000000 * 10 * 10 := by
    by_cases c : prm (prm k ||| H) = t
    · rw [if_pos c, if_pos c]; exact ⟨a5.1, a5.2, n5⟩
    · rw [if_neg c, if_neg c]; exact ⟨y0, by omega, by omega⟩
  refine ⟨?_, b1.2.1, b2.2.1, b3'.2.1⟩
  unfold gvM
  have s1 : ((if prm (prm k ||| 4 * T) = t then V k * f10 * 10 else (0 : Int64)) + (if k = t then V k * b * c10 else 0)).toInt = (if prm (prm k ||| 4 * T) = t then v * (10 - bz) * 10 else 0) + (if k = t then v * bz * (10 - rz) else 0) := by
    rw [Int64.toInt_add, b1.1, b2.1, q_bmod (by omega) (by omega)]
  rw [Int64.toInt_add, s1, b3'.1, q_bmod (by omega) (by omega)]
/-! one more goose on its way (draft of start 9, not compiled yet) -/
theorem prm_lt : ∀ i : Fin 16, ∀ T : Fin 4, prm (prm i.val ||| 4 * T.val) < 16 ∧ prm (prm i.val ||| T.val) < 16 := by decide
theorem NNV_step {V V' : Nat → Int64} {f10 b c10 r : Int64} {H T n : Nat} {bz rz : Int} (hH : H < 4) (hT : T < 4) (n7 : n ≤ 7) (b0 : 0 ≤ bz ∧ bz ≤ 10) (r0 : 0 ≤ rz ∧ rz ≤ 10) (ef : f10.toInt = 10 - bz) (eb : b.toInt = bz) (ec : c10.toInt = 10 - rz) (er : r.toInt = rz) (nv : NNV V n) (hV : ∀ t : Nat, t < 16 → V' t = smN 16 (gvM V f10 b c10 r H T t)) : NNV V' (n + 1) := by
  obtain ⟨v0, vs⟩ := nv
  have p7 : (100 : Int) ^ n ≤ 100000000000000 := by
    have : n = 0 ∨ n = 1 ∨ n = 2 ∨ n = 3 ∨ n = 4 ∨ n = 5 ∨ n = 6 ∨ n = 7 := by omega
    rcases this with rfl | rfl | rfl | rfl | rfl | rfl | rfl | rfl <;> decide
  have vk := (smZ_nn (f := fun k => (V k).toInt) 16 v0).2
  rw [vs] at vk
  obtain ⟨G, hG⟩ : ∃ G : Nat → Nat → Int, G = fun t k => ((if prm (prm k ||| 4 * T) = t then (V k).toInt * (10 - bz) * 10 else 0) + (if k = t then (V k).toInt * bz * (10 - rz) else 0)) + (if prm (prm k ||| H) = t then (V k).toInt * bz * rz else 0) := ⟨_, rfl⟩
  have gz : ∀ t k : Nat, k < 16 → (gvM V f10 b c10 r H T t k).toInt = G t k ∧ 0 ≤ G t k := by
    intro t k hk
    have z := gvM_Z (V := V) (H := H) (T := T) (t := t) (k := k) b0 r0 ef eb ec er rfl (v0 k hk) (by have := vk k hk; omega)
    rw [hG]
    exact ⟨z.1, by have := z.2; show 0 ≤ (_ + _) + _; omega⟩
  have row : ∀ k : Nat, k < 16 → smZ 16 (fun t => G t k) = (V k).toInt * 100 := by
    intro k hk
    have l := prm_lt ⟨k, hk⟩ ⟨T, hT⟩
    have l2 := prm_lt ⟨k, hk⟩ ⟨H, hH⟩
    rw [hG]
    show smZ 16 (fun t => ((if prm (prm k ||| 4 * T) = t then (V k).toInt * (10 - bz) * 10 else 0) + (if k = t then (V k).toInt * bz * (10 - rz) else 0)) + (if prm (prm k ||| H) = t then (V k).toInt * bz * rz else 0)) = _
    rw [smZ_add, smZ_add, smZ_one, smZ_one, smZ_one, if_pos l.1, if_pos hk, if_pos l2.2, Int.mul_sub, Int.mul_sub]
    generalize (V k).toInt * bz * rz = q
    generalize (V k).toInt * bz = p
    omega
  have tot : smZ 16 (fun t => smZ 16 (fun k => G t k)) = 100 ^ (n + 1) := by
    rw [smZ_swap, smZ_congr 16 row, smZ_mul, vs, Int.pow_succ]
  have nnt : ∀ t : Nat, t < 16 → 0 ≤ smZ 16 (fun k => G t k) := fun t _ => (smZ_nn 16 (fun k hk => (gz t k hk).2)).1
  have le := (smZ_nn (f := fun t => smZ 16 (fun k => G t k)) 16 nnt).2
  rw [tot, Int.pow_succ] at le
  have val : ∀ t : Nat, t < 16 → (V' t).toInt = smZ 16 (fun k => G t k) := by
    intro t ht
    rw [hV t ht]
    exact smN_Z 16 (fun k hk => gz t k hk) (by have := le t ht; omega)
  refine ⟨fun t ht => by rw [val t ht]; exact nnt t ht, ?_⟩
  rw [smZ_congr 16 val]
  exact tot
/-! how often: a sum over some of the sixteen -/
def selC (who : Int32) (i : Nat) : Bool := if who = 0 then i / 4 == 3 else if who = 1 then i % 4 == 3 else (i / 4 == 3) && !(i % 4 == 3)
theorem qd4 : ∀ i : Fin 16, (nI i.val / 4 = 3 ↔ i.val / 4 = 3) ∧ (nI i.val - nI i.val / 4 * 4 = 3 ↔ i.val % 4 = 3) := by decide +kernel
theorem cp_upper {who : Int32} {h : HS} {W : Nat → Int64} (hW : eJ h 7 2 = W) : ∀ (n : Nat) (acc : Int64) (x : Int32) (z : Int64 × HS), f_X0_upper_5 n h who acc x = some z → 0 ≤ x.toInt → x.toInt ≤ 16 → acc = smN x.toInt.toNat (fun i => if selC who i then W i else 0) → z.1 = smN 16 (fun i => if selC who i then W i else 0) ∧ z.2 = h := by
  have y1 : (1 : Int32).toInt = 1 := rfl
  have y16 : (16 : Int32).toInt = 16 := rfl
  intro n
  induction n with
  | zero => intro acc x z e; cases e
  | succ n ih =>
    intro acc x z e x0 x16 ha
    rw [f_X0_upper_5_s] at e
    by_cases c : (16 : Int32) ≤ x
    · rw [if_pos c] at e
      have d := gi_of_le c
      cases e
      rw [show x.toInt.toNat = 16 by omega] at ha
      exact ⟨ha, rfl⟩
    · rw [if_neg c] at e
      have d := gi_of_nle c
      obtain ⟨i, hi, rfl⟩ := gi_nat (x := x) 16 x0 (by omega)
      have xi : (nI i).toInt = (i : Int) := nI_toInt (by omega)
      have a3 := fb_addI (x := nI i) (y := 1) (by omega) (by omega)
      have p3 : (nI i).toNatClampNeg = i := by show (nI i).toInt.toNat = i; omega
      have q := qd4 ⟨i, hi⟩
      have qa : nI i / 4 = 3 ↔ i / 4 = 3 := q.1
      have qb : nI i - nI i / 4 * 4 = 3 ↔ i % 4 = 3 := q.2
      rw [show (nI i).toInt.toNat = i by omega] at ha
      have no : selC who i = false → f_X0_upper_5 n h who acc (nI i + 1) = some z → z.1 = smN 16 (fun i => if selC who i then W i else 0) ∧ z.2 = h := by
        intro k e9
        refine ih acc (nI i + 1) z e9 (by omega) (by omega) ?_
        rw [show (nI i + 1).toInt.toNat = i + 1 by omega]
        show acc = smN i _ + (if selC who i then W i else 0)
        rw [k, ha]
        simp
      have yes : selC who i = true → (if 0 ≤ (nI i).toInt ∧ (nI i).toInt < 16 then f_X0_upper_5 n h who (acc + eJ h 7 2 i) (nI i + 1) else none) = some z → z.1 = smN 16 (fun i => if selC who i then W i else 0) ∧ z.2 = h := by
        intro k e9
        obtain ⟨-, e9⟩ := ob_if e9
        refine ih _ (nI i + 1) z e9 (by omega) (by omega) ?_
        rw [show (nI i + 1).toInt.toNat = i + 1 by omega]
        show acc + eJ h 7 2 i = smN i _ + (if selC who i then W i else 0)
        rw [k, ha, hW]
        simp
      unfold f_X0_upper_28 f_X0_upper_43 f_X0_upper_80 f_X0_upper_90 at e
      rw [p3] at e
      unfold selC at no yes
      by_cases c1 : i / 4 = 3
      · rw [if_pos (qa.mpr c1)] at e
        by_cases c2 : i % 4 = 3
        · rw [if_pos (qb.mpr c2)] at e
          by_cases w0 : who = 0
          · rw [if_pos w0, if_neg (by decide)] at e
            exact yes (by rw [if_pos w0]; simp [c1]) e
          · rw [if_neg w0] at e
            by_cases w1 : who = 1
            · rw [if_pos w1, if_neg (by decide)] at e
              exact yes (by rw [if_neg w0, if_pos w1]; simp [c2]) e
            · rw [if_neg w1, if_neg (by decide), if_neg (by decide)] at e
              exact no (by rw [if_neg w0, if_neg w1]; simp [c1, c2]) e
        · rw [if_neg (fun k => c2 (qb.mp k))] at e
          by_cases w0 : who = 0
          · rw [if_pos w0, if_neg (by decide)] at e
            exact yes (by rw [if_pos w0]; simp [c1]) e
          · rw [if_neg w0] at e
            by_cases w1 : who = 1
            · rw [if_pos w1, if_pos rfl] at e
              exact no (by rw [if_neg w0, if_pos w1]; simp [c2]) e
            · rw [if_neg w1, if_neg (by decide), if_pos rfl] at e
              exact yes (by rw [if_neg w0, if_neg w1]; simp [c1, c2]) e
      · rw [if_neg (fun k => c1 (qa.mp k))] at e
        by_cases c2 : i % 4 = 3
        · rw [if_pos (qb.mpr c2)] at e
          by_cases w0 : who = 0
          · rw [if_pos w0, if_pos rfl] at e
            exact no (by rw [if_pos w0]; simp [c1]) e
          · rw [if_neg w0] at e
            by_cases w1 : who = 1
            · rw [if_pos w1, if_neg (by decide)] at e
              exact yes (by rw [if_neg w0, if_pos w1]; simp [c2]) e
            · rw [if_neg w1, if_pos rfl] at e
              exact no (by rw [if_neg w0, if_neg w1]; simp [c1]) e
        · rw [if_neg (fun k => c2 (qb.mp k))] at e
          by_cases w0 : who = 0
          · rw [if_pos w0, if_pos rfl] at e
            exact no (by rw [if_pos w0]; simp [c1]) e
          · rw [if_neg w0] at e
            by_cases w1 : who = 1
            · rw [if_pos w1, if_pos rfl] at e
              exact no (by rw [if_neg w0, if_pos w1]; simp [c2]) e
            · rw [if_neg w1, if_pos rfl] at e
              exact no (by rw [if_neg w0, if_neg w1]; simp [c1]) e
