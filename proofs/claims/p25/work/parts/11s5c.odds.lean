/-! the reference's sums; how it begins (draft of start 9, not compiled yet) -/
def selM (who : Int32) (k : Nat) : Bool := if who = 0 then k % 4 == 3 else if who = 1 then k / 4 == 3 else (k % 4 == 3) && !(k / 4 == 3)
theorem sel_prm (who : Int32) : ∀ i : Fin 16, selM who (prm i.val) = selC who i.val := by
  unfold selM selC
  by_cases w0 : who = 0
  · have k : ∀ i : Fin 16, (prm i.val % 4 == 3) = (i.val / 4 == 3) := by decide
    intro i
    rw [if_pos w0, if_pos w0]
    exact k i
  · intro i
    rw [if_neg w0, if_neg w0]
    by_cases w1 : who = 1
    · rw [if_pos w1, if_pos w1]
      exact (by decide : ∀ i : Fin 16, (prm i.val / 4 == 3) = (i.val % 4 == 3)) i
    · rw [if_neg w1, if_neg w1]
      exact (by decide : ∀ i : Fin 16, ((prm i.val % 4 == 3) && !(prm i.val / 4 == 3)) = ((i.val / 4 == 3) && !(i.val % 4 == 3))) i
theorem sel_same {who : Int32} {W V : Nat → Int64} (wv : ∀ i : Nat, i < 16 → W i = V (prm i)) : smN 16 (fun i => if selC who i then W i else 0) = smN 16 (fun k => if selM who k then V k else 0) := by
  rw [smN_prm (fun k => if selM who k then V k else 0)]
  refine smN_congr 16 (fun i hi => ?_)
  show (if selC who i then W i else 0) = if selM who (prm i) then V (prm i) else 0
  have s : selM who (prm i) = selC who i := sel_prm who ⟨i, hi⟩
  rw [s, wv i hi]
theorem mp_many {who : Int32} {h : HS} {W : Nat → Int64} (hW : eJ h 0 41 = W) : ∀ (n : Nat) (acc : Int64) (x : Int32) (z : Int64 × HS), f_X9_manyOf_5 n h who acc x = some z → 0 ≤ x.toInt → x.toInt ≤ 16 → acc = smN x.toInt.toNat (fun i => if selM who i then W i else 0) → z.1 = smN 16 (fun i => if selM who i then W i else 0) ∧ z.2 = h := by
  have y1 : (1 : Int32).toInt = 1 := rfl
  have y16 : (16 : Int32).toInt = 16 := rfl
  intro n
  induction n with
  | zero => intro acc x z e; cases e
  | succ n ih =>
    intro acc x z e x0 x16 ha
    rw [f_X9_manyOf_5_s] at e
    by_cases c : (16 : Int32) ≤ x
    · rw [if_pos c] at e
      have d := gi_of_le c
      cases e
      rw [show x.toInt.toNat = 16 by omega] at ha
      exact ⟨ha, rfl⟩
    · rw [if_neg c] at e
      have d := gi_of_nle c
      obtain ⟨i, hi, rfl⟩ := gi_nat (x := x) 16 x0 (by omega)
      have xi : (nI i).toInt = (i : Int) := nI_toInt (by omega)
      have a3 := fb_addI (x := nI i) (y := 1) (by omega) (by omega)
      have p3 : (nI i).toNatClampNeg = i := by show (nI i).toInt.toNat = i; omega
      have q := qd4 ⟨i, hi⟩
      have qa : nI i / 4 = 3 ↔ i / 4 = 3 := q.1
      have qb : nI i - nI i / 4 * 4 = 3 ↔ i % 4 = 3 := q.2
      rw [show (nI i).toInt.toNat = i by omega] at ha
      have no : selM who i = false → f_X9_manyOf_5 n h who (acc + 0) (nI i + 1) = some z → z.1 = smN 16 (fun i => if selM who i then W i else 0) ∧ z.2 = h := by
        intro k e9
        rw [Int64.add_zero] at e9
        refine ih acc (nI i + 1) z e9 (by omega) (by omega) ?_
        rw [show (nI i + 1).toInt.toNat = i + 1 by omega]
        show acc = smN i _ + (if selM who i then W i else 0)
        rw [k, ha]
        simp
      have yes : selM who i = true → (if 0 ≤ (nI i).toInt ∧ (nI i).toInt < 16 then f_X9_manyOf_5 n h who (acc + eJ h 0 41 i) (nI i + 1) else none) = some z → z.1 = smN 16 (fun i => if selM who i then W i else 0) ∧ z.2 = h := by
        intro k e9
        obtain ⟨-, e9⟩ := ob_if e9
        refine ih _ (nI i + 1) z e9 (by omega) (by omega) ?_
        rw [show (nI i + 1).toInt.toNat = i + 1 by omega]
        show acc + eJ h 0 41 i = smN i _ + (if selM who i then W i else 0)
        rw [k, ha, hW]
        simp
      unfold f_X9_manyOf_25 f_X9_manyOf_40 f_X9_manyOf_78 f_X9_manyOf_88 f_X9_manyOf_89 at e
      rw [p3] at e
      unfold selM at no yes
      by_cases c1 : i % 4 = 3
      · rw [if_pos (qb.mpr c1)] at e
        by_cases c2 : i / 4 = 3
        · rw [if_pos (qa.mpr c2)] at e
          by_cases w0 : who = 0
          · rw [if_pos w0, if_neg (by decide)] at e
            exact yes (by rw [if_pos w0]; simp [c1]) e
          · rw [if_neg w0] at e
            by_cases w1 : who = 1
            · rw [if_pos w1, if_neg (by decide)] at e
              exact yes (by rw [if_neg w0, if_pos w1]; simp [c2]) e
            · rw [if_neg w1, if_neg (by decide), if_neg (by decide)] at e
              exact no (by rw [if_neg w0, if_neg w1]; simp [c1, c2]) e
        · rw [if_neg (fun k => c2 (qa.mp k))] at e
          by_cases w0 : who = 0
          · rw [if_pos w0, if_neg (by decide)] at e
            exact yes (by rw [if_pos w0]; simp [c1]) e
          · rw [if_neg w0] at e
            by_cases w1 : who = 1
            · rw [if_pos w1, if_pos rfl] at e
              exact no (by rw [if_neg w0, if_pos w1]; simp [c2]) e
            · rw [if_neg w1, if_neg (by decide), if_pos rfl] at e
              exact yes (by rw [if_neg w0, if_neg w1]; simp [c1, c2]) e
      · rw [if_neg (fun k => c1 (qb.mp k))] at e
        by_cases c2 : i / 4 = 3
        · rw [if_pos (qa.mpr c2)] at e
          by_cases w0 : who = 0
          · rw [if_pos w0, if_pos rfl] at e
            exact no (by rw [if_pos w0]; simp [c1]) e
          · rw [if_neg w0] at e
            by_cases w1 : who = 1
            · rw [if_pos w1, if_neg (by decide)] at e
              exact yes (by rw [if_neg w0, if_pos w1]; simp [c2]) e
            · rw [if_neg w1, if_pos rfl] at e
              exact no (by rw [if_neg w0, if_neg w1]; simp [c1]) e
        · rw [if_neg (fun k => c2 (qa.mp k))] at e
          by_cases w0 : who = 0
          · rw [if_pos w0, if_pos rfl] at e
            exact no (by rw [if_pos w0]; simp [c1]) e
          · rw [if_neg w0] at e
            by_cases w1 : who = 1
            · rw [if_pos w1, if_pos rfl] at e
              exact no (by rw [if_neg w0, if_pos w1]; simp [c2]) e
            · rw [if_neg w1, if_pos rfl] at e
              exact no (by rw [if_neg w0, if_neg w1]; simp [c1]) e
theorem cp_begin {f e : Int32} {F E : Nat} (hf : f.toInt = (F : Int)) (he : e.toInt = (E : Int)) (F4 : F < 4) (E4 : E < 4) {h' : HS} : ∀ (n : Nat) (h : HS) (x : Int32), f_X0_begin_12 n h f e x = some h' → 0 ≤ x.toInt → x.toInt ≤ 16 → (∀ j : Nat, (j : Int) < x.toInt → eJ h 7 2 j = if j = 4 * F + E then 1 else 0) → (∀ j : Nat, j < 16 → eJ h' 7 2 j = if j = 4 * F + E then 1 else 0) ∧ Fr [(3, 7, 2)] h h' := by
  have y1 : (1 : Int32).toInt = 1 := rfl
  have y16 : (16 : Int32).toInt = 16 := rfl
  have m1 : (f * 4).toInt = f.toInt * 4 := fb_mulK rfl (by omega) (by omega)
  have m2 := fb_addI (x := f * 4) (y := e) (by omega) (by omega)
  intro n
  induction n with
  | zero => intro h x q; cases q
  | succ n ih =>
    intro h x q x0 x16 hB
    rw [f_X0_begin_12_s] at q
    unfold f_X0_begin_40 at q
    by_cases c : (16 : Int32) ≤ x
    · rw [if_pos c] at q
      have d := gi_of_le c
      cases q
      exact ⟨fun j hj => hB j (by omega), Fr_refl _ _⟩
    · rw [if_neg c] at q
      have d := gi_of_nle c
      have a3 := fb_addI (x := x) (y := 1) (by omega) (by omega)
      have p3 : x.toNatClampNeg = x.toInt.toNat := rfl
      rw [p3] at q
      have go : ∀ v : Int64, v = (if x.toInt.toNat = 4 * F + E then 1 else 0) → (if 0 ≤ x.toInt ∧ x.toInt < 16 then f_X0_begin_12 n (sJ h 7 2 (vp_updL (eJ h 7 2) x.toInt.toNat v)) f e (x + 1) else none) = some h' → (∀ j : Nat, j < 16 → eJ h' 7 2 j = if j = 4 * F + E then 1 else 0) ∧ Fr [(3, 7, 2)] h h' := by
        intro v hv q
        obtain ⟨-, q⟩ := ob_if q
        obtain ⟨k1, k2⟩ := ih _ (x + 1) q (by omega) (by omega) (fun j hj => by
          show vp_updL (eJ h 7 2) x.toInt.toNat v j = _
          unfold vp_updL
          by_cases cj : j = x.toInt.toNat
          · rw [if_pos cj, cj]; exact hv
          · rw [if_neg cj]; exact hB j (by omega))
        exact ⟨k1, Fr_trans (Fr_sJ (by decide) (Fr_refl _ _)) k2⟩
      by_cases cx : x = f * 4 + e
      · rw [if_pos cx] at q
        have dx := gi_of_eq cx
        exact go 1 (by rw [if_pos (by omega)]) q
      · rw [if_neg cx] at q
        have dx := gi_of_ne cx
        exact go 0 (by rw [if_neg (by omega)]) q
theorem mp_starts {f e : Int32} {F E : Nat} (hf : f.toInt = (F : Int)) (he : e.toInt = (E : Int)) (F4 : F < 4) (E4 : E < 4) {h' : HS} : ∀ (n : Nat) (h : HS) (x : Int32), f_X9_startsMany_2 n h f e x = some h' → 0 ≤ x.toInt → x.toInt ≤ 16 → (∀ j : Nat, (j : Int) < x.toInt → eJ h 0 41 j = if j = F + 4 * E then 1 else 0) → (∀ j : Nat, j < 16 → eJ h' 0 41 j = if j = F + 4 * E then 1 else 0) ∧ Fr [(3, 0, 41)] h h' := by
  have y1 : (1 : Int32).toInt = 1 := rfl
  have y16 : (16 : Int32).toInt = 16 := rfl
  have m1 : (4 * e).toInt = 4 * e.toInt := fb_mulJ rfl (by omega) (by omega)
  have m2 := fb_addI (x := f) (y := 4 * e) (by omega) (by omega)
  intro n
  induction n with
  | zero => intro h x q; cases q
  | succ n ih =>
    intro h x q x0 x16 hB
    rw [f_X9_startsMany_2_s] at q
    unfold f_X9_startsMany_27 at q
    by_cases c : (16 : Int32) ≤ x
    · rw [if_pos c] at q
      have d := gi_of_le c
      cases q
      exact ⟨fun j hj => hB j (by omega), Fr_refl _ _⟩
    · rw [if_neg c] at q
      have d := gi_of_nle c
      have a3 := fb_addI (x := x) (y := 1) (by omega) (by omega)
      have p3 : x.toNatClampNeg = x.toInt.toNat := rfl
      rw [p3] at q
      have go : ∀ v : Int64, v = (if x.toInt.toNat = F + 4 * E then 1 else 0) → (if 0 ≤ x.toInt ∧ x.toInt < 16 then f_X9_startsMany_2 n (sJ h 0 41 (vp_updL (eJ h 0 41) x.toInt.toNat v)) f e (x + 1) else none) = some h' → (∀ j : Nat, j < 16 → eJ h' 0 41 j = if j = F + 4 * E then 1 else 0) ∧ Fr [(3, 0, 41)] h h' := by
        intro v hv q
        obtain ⟨-, q⟩ := ob_if q
        obtain ⟨k1, k2⟩ := ih _ (x + 1) q (by omega) (by omega) (fun j hj => by
          show vp_updL (eJ h 0 41) x.toInt.toNat v j = _
          unfold vp_updL
          by_cases cj : j = x.toInt.toNat
          · rw [if_pos cj, cj]; exact hv
          · rw [if_neg cj]; exact hB j (by omega))
        exact ⟨k1, Fr_trans (Fr_sJ (by decide) (Fr_refl _ _)) k2⟩
      by_cases cx : x = f + 4 * e
      · rw [if_pos cx] at q
        have dx := gi_of_eq cx
        exact go 1 (by rw [if_pos (by omega)]) q
      · rw [if_neg cx] at q
        have dx := gi_of_ne cx
        exact go 0 (by rw [if_neg (by omega)]) q
/-! the common divisor of both (draft of start 9, not compiled yet) -/
theorem q_rem {x y : Int64} (h0 : 0 ≤ x.toInt) (h1 : 0 < y.toInt) : 0 ≤ (x - x / y * y).toInt ∧ (x - x / y * y).toInt < y.toInt ∧ ((x - x / y * y).toInt + y.toInt ≤ x.toInt ∨ x.toInt < y.toInt) := by
  have rx := l_rng x
  have d : (x / y).toInt = x.toInt / y.toInt := by
    rw [Int64.toInt_div, Int.tdiv_eq_ediv_of_nonneg h0]
    have a := Int.ediv_nonneg h0 (Int.le_of_lt h1)
    have b := Int.ediv_le_self y.toInt h0
    exact q_bmod (by omega) (by omega)
  have m1 := Int.mul_ediv_self_le (x := x.toInt) (k := y.toInt) (by omega)
  have m2 := Int.lt_mul_ediv_self_add (x := x.toInt) (k := y.toInt) h1
  have a := Int.ediv_nonneg h0 (Int.le_of_lt h1)
  have nn : 0 ≤ y.toInt * (x.toInt / y.toInt) := Int.mul_nonneg (by omega) a
  have e1 : (x / y * y).toInt = y.toInt * (x.toInt / y.toInt) := by
    rw [Int64.toInt_mul, d, Int.mul_comm]
    exact q_bmod (by omega) (by omega)
  have e2 : (x - x / y * y).toInt = x.toInt - y.toInt * (x.toInt / y.toInt) := by
    rw [Int64.toInt_sub, e1]
    exact q_bmod (by omega) (by omega)
  rw [e2]
  refine ⟨by omega, by omega, ?_⟩
  by_cases c : x.toInt < y.toInt
  · exact Or.inr c
  · left
    have q1 : 1 ≤ x.toInt / y.toInt := by
      rw [Int.le_ediv_iff_mul_le h1]
      omega
    have q2 : y.toInt * 1 ≤ y.toInt * (x.toInt / y.toInt) := Int.mul_le_mul_of_nonneg_left q1 (by omega)
    omega
theorem gcd_stop {g : HS} {low : Int32} {al so x4 x6 : Int64} {x8 : Int32} {n m : Nat} {c : Int64} {w : Int64 × HS} (e1 : f_X8_commonDivisor_9 n x4 x6 x8 = some c) (e2 : f_X9_odds_170 m g low al so x4 x6 = some w) (h4 : 0 < x4.toInt) (h6 : x6 = 0) : (low = 0 → w.1 = so / c) ∧ (¬ low = 0 → w.1 = al / c) := by
  have y0 : (0 : Int64).toInt = 0 := rfl
  cases n with
  | zero => cases e1
  | succ n =>
    cases m with
    | zero => cases e2
    | succ m =>
      rw [f_X8_commonDivisor_9_s] at e1
      rw [f_X9_odds_170_s] at e2
      have z : lg_cmp x6 0 = 0 := (lg_cmp_eq _ _).mpr h6
      have n4 : ¬ lg_cmp x4 0 ≤ 0 := fun k => by have := q_le k; omega
      have cx : c = x4 := by
        unfold f_X8_commonDivisor_45 f_X8_commonDivisor_58 at e1
        rw [if_neg n4] at e1
        by_cases k : (200 : Int32) ≤ x8
        · rw [if_pos k] at e1; exact (Option.some.inj e1).symm
        · rw [if_neg k, if_pos z] at e1; exact (Option.some.inj e1).symm
      rw [if_pos z] at e2
      unfold f_X9_odds_212 at e2
      rw [cx]
      by_cases l : low = 0
      · rw [if_pos l] at e2
        obtain ⟨-, e2⟩ := ob_if e2
        cases e2
        exact ⟨fun _ => rfl, fun k => absurd l k⟩
      · rw [if_neg l] at e2
        obtain ⟨-, e2⟩ := ob_if e2
        cases e2
        exact ⟨fun k => absurd k l, fun _ => rfl⟩
theorem gcd_step {g : HS} {low : Int32} {al so x4 x6 : Int64} {x8 : Int32} {n m : Nat} {c : Int64} {w : Int64 × HS} (e1 : f_X8_commonDivisor_9 n x4 x6 x8 = some c) (e2 : f_X9_odds_170 m g low al so x4 x6 = some w) (h8 : x8.toInt < 200) (h6 : ¬ x6 = 0) : ∃ n' m' : Nat, f_X8_commonDivisor_9 n' x6 (x4 - x4 / x6 * x6) (x8 + 1) = some c ∧ f_X9_odds_170 m' g low al so x6 (x4 - x4 / x6 * x6) = some w := by
  have y200 : (200 : Int32).toInt = 200 := rfl
  cases n with
  | zero => cases e1
  | succ n =>
    cases m with
    | zero => cases e2
    | succ m =>
      rw [f_X8_commonDivisor_9_s] at e1
      rw [f_X9_odds_170_s] at e2
      have z : ¬ lg_cmp x6 0 = 0 := fun k => h6 ((lg_cmp_eq _ _).mp k)
      rw [if_neg (gi_nle (by omega)), if_neg z] at e1
      rw [if_neg z] at e2
      obtain ⟨-, e1⟩ := ob_if e1
      obtain ⟨-, e2⟩ := ob_if e2
      exact ⟨n, m, e1, e2⟩
theorem q_zero {x : Int64} (h : x.toInt = 0) : x = 0 := Int64.toInt_inj.mp (h.trans rfl)
theorem gcd_both {g : HS} {low : Int32} {al so : Int64} {c : Int64} {w : Int64 × HS} : ∀ (k n m : Nat) (x4 x6 : Int64) (x8 : Int32), f_X8_commonDivisor_9 n x4 x6 x8 = some c → f_X9_odds_170 m g low al so x4 x6 = some w → 0 < x4.toInt → 0 ≤ x6.toInt → x6.toInt < 2 ^ k → 0 ≤ x8.toInt → x8.toInt + 2 * (k : Int) < 200 → (low = 0 → w.1 = so / c) ∧ (¬ low = 0 → w.1 = al / c) := by
  have y1 : (1 : Int32).toInt = 1 := rfl
  intro k
  induction k with
  | zero =>
    intro n m x4 x6 x8 e1 e2 h4 h6 hk h8 hb
    have hk : x6.toInt < 1 := hk
    exact gcd_stop e1 e2 h4 (q_zero (by omega))
  | succ k ih =>
    intro n m x4 x6 x8 e1 e2 h4 h6 hk h8 hb
    by_cases c6 : x6.toInt = 0
    · exact gcd_stop e1 e2 h4 (q_zero c6)
    · obtain ⟨n1, m1, a1, a2⟩ := gcd_step e1 e2 (by omega) (fun q => c6 (by rw [q]; rfl))
      obtain ⟨r1, r2, -⟩ := q_rem (x := x4) (y := x6) (by omega) (by omega)
      have p8 := fb_addI (x := x8) (y := 1) (by omega) (by omega)
      by_cases c7 : (x4 - x4 / x6 * x6).toInt = 0
      · exact gcd_stop a1 a2 (by omega) (q_zero c7)
      · obtain ⟨n2, m2, b1, b2⟩ := gcd_step a1 a2 (by omega) (fun q => c7 (by rw [q]; rfl))
        obtain ⟨s1, s2, s3⟩ := q_rem (x := x6) (y := x4 - x4 / x6 * x6) (by omega) (by omega)
        have p9 := fb_addI (x := x8 + 1) (y := 1) (by omega) (by omega)
        have kk : x6.toInt < 2 ^ k * 2 := by rw [← Int.pow_succ]; exact hk
        exact ih n2 m2 _ _ (x8 + 1 + 1) b1 b2 (by omega) s1 (by omega) (by omega) (by omega)
/-! one goose on her way is weighed by both (draft of start 9, not compiled yet) -/
theorem mkt_rng {h g : HS} {p lw : Int32} {q m : Nat} {w : Int32 × HS} (s : STD h g) (hl : lw = 0 ∨ lw = 1) (hp : p.toInt = (q : Int)) (hq : (q : Int) < (eA g 0 0 1).toInt) (hm : (gc (eA g 0 0) 30 q 5).toInt = (m : Int)) (m0 : (m : Int) < (eA g 0 0 0).toInt) (e2 : f_X9_marketOf g lw p = some w) : 0 ≤ w.1.toInt ∧ w.1.toInt ≤ 10 := by
  have y10 : (10 : Int32).toInt = 10 := rfl
  have y1 : (1 : Int32).toInt = 1 := rfl
  have y2 : (2 : Int32).toInt = 2 := rfl
  obtain ⟨n1, n0, n4⟩ := std_n s
  have mr := s.2.1.2.1 m m0
  unfold f_X9_marketOf at e2
  obtain ⟨r1, g1, a1, e2⟩ := ob2_some e2
  obtain ⟨rfl, rfl⟩ := pr_inj (mp_ofGoose (q := q) (k := 2) a1 hp rfl (by omega) (by decide))
  obtain ⟨r2, g2, a2, e2⟩ := ob2_some e2
  obtain ⟨rfl, rfl⟩ := pr_inj (mp_ofGoose (q := q) (k := 3) a2 hp rfl (by omega) (by decide))
  obtain ⟨r3, g3, a3, e2⟩ := ob2_some e2
  obtain ⟨rfl, rfl⟩ := pr_inj (mp_ofGoose (q := q) (k := 5) a3 hp rfl (by omega) (by decide))
  obtain ⟨r4, g4, a4, e2⟩ := ob2_some e2
  obtain ⟨rfl, rfl⟩ := pr_inj (mp_ofGoose (q := q) (k := 6) a4 hp rfl (by omega) (by decide))
  obtain ⟨r5, g5, a5, e2⟩ := ob2_some e2
  cases e2
  show 0 ≤ r5.toInt ∧ r5.toInt ≤ 10
  have m3 : (3 * gc (eA g 0 0) 30 q 5).toInt = 3 * (gc (eA g 0 0) 30 q 5).toInt := fb_mulJ rfl (by omega) (by omega)
  have m4 := fb_addI (x := 10) (y := 3 * gc (eA g 0 0) 30 q 5) (by omega) (by omega)
  have m5 := fb_addI (x := 10 + 3 * gc (eA g 0 0) 30 q 5) (y := 1) (by omega) (by omega)
  have m6 := fb_addI (x := 10 + 3 * gc (eA g 0 0) 30 q 5) (y := 2) (by omega) (by omega)
  have i1 : (10 + 3 * gc (eA g 0 0) 30 q 5 + 1).toNatClampNeg = 10 + (3 * m + 1) := by show (10 + 3 * gc (eA g 0 0) 30 q 5 + 1).toInt.toNat = _; omega
  have i2 : (10 + 3 * gc (eA g 0 0) 30 q 5 + 2).toNatClampNeg = 10 + (3 * m + 2) := by show (10 + 3 * gc (eA g 0 0) 30 q 5 + 2).toInt.toNat = _; omega
  unfold f_X9_marketTells f_X9_marketTells_56 at a5
  obtain ⟨-, a5⟩ := ob_if a5
  obtain ⟨-, a5⟩ := ob_if a5
  rw [i1, i2] at a5
  obtain ⟨r6, g6, a6, a5⟩ := ob2_some a5
  by_cases c : r6 = -1
  · rw [if_pos c] at a5
    by_cases c0 : lw = 0
    · rw [if_pos c0] at a5
      obtain ⟨q1, -⟩ := Prod.mk.inj (Option.some.inj a5)
      rw [← q1]; omega
    · rw [if_neg c0] at a5
      obtain ⟨q1, -⟩ := Prod.mk.inj (Option.some.inj a5)
      rw [← q1]; omega
  · rw [if_neg c] at a5
    obtain ⟨g7, a7, a5⟩ := ob1_some a5
    obtain ⟨r8, g8, a8, a5⟩ := ob2_some a5
    obtain ⟨r9, a9, a5⟩ := ob1_some a5
    obtain ⟨q1, -⟩ := Prod.mk.inj (Option.some.inj a5)
    rw [← q1]
    rcases held_ok a9 with v | v
    · rw [v]
      unfold hldI
      by_cases c1 : r8.toInt < 0
      · rw [if_pos c1]; omega
      · rw [if_neg c1]
        by_cases c2 : (10 : Int32).toInt < r8.toInt
        · rw [if_pos c2]; omega
        · rw [if_neg c2]; omega
    · omega
def CHR (h g : HS) (n : Nat) (al : Int64) : Prop := (eI h 7 0).toInt = (n : Int) ∧ eL h 7 1 = al ∧ (∀ i : Nat, i < 16 → eJ h 7 2 i = eJ g 0 41 (prm i)) ∧ NNV (eJ g 0 41) n ∧ al.toInt = 100 ^ n
theorem w64 {x : Int32} : x.toInt64.toInt = x.toInt := Int32.toInt_toInt64 x
theorem factors {b r : Int32} (b0 : 0 ≤ b.toInt ∧ b.toInt ≤ 10) (r0 : 0 ≤ r.toInt ∧ r.toInt ≤ 10) : (∀ x : Int64, x * (10 - b).toInt64 * 10 = x * ((10 - b) * 10).toInt64) ∧ (∀ x : Int64, x * b.toInt64 * (10 - r).toInt64 = x * (100 - (10 - b) * 10 - b * r).toInt64) ∧ (∀ x : Int64, x * b.toInt64 * r.toInt64 = x * (b * r).toInt64) ∧ (10 - b).toInt64.toInt = 10 - b.toInt ∧ (10 - r).toInt64.toInt = 10 - r.toInt := by
  have y10 : (10 : Int32).toInt = 10 := rfl
  have z10 : (10 : Int64).toInt = 10 := rfl
  have y100 : (100 : Int32).toInt = 100 := rfl
  have s1 := fb_subI (x := 10) (y := b) (by omega) (by omega)
  have s2 := fb_subI (x := 10) (y := r) (by omega) (by omega)
  have m1 : ((10 - b) * 10).toInt = (10 - b).toInt * 10 := fb_mulK rfl (by omega) (by omega)
  have br0 : 0 ≤ b.toInt * r.toInt := Int.mul_nonneg b0.1 r0.1
  have br1 : b.toInt * r.toInt ≤ 10 * 10 := Int.mul_le_mul b0.2 r0.2 r0.1 (by omega)
  have m2 : (b * r).toInt = b.toInt * r.toInt := by rw [Int32.toInt_mul, fb_bmod (by omega) (by omega)]
  have s3 := fb_subI (x := 100) (y := (10 - b) * 10) (by omega) (by omega)
  have s4 := fb_subI (x := 100 - (10 - b) * 10) (y := b * r) (by omega) (by omega)
  have bc : b.toInt * (10 - r.toInt) = b.toInt * 10 - b.toInt * r.toInt := Int.mul_sub _ _ _
  refine ⟨fun x => ?_, fun x => ?_, fun x => ?_, by rw [w64]; omega, by rw [w64]; omega⟩
  · rw [Int64.mul_assoc]
    congr 1
    apply Int64.toInt_inj.mp
    rw [Int64.toInt_mul, w64, w64, z10, q_bmod (by omega) (by omega)]
    omega
  · rw [Int64.mul_assoc]
    congr 1
    apply Int64.toInt_inj.mp
    rw [Int64.toInt_mul, w64, w64, w64, s2, y10, bc, q_bmod (by omega) (by omega)]
    omega
  · rw [Int64.mul_assoc]
    congr 1
    apply Int64.toInt_inj.mp
    rw [Int64.toInt_mul, w64, w64, w64, m2, q_bmod (by omega) (by omega)]
theorem p100 {n : Nat} (n8 : n ≤ 8) : 1 ≤ (100 : Int) ^ n ∧ (100 : Int) ^ n ≤ 10000000000000000 := by
  have : n = 0 ∨ n = 1 ∨ n = 2 ∨ n = 3 ∨ n = 4 ∨ n = 5 ∨ n = 6 ∨ n = 7 ∨ n = 8 := by omega
  rcases this with rfl | rfl | rfl | rfl | rfl | rfl | rfl | rfl | rfl <;> decide
theorem j_weigh {h h' g g15 g16 g17 g19 : HS} {x b r t : Int32} {q n : Nat} {al : Int64} (s : STD h g) (cr : CHR h g n al) (hx : x.toInt = (q : Int)) (hq : (q : Int) < (eA g 0 0 1).toInt) (fa : gc (eA g 0 0) 30 q 4 = 1) (l0 : 0 ≤ (gc (eA g 0 0) 30 q 2).toInt) (n8 : n + 1 ≤ 8) (e1 : f_X0_add h x = some h') (a0 : f_X9_marketOf g 0 x = some (b, g15)) (a1 : f_X9_marketOf g15 1 x = some (r, g16)) (a2 : f_X9_isTrue g16 x = some (t, g17)) (a3 : f_X9_comesMany g17 b r (gc (eA g 0 0) 30 q 3) t = some g19) : STD h' g19 ∧ CHR h' g19 (n + 1) (al * 100) ∧ eA g19 0 0 = eA g 0 0 := by
  have y1 : (1 : Int32).toInt = 1 := rfl
  have y8 : (8 : Int32).toInt = 8 := rfl
  obtain ⟨n1, n0, n4⟩ := std_n s
  obtain ⟨c0, c1, c2, c3, c4⟩ := cr
  have s3 : eI h 1 3 = eA g 0 0 1 := s.1.1.1
  have k15 : Fr S_X9_marketOf g g15 := w_f_X9_marketOf _ _ _ _ a0
  have k16 : Fr S_X9_marketOf g15 g16 := w_f_X9_marketOf _ _ _ _ a1
  have k17 : Fr S_X9_isTrue g16 g17 := w_f_X9_isTrue _ _ _ a2
  have e15 : eA g15 0 0 = eA g 0 0 := k15.2.1 0 0 (by decide)
  have e16 : eA g16 0 0 = eA g 0 0 := (k16.2.1 0 0 (by decide)).trans e15
  have e17 : eA g17 0 0 = eA g 0 0 := (k17.2.1 0 0 (by decide)).trans e16
  have v17 : eJ g17 0 41 = eJ g 0 41 := (k17.2.2.2 0 41 (by decide)).trans ((k16.2.2.2 0 41 (by decide)).trans (k15.2.2.2 0 41 (by decide)))
  have tt := fate_gr s.2.1 hq fa
  obtain ⟨m, hm⟩ : ∃ m : Nat, (gc (eA g 0 0) 30 q 5).toInt = (m : Int) := ⟨(gc (eA g 0 0) 30 q 5).toInt.toNat, by omega⟩
  have m0 : (m : Int) < (eA g 0 0 0).toInt := by omega
  have gr := s.2.1.2.2.1.2.2 q hq
  have pr : 0 ≤ (gc (eA g 0 0) 30 q 3).toInt ∧ (gc (eA g 0 0) 30 q 3).toInt ≤ 2 := by unfold GR at gr; omega
  -- the class
  have ca := fb_addI (x := eI h 7 0) (y := 1) (by omega) (by omega)
  unfold f_X0_add at e1
  rw [if_pos (gi_le (by omega))] at e1
  obtain ⟨hA, hAe⟩ : ∃ hA : HS, hA = sI h 7 0 (eI h 7 0 + 1) := ⟨_, rfl⟩
  rw [← hAe] at e1
  have fA : Fr [(0, 7, 0)] h hA := by rw [hAe]; exact Fr_sI (by decide) (Fr_refl _ _)
  have sA_ : STD hA g := STD_fr s fA (Fr_refl [] g) (by decide) (by decide) (by decide) (by decide)
  have cA : eI hA 7 0 = eI h 7 0 + 1 := by rw [hAe]; rfl
  have t3 : eI hA 1 3 = eA g 0 0 1 := (fA.1 1 3 (by decide)).trans s3
  obtain ⟨r2, h2, d2, e1⟩ := ob2_some e1
  obtain ⟨rfl, rfl⟩ := pr_inj (cp_ofGoose (q := q) (k := 3) d2 hx rfl (by rw [t3]; exact hq) (by rw [t3]; exact n1.2) (by decide))
  rw [sr_g sA_.1 hq (show 3 < 9 by decide)] at e1
  obtain ⟨r3, d3, e1⟩ := ob1_some e1
  have hb := hv_HB pr d3
  have i4 : IN4 (HVB (eA g 0 0) q) := by
    have y0 : (0 : Int32).toInt = 0 := rfl
    have y3 : (3 : Int32).toInt = 3 := rfl
    unfold HVB IN4
    by_cases c : gc (eA g 0 0) 30 q 3 = 0
    · rw [if_pos c]; omega
    · rw [if_neg c]; omega
  obtain ⟨H, hH, eHv⟩ := gi_nat (x := HVB (eA g 0 0) q) 4 i4.1 i4.2
  have r3H : r3 = nI H := hb.trans eHv
  have eH : f_X9_halves (gc (eA g 0 0) 30 q 3) = some (nI H) := by
    rw [← eHv]
    unfold f_X9_halves f_X9_halves_9 HVB
    by_cases c : gc (eA g 0 0) 30 q 3 = 0
    · rw [if_pos c, if_pos c]
    · rw [if_neg c, if_neg c]
  obtain ⟨r4, h4, d4, e1⟩ := ob2_some e1
  have s16 : STD hA g16 := STD_fr (STD_fr sA_ (Fr_refl [] hA) k15 (by decide) (by decide) (by decide) (by decide)) (Fr_refl [] hA) k16 (by decide) (by decide) (by decide) (by decide)
  obtain ⟨j1, j2⟩ := j_isTrue s16 hx (by rw [e16]; exact hq) d4 a2
  have j1 : r4 = t := j1
  have j2 : t = 0 ∨ t = 1 := j2
  have f4 : Fr S_X1_isTrue hA h4 := w_f_X1_isTrue _ _ _ d4
  have s4 : STD h4 g := STD_fr sA_ f4 (Fr_refl [] g) (by decide) (by decide) (by decide) (by decide)
  obtain ⟨T, hT, eT, e1⟩ : ∃ T : Nat, T < 4 ∧ ((t = 0 ∧ T = 0) ∨ (¬ t = 0 ∧ T = H)) ∧ f_X0_add_46 h4 x (nI H) (nI T) = some h' := by
    rw [r3H, j1] at e1
    by_cases c : t = 0
    · rw [if_pos c] at e1
      exact ⟨0, by decide, Or.inl ⟨c, rfl⟩, e1⟩
    · rw [if_neg c] at e1
      exact ⟨H, hH, Or.inr ⟨c, rfl⟩, e1⟩
  unfold f_X0_add_46 at e1
  obtain ⟨h6, d6, e1⟩ := ob1_some e1
  have nt := cp_lookTrav s4 d6 hx hq hm m0
  have f6 : Fr S_X1_lookAtTraveller h4 h6 := w_f_X1_lookAtTraveller _ _ _ d6
  have s6 : STD h6 g := STD_fr s4 f6 (Fr_refl [] g) (by decide) (by decide) (by decide) (by decide)
  obtain ⟨r7, h7, d7, e1⟩ := ob2_some e1
  have jb := j_market s6 (Or.inl rfl) hx hq hm m0 nt d7 a0
  have jb : r7 = b := jb
  have f7 : Fr S_X1_rule h6 h7 := w_f_X1_rule _ _ _ d7
  have s7 : STD h7 g15 := STD_fr s6 f7 k15 (by decide) (by decide) (by decide) (by decide)
  obtain ⟨r8, h8, d8, e1⟩ := ob2_some e1
  have nt7 : NMT (eA h7 6 1) x (eA g15 0 0) q m := by rw [f7.2.1 6 1 (by decide), e15]; exact nt
  have jr := j_market s7 (Or.inr rfl) hx (by rw [e15]; exact hq) (by rw [e15]; exact hm) (by rw [e15]; exact m0) nt7 d8 a1
  have jr : r8 = r := jr
  have f8 : Fr S_X1_rule h7 h8 := w_f_X1_rule _ _ _ d8
  have s8 : STD h8 g17 := STD_fr (STD_fr s7 f8 k16 (by decide) (by decide) (by decide) (by decide)) (Fr_refl [] h8) k17 (by decide) (by decide) (by decide) (by decide)
  have b0 := mkt_rng s (Or.inl rfl) hx hq hm m0 a0
  have s15 : STD h6 g15 := STD_fr s6 (Fr_refl [] h6) k15 (by decide) (by decide) (by decide) (by decide)
  have r0 := mkt_rng s15 (Or.inr rfl) hx (by rw [e15]; exact hq) (by rw [e15]; exact hm) (by rw [e15]; exact m0) a1
  have b0 : 0 ≤ b.toInt ∧ b.toInt ≤ 10 := b0
  have r0 : 0 ≤ r.toInt ∧ r.toInt ≤ 10 := r0
  rw [jb, jr] at e1
  have W8 : eJ h8 7 2 = eJ h 7 2 := by rw [f8.2.2.2 7 2 (by decide), f7.2.2.2 7 2 (by decide), f6.2.2.2 7 2 (by decide), f4.2.2.2 7 2 (by decide), fA.2.2.2 7 2 (by decide)]
  have L8 : eL h8 7 1 = eL h 7 1 := by rw [f8.2.2.1 7 1 (by decide), f7.2.2.1 7 1 (by decide), f6.2.2.1 7 1 (by decide), f4.2.2.1 7 1 (by decide), fA.2.2.1 7 1 (by decide)]
  have C8 : eI h8 7 0 = eI h 7 0 + 1 := by rw [f8.1 7 0 (by decide), f7.1 7 0 (by decide), f6.1 7 0 (by decide), f4.1 7 0 (by decide), cA]
  obtain ⟨w1, w2, w3⟩ := cp_add86 hH hT (W := eJ h 7 2) _ h8 0 e1 (by decide) (by decide) W8 (fun j hj => by have : (0 : Int32).toInt = 0 := rfl; omega)
  unfold f_X9_comesMany at a3
  obtain ⟨v1, v2⟩ := mp_come3 hH hT eH eT (V := eJ g 0 41) _ g17 0 a3 (by decide) (by decide) v17 (fun j hj => by have : (0 : Int32).toInt = 0 := rfl; omega)
  obtain ⟨u1, u2, u3, u4, u5⟩ := factors b0 r0
  refine ⟨STD_fr s8 w3 v2 (by decide) (by decide) (by decide) (by decide), ⟨?_, ?_, fun i hi => ?_, ?_, ?_⟩, (v2.2.1 0 0 (by decide)).trans e17⟩
  · rw [w3.1 7 0 (by decide), C8]; omega
  · rw [w2, L8, c1]
  · have pi : prm i < 16 := (prm_prm ⟨i, hi⟩).2
    rw [w1 i hi, v1 _ pi]
    exact come_same hH hT c2 u1 u2 u3 hi
  · exact NNV_step hH hT (by omega) b0 r0 u4 w64 u5 w64 c3 v1
  · have z100 : (100 : Int64).toInt = 100 := rfl
    have pw := p100 (n := n) (by omega)
    have q1 := q_mulS (x := al) (y := 100) (a := 100) (by omega) (by omega) (by omega) z100 (by omega)
    rw [q1.1, c4, Int.pow_succ]
/-- too many are on their way: the class says so at the end -/
theorem cp_over {l who low : Int32} {z : Int64 × HS} : ∀ (n : Nat) (h g : HS) (x : Int32), f_X8_odds_52 n h l who low x = some z → STD h g → 0 ≤ x.toInt → 8 < (eI h 7 0).toInt → (eI h 7 0).toInt ≤ 9 + x.toInt → z.1 = -1 := by
  have y1 : (1 : Int32).toInt = 1 := rfl
  have y8 : (8 : Int32).toInt = 8 := rfl
  intro n
  induction n with
  | zero => intro h g x e; cases e
  | succ n ih =>
    intro h g x e s hx c8 cx
    obtain ⟨n1, n0, n4⟩ := std_n s
    have s3 : eI h 1 3 = eA g 0 0 1 := s.1.1.1
    rw [f_X8_odds_52_s, s3] at e
    unfold f_X8_odds_109 at e
    by_cases c : eA g 0 0 1 ≤ x
    · rw [if_pos c, if_neg (gi_nle (by omega))] at e
      cases e
      rfl
    · rw [if_neg c] at e
      have d := gi_of_nle c
      have ax := fb_addI (x := x) (y := 1) (by omega) (by omega)
      have xq : x.toInt = ((x.toInt.toNat : Nat) : Int) := by omega
      have qx : ((x.toInt.toNat : Nat) : Int) < (eA g 0 0 1).toInt := by omega
      obtain ⟨r13, h13, a13, e⟩ := ob2_some e
      obtain ⟨rfl, rfl⟩ := pr_inj (cp_ofGoose (q := x.toInt.toNat) (k := 4) a13 xq rfl (by rw [s3]; exact qx) (by rw [s3]; exact n1.2) (by decide))
      by_cases f1 : eA h 1 0 (9 * x.toInt.toNat + 4) = 1
      · rw [if_pos f1] at e
        obtain ⟨r15, h15, a15, e⟩ := ob2_some e
        obtain ⟨rfl, rfl⟩ := pr_inj (cp_ofGoose (q := x.toInt.toNat) (k := 2) a15 xq rfl (by rw [s3]; exact qx) (by rw [s3]; exact n1.2) (by decide))
        by_cases f2 : eA h 1 0 (9 * x.toInt.toNat + 2) = l
        · rw [if_pos f2] at e
          obtain ⟨h17, a17, e⟩ := ob1_some e
          have ca := fb_addI (x := eI h 7 0) (y := 1) (by omega) (by omega)
          unfold f_X0_add at a17
          rw [if_neg (gi_nle (by omega))] at a17
          have hE : h17 = sI h 7 0 (eI h 7 0 + 1) := (Option.some.inj a17).symm
          have f17 : Fr [(0, 7, 0)] h h17 := by rw [hE]; exact Fr_sI (by decide) (Fr_refl _ _)
          have c17 : eI h17 7 0 = eI h 7 0 + 1 := by rw [hE]; rfl
          exact ih h17 g (x + 1) e (STD_fr s f17 (Fr_refl [] g) (by decide) (by decide) (by decide) (by decide)) (by omega) (by rw [c17]; omega) (by rw [c17]; omega)
        · rw [if_neg f2] at e
          exact ih h g (x + 1) e s (by omega) c8 (by omega)
      · rw [if_neg f1] at e
        exact ih h g (x + 1) e s (by omega) c8 (by omega)
theorem j_oddsloop {l who low : Int32} {z w : Int64 × HS} (l0 : 0 ≤ l.toInt) : ∀ (n m : Nat) (h g : HS) (cnt x : Int32) (al : Int64), f_X8_odds_52 n h l who low x = some z → f_X9_odds_51 m g l who low cnt al x = some w → STD h g → 0 ≤ x.toInt → 0 ≤ cnt.toInt → cnt.toInt ≤ 8 → cnt.toInt ≤ x.toInt → CHR h g cnt.toInt.toNat al → z.1 = w.1 := by
  have y1 : (1 : Int32).toInt = 1 := rfl
  have y8 : (8 : Int32).toInt = 8 := rfl
  intro n
  induction n with
  | zero => intro m h g cnt x al e; cases e
  | succ n ih =>
    intro m h g cnt x al e e2 s hx k0 k8 kx cr
    cases m with
    | zero => cases e2
    | succ m =>
      obtain ⟨n1, n0, n4⟩ := std_n s
      have s3 : eI h 1 3 = eA g 0 0 1 := s.1.1.1
      obtain ⟨c0, c1, c2, c3, c4⟩ := id cr
      rw [f_X8_odds_52_s, s3] at e
      rw [f_X9_odds_51_s] at e2
      unfold f_X8_odds_109 at e
      unfold f_X9_odds_149 at e2
      by_cases c : eA g 0 0 1 ≤ x
      · rw [if_pos c] at e e2
        rw [if_pos (gi_le (by omega))] at e
        obtain ⟨r10, h10, a10, e⟩ := ob2_some e
        obtain ⟨r9, g9, b9, e2⟩ := ob2_some e2
        unfold f_X0_upper at a10
        unfold f_X9_manyOf at b9
        obtain ⟨u1, u2⟩ := cp_upper (W := eJ h 7 2) rfl _ _ _ _ a10 (by decide) (by decide) rfl
        obtain ⟨v1, v2⟩ := mp_many (W := eJ g 0 41) rfl _ _ _ _ b9 (by decide) (by decide) rfl
        have u1' : r10 = smN 16 (fun i => if selC who i then eJ h 7 2 i else 0) := u1
        have v1' : r9 = smN 16 (fun i => if selM who i then eJ g 0 41 i else 0) := v1
        have u2 : h = h10 := Eq.symm u2
        have v2 : g = g9 := Eq.symm v2
        subst u2
        subst v2
        have rr : r10 = r9 := by rw [u1', v1']; exact sel_same c2
        subst rr
        obtain ⟨cd, a11, e⟩ := ob1_some e
        rw [c1] at a11 e
        have pw := p100 (n := cnt.toInt.toNat) (by omega)
        have pos : 0 ≤ r10.toInt := by
          have zz : ∀ i : Nat, i < 16 → (if selM who i then eJ g 0 41 i else (0 : Int64)).toInt = (if selM who i then (eJ g 0 41 i).toInt else 0) ∧ 0 ≤ (if selM who i then (eJ g 0 41 i).toInt else (0 : Int)) ∧ (if selM who i then (eJ g 0 41 i).toInt else (0 : Int)) ≤ (eJ g 0 41 i).toInt := by
            intro i hi
            have p := c3.1 i hi
            by_cases k : selM who i = true
            · rw [if_pos k, if_pos k]; exact ⟨rfl, p, Int.le_refl _⟩
            · rw [if_neg k, if_neg k]; exact ⟨rfl, Int.le_refl _, p⟩
          have nn := smZ_nn (f := fun i => if selM who i then (eJ g 0 41 i).toInt else 0) 16 (fun i hi => (zz i hi).2.1)
          have le : smZ 16 (fun i => if selM who i then (eJ g 0 41 i).toInt else 0) ≤ smZ 16 (fun k => (eJ g 0 41 k).toInt) := by
            have mono : ∀ n : Nat, n ≤ 16 → smZ n (fun i => if selM who i then (eJ g 0 41 i).toInt else 0) ≤ smZ n (fun k => (eJ g 0 41 k).toInt) := by
              intro n
              induction n with
              | zero => intro _; exact Int.le_refl _
              | succ n ihn =>
                intro hn
                have a := ihn (by omega)
                have b := (zz n (by omega)).2.2
                show smZ n _ + (if selM who n then (eJ g 0 41 n).toInt else 0) ≤ smZ n _ + (eJ g 0 41 n).toInt
                omega
            exact mono 16 (Nat.le_refl _)
          rw [v1', smN_Z 16 (z := fun i => if selM who i then (eJ g 0 41 i).toInt else 0) (fun i hi => ⟨(zz i hi).1, (zz i hi).2.1⟩) (by rw [c3.2] at le; omega)]
          exact nn.1
        unfold f_X8_commonDivisor at a11
        have rg := l_rng r10
        have G := gcd_both 63 _ _ _ _ _ a11 e2 (by omega) pos (by have p63 : (2 : Int) ^ 63 = 9223372036854775808 := (by decide); omega) (by decide) (by decide)
        unfold f_X8_odds_171 at e
        by_cases lo : low = 0
        · rw [if_pos lo] at e
          obtain ⟨-, e⟩ := ob_if e
          cases e
          exact (G.1 lo).symm
        · rw [if_neg lo] at e
          obtain ⟨-, e⟩ := ob_if e
          cases e
          exact (G.2 lo).symm
      · rw [if_neg c] at e e2
        have d := gi_of_nle c
        have ax := fb_addI (x := x) (y := 1) (by omega) (by omega)
        obtain ⟨q, xq⟩ : ∃ q : Nat, x.toInt = (q : Int) := ⟨x.toInt.toNat, by omega⟩
        have qx : (q : Int) < (eA g 0 0 1).toInt := by omega
        obtain ⟨r13, h13, a13, e⟩ := ob2_some e
        obtain ⟨rfl, rfl⟩ := pr_inj (cp_ofGoose (q := q) (k := 4) a13 xq rfl (by rw [s3]; exact qx) (by rw [s3]; exact n1.2) (by decide))
        rw [sr_g s.1 qx (show 4 < 9 by decide)] at e
        obtain ⟨t10, g10, b10, e2⟩ := ob2_some e2
        obtain ⟨rfl, rfl⟩ := pr_inj (mp_ofGoose (q := q) (k := 2) b10 xq rfl (by omega) (by decide))
        have skip : (gc (eA g 0 0) 30 q 2 = l → gc (eA g 0 0) 30 q 4 = 1 → False) → z.1 = w.1 := by
          intro no
          have q1 : f_X8_odds_52 n h l who low (x + 1) = some z := by
            by_cases f1 : gc (eA g 0 0) 30 q 4 = 1
            · rw [if_pos f1] at e
              obtain ⟨r15, h15, a15, e⟩ := ob2_some e
              obtain ⟨rfl, rfl⟩ := pr_inj (cp_ofGoose (q := q) (k := 2) a15 xq rfl (by rw [s3]; exact qx) (by rw [s3]; exact n1.2) (by decide))
              rw [sr_g s.1 qx (show 2 < 9 by decide), if_neg (fun k => no k f1)] at e
              exact e
            · rw [if_neg f1] at e
              exact e
          have q2 : f_X9_odds_51 m g l who low cnt al (x + 1) = some w := by
            by_cases f2 : gc (eA g 0 0) 30 q 2 = l
            · rw [if_pos f2] at e2
              obtain ⟨t12, g12, b12, e2⟩ := ob2_some e2
              obtain ⟨rfl, rfl⟩ := pr_inj (mp_ofGoose (q := q) (k := 4) b12 xq rfl (by omega) (by decide))
              rw [if_neg (fun k => no f2 k)] at e2
              exact e2
            · rw [if_neg f2] at e2
              exact e2
          exact ih m h g cnt (x + 1) al q1 q2 s (by omega) k0 k8 (by omega) cr
        by_cases f2 : gc (eA g 0 0) 30 q 2 = l
        · by_cases f1 : gc (eA g 0 0) 30 q 4 = 1
          · rw [if_pos f1] at e
            obtain ⟨r15, h15, a15, e⟩ := ob2_some e
            obtain ⟨rfl, rfl⟩ := pr_inj (cp_ofGoose (q := q) (k := 2) a15 xq rfl (by rw [s3]; exact qx) (by rw [s3]; exact n1.2) (by decide))
            rw [sr_g s.1 qx (show 2 < 9 by decide), if_pos f2] at e
            obtain ⟨h17, a17, e⟩ := ob1_some e
            rw [if_pos f2] at e2
            obtain ⟨t12, g12, b12, e2⟩ := ob2_some e2
            obtain ⟨rfl, rfl⟩ := pr_inj (mp_ofGoose (q := q) (k := 4) b12 xq rfl (by omega) (by decide))
            rw [if_pos f1] at e2
            have ac := fb_addI (x := cnt) (y := 1) (by omega) (by omega)
            by_cases c9 : cnt + 1 ≤ 8
            · rw [if_pos c9] at e2
              have d9 := gi_of_le c9
              obtain ⟨b, g15, b15, e2⟩ := ob2_some e2
              obtain ⟨r, g16, b16, e2⟩ := ob2_some e2
              obtain ⟨t, g17, b17, e2⟩ := ob2_some e2
              obtain ⟨t18, g18, b18, e2⟩ := ob2_some e2
              have k15 : Fr S_X9_marketOf g g15 := w_f_X9_marketOf _ _ _ _ b15
              have k16 : Fr S_X9_marketOf g15 g16 := w_f_X9_marketOf _ _ _ _ b16
              have k17 : Fr S_X9_isTrue g16 g17 := w_f_X9_isTrue _ _ _ b17
              have e17 : eA g17 0 0 = eA g 0 0 := (k17.2.1 0 0 (by decide)).trans ((k16.2.1 0 0 (by decide)).trans (k15.2.1 0 0 (by decide)))
              have t18e := mp_ofGoose (q := q) (k := 3) b18 xq rfl (by omega) (by decide)
              rw [e17] at t18e
              obtain ⟨rfl, rfl⟩ := pr_inj t18e
              obtain ⟨g19, b19, e2⟩ := ob1_some e2
              obtain ⟨w1, w2, w3⟩ := j_weigh s cr xq qx f1 (by rw [f2]; exact l0) (by omega) a17 b15 b16 b17 b19
              refine ih m h17 g19 (cnt + 1) (x + 1) (al * 100) e e2 w1 (by omega) (by omega) (by omega) (by omega) ?_
              rw [show (cnt + 1).toInt.toNat = cnt.toInt.toNat + 1 by omega]
              exact w2
            · rw [if_neg c9] at e2
              have d9 := gi_of_nle c9
              cases e2
              have ca := fb_addI (x := eI h 7 0) (y := 1) (by omega) (by omega)
              unfold f_X0_add at a17
              rw [if_neg (gi_nle (by omega))] at a17
              have hE : h17 = sI h 7 0 (eI h 7 0 + 1) := (Option.some.inj a17).symm
              have f17 : Fr [(0, 7, 0)] h h17 := by rw [hE]; exact Fr_sI (by decide) (Fr_refl _ _)
              have c17 : eI h17 7 0 = eI h 7 0 + 1 := by rw [hE]; rfl
              exact cp_over _ h17 g (x + 1) e (STD_fr s f17 (Fr_refl [] g) (by decide) (by decide) (by decide) (by decide)) (by omega) (by rw [c17]; omega) (by rw [c17]; omega)
          · exact skip (fun _ k => f1 k)
        · exact skip (fun k _ => f2 k)
theorem beg_prm : ∀ i : Fin 16, ∀ F : Fin 4, ∀ E : Fin 4, (i.val = 4 * F.val + E.val ↔ prm i.val = F.val + 4 * E.val) ∧ F.val + 4 * E.val < 16 := by decide
theorem had_in4 {h g : HS} (ic : IC h) (im : IM g) (s : STD h g) {h1 : HS} (s1 : STD h1 g) {l en d : Int32} (l0 : 0 ≤ l.toInt) {z : Int32 × HS} (e : f_X8_halvesHad h1 l en d 10 = some z) : IN4 z.1 := by
  unfold f_X8_halvesHad at e
  exact (cp_had ic im s l0 _ _ _ _ _ e s1 (by decide) (ACC_0 (fun p k => by have : (0 : Int32).toInt = 0 := rfl; omega))).1
theorem j_odds {h g : HS} {l who low : Int32} {z w : Int64 × HS} (ic : IC h) (im : IM g) (s : STD h g) (e1 : f_X8_odds h l who low = some z) (e2 : f_X9_odds g l who low = some w) : z.1 = w.1 := by
  have y0 : (0 : Int32).toInt = 0 := rfl
  have y2 : (2 : Int32).toInt = 2 := rfl
  have y999 : (999 : Int32).toInt = 999 := rfl
  have y1L : (1 : Int64).toInt = 1 := rfl
  have y0L : (0 : Int64).toInt = 0 := rfl
  unfold f_X8_odds f_X8_odds_16 at e1
  unfold f_X9_odds f_X9_odds_16 at e2
  obtain ⟨r1, a1, e1⟩ := ob1_some e1
  obtain ⟨t1, b1, e2⟩ := ob1_some e2
  rcases cp_isLetter a1 with ⟨u1, u2⟩ | ⟨u1, u2⟩ <;> rcases mp_isLetterNumber b1 with ⟨v1, v2⟩ | ⟨v1, v2⟩
  · rw [if_pos u1] at e1
    rw [if_pos v1] at e2
    cases e1
    cases e2
    rfl
  · exact absurd v2 u2
  · exact absurd u2 v2
  · rw [if_neg (by rw [u1]; decide)] at e1
    rw [if_neg (by rw [v1]; decide)] at e2
    obtain ⟨t3, b3', e2⟩ := ob1_some e2
    rcases mx_in b3' with ⟨k, q⟩ | ⟨k, q⟩
    · rw [if_pos k] at e2
      cases e2
      by_cases c1 : who < 0
      · rw [if_pos c1] at e1; cases e1; rfl
      · rw [if_neg c1] at e1
        have d1 := gi_of_nlt c1
        rw [if_neg (gi_nle (by omega))] at e1
        cases e1
        rfl
    · rw [if_neg (by rw [k]; decide)] at e2
      rw [if_neg (gi_nlt (by omega)), if_pos (gi_le (by omega))] at e1
      obtain ⟨r5, h5, a5, e1⟩ := ob2_some e1
      obtain ⟨t5, g5, b5, e2⟩ := ob2_some e2
      have f5 : Fr S_X8_halvesHad h h5 := w_f_X8_halvesHad _ _ _ _ _ _ a5
      have k5 : Fr S_X9_knownBy g g5 := w_f_X9_knownBy _ _ _ _ _ b5
      have s5 : STD h5 g5 := STD_fr s f5 k5 (by decide) (by decide) (by decide) (by decide)
      have s5g : STD h5 g := STD_fr s f5 (Fr_refl [] g) (by decide) (by decide) (by decide) (by decide)
      have i5 : IN4 r5 := had_in4 ic im s s u2.1 a5
      unfold f_X8_halvesHad at a5
      unfold f_X9_knownBy at b5
      have j5 : r5 = t5 := j_had u2.1 (by omega) _ _ _ _ _ _ _ _ a5 b5 s (by decide)
      subst j5
      obtain ⟨r6, h6, a6, e1⟩ := ob2_some e1
      obtain ⟨t6, g6, b6, e2⟩ := ob2_some e2
      have f6 : Fr S_X8_halvesHad h5 h6 := w_f_X8_halvesHad _ _ _ _ _ _ a6
      have k6 : Fr S_X9_knownBy g5 g6 := w_f_X9_knownBy _ _ _ _ _ b6
      have s6 : STD h6 g6 := STD_fr s5 f6 k6 (by decide) (by decide) (by decide) (by decide)
      have i6 : IN4 r6 := had_in4 ic im s s5g u2.1 a6
      unfold f_X8_halvesHad at a6
      unfold f_X9_knownBy at b6
      have j6 : r6 = t6 := j_had u2.1 (by omega) _ _ _ _ _ _ _ _ a6 b6 s5 (by decide)
      subst j6
      obtain ⟨F, hF⟩ : ∃ F : Nat, r5.toInt = (F : Int) := ⟨r5.toInt.toNat, by have := i5.1; omega⟩
      obtain ⟨E, hE⟩ : ∃ E : Nat, r6.toInt = (E : Int) := ⟨r6.toInt.toNat, by have := i6.1; omega⟩
      have F4 : F < 4 := by have := i5.2; omega
      have E4 : E < 4 := by have := i6.2; omega
      obtain ⟨h7, a7, e1⟩ := ob1_some e1
      obtain ⟨g7, b7, e2⟩ := ob1_some e2
      unfold f_X0_begin at a7
      unfold f_X9_startsMany at b7
      obtain ⟨w1, w2⟩ := cp_begin hF hE F4 E4 _ _ _ a7 (by decide) (by decide) (fun j hj => by omega)
      obtain ⟨x1, x2⟩ := mp_starts hF hE F4 E4 _ _ _ b7 (by decide) (by decide) (fun j hj => by omega)
      have fb : Fr [(2, 7, 1), (0, 7, 0)] h6 (sL (sI h6 7 0 0) 7 1 1) := Fr_sL (by decide) (Fr_sI (by decide) (Fr_refl _ _))
      have s7 : STD h7 g7 := STD_fr (STD_fr s6 fb (Fr_refl [] g6) (by decide) (by decide) (by decide) (by decide)) w2 x2 (by decide) (by decide) (by decide) (by decide)
      refine j_oddsloop u2.1 _ _ _ _ _ _ _ e1 e2 s7 (by decide) (by decide) (by decide) (by decide) ⟨?_, ?_, fun i hi => ?_, ⟨fun t ht => ?_, ?_⟩, ?_⟩
      · rw [w2.1 7 0 (by decide)]; rfl
      · rw [w2.2.2.1 7 1 (by decide)]; rfl
      · have bp := (beg_prm ⟨i, hi⟩ ⟨F, F4⟩ ⟨E, E4⟩).1
        have bp : i = 4 * F + E ↔ prm i = F + 4 * E := bp
        have pi : prm i < 16 := (prm_prm ⟨i, hi⟩).2
        rw [w1 i hi, x1 _ pi]
        by_cases c : i = 4 * F + E
        · rw [if_pos c, if_pos (bp.mp c)]
        · rw [if_neg c, if_neg (fun k => c (bp.mpr k))]
      · rw [x1 t ht]
        by_cases c : t = F + 4 * E
        · rw [if_pos c]; omega
        · rw [if_neg c]; omega
      · have z : ∀ t : Nat, t < 16 → (eJ g7 0 41 t).toInt = if F + 4 * E = t then (1 : Int) else 0 := by
          intro t ht
          rw [x1 t ht]
          by_cases c : t = F + 4 * E
          · rw [if_pos c, if_pos c.symm]; exact y1L
          · rw [if_neg c, if_neg (fun k => c k.symm)]; exact y0L
        rw [smZ_congr 16 z, smZ_one, if_pos (beg_prm ⟨0, by decide⟩ ⟨F, F4⟩ ⟨E, E4⟩).2]
        rfl
      · exact y1L
/-! a new text beside those that stand -/
theorem TXF_ktx {o t u : Nat} {S : CL} {h h' g g' : HS} (x : TXF o u h g) (f : Fr S h h') (n : ∀ y ∈ [(0, o, 1), (0, o, 5), (1, o, 0), (1, o, 2), (1, o, 3), (1, o, 4)], y ∉ S) (k : KTX t g g') (ne : ¬ u = t) : TXF o u h' g' := by
  obtain ⟨k1, k2, k3⟩ := k
  have G6 : eA g' 0 6 u = eA g 0 6 u := k1 u ne
  have G7 : ∀ c : Nat, c < 24 → eA g' 0 7 (24 * u + c) = eA g 0 7 (24 * u + c) ∧ eA g' 0 8 (24 * u + c) = eA g 0 8 (24 * u + c) ∧ eA g' 0 9 (24 * u + c) = eA g 0 9 (24 * u + c) ∧ eA g' 0 10 (24 * u + c) = eA g 0 10 (24 * u + c) ∧ eA g' 0 11 (24 * u + c) = eA g 0 11 (24 * u + c) := fun c hc => k2 _ (by omega)
  have G12 : ∀ i : Nat, i < 400 → eA g' 0 12 (400 * u + i) = eA g 0 12 (400 * u + i) ∧ eA g' 0 13 (400 * u + i) = eA g 0 13 (400 * u + i) := fun i hi => k3 _ (by omega)
  obtain ⟨x1, x2, x3, x4, x5⟩ := x
  unfold TXF
  rw [f.1 o 1 (n _ (by simp)), f.1 o 5 (n _ (by simp)), f.2.1 o 3 (n _ (by simp)), G6]
  refine ⟨x1, x2, x3, fun c hc => ?_, fun w hw => ?_⟩
  · have c24 : c < 24 := by omega
    obtain ⟨g7, g8, g9, g10, g11⟩ := G7 c c24
    obtain ⟨y1, y2, y3, y4, y5⟩ := x4 c hc
    unfold CLF
    rw [g7, g9, g10, g11, f.2.1 o 0 (n _ (by simp))]
    refine ⟨y1, y2, y3, fun q => ?_, y5⟩
    obtain ⟨z1, z2, z3, z4, z5, z6⟩ := y4 q
    unfold LWF
    rw [f.1 o 5 (n _ (by simp)), f.2.1 o 2 (n _ (by simp)), f.2.1 o 3 (n _ (by simp)), f.2.1 o 4 (n _ (by simp)), g8]
    refine ⟨z1, z2, z3, z4, fun i i1 i2 => ?_, ?_⟩
    · rw [show i + (400 * u + c) = 400 * u + (i + c) by omega, (G12 (i + c) (by omega)).1, (G12 (i + c) (by omega)).2]
      have z := z5 i i1 i2
      rw [show i + (400 * u + c) = 400 * u + (i + c) by omega] at z
      exact z
    · rw [show ∀ m : Nat, m + (400 * u + c) = 400 * u + (m + c) from fun m => by omega] at z6 ⊢
      rw [(G12 _ (by omega)).1]
      exact z6
  · rcases x5 w hw with ⟨z1, z2⟩ | ⟨z1, c, z2, z3⟩
    · refine Or.inl ⟨z1, fun c hc => ?_⟩
      rw [(G7 c (by omega)).1]
      exact z2 c hc
    · refine Or.inr ⟨z1, c, z2, ?_⟩
      rw [(G7 c (by omega)).1]
      exact z3
theorem TXS_mono {h g : HS} {m n : Int} (x : TXS h g n) (l : m ≤ n) : TXS h g m := ⟨fun q => x.1 (by omega), fun q => x.2.1 (by omega), fun q => x.2.2.1 (by omega), fun q => x.2.2.2 (by omega)⟩
theorem txs_new_0 {S : CL} {h h' g g' : HS} (x : TXS h g 0) (f : Fr S h h') (hS : ∀ y ∈ ([] : CL), y ∉ S) (k : KTX 0 g g') (tx : TXF 9 0 h' g') (ty0 : TYL 9 h') : TXS h' g' 1 := ⟨fun _ => ⟨tx, ty0⟩, fun q => absurd q (by decide), fun q => absurd q (by decide), fun q => absurd q (by decide)⟩
theorem txs_bad_0 {S T : CL} {h h' g g' : HS} (x : TXS h g 0) (f : Fr S h h') (k : Fr T g g') (hS : ∀ y ∈ ([] : CL), y ∉ S) (hT : ∀ y ∈ KTM, y ∉ T) : TXS h' g' 0 := ⟨fun q => absurd q (by decide), fun q => absurd q (by decide), fun q => absurd q (by decide), fun q => absurd q (by decide)⟩
theorem txs_new_1 {S : CL} {h h' g g' : HS} (x : TXS h g 1) (f : Fr S h h') (hS : ∀ y ∈ ([(0, 9, 1), (0, 9, 5), (1, 9, 0), (1, 9, 2), (1, 9, 3), (1, 9, 4)] : CL), y ∉ S) (k : KTX 1 g g') (tx : TXF 10 1 h' g') (ty0 : TYL 10 h') : TXS h' g' 2 := ⟨fun _ => ⟨TXF_ktx (x.1 (by omega)).1 f (fun y hy => hS y ((show ∀ y ∈ [(0, 9, 1), (0, 9, 5), (1, 9, 0), (1, 9, 2), (1, 9, 3), (1, 9, 4)], y ∈ ([(0, 9, 1), (0, 9, 5), (1, 9, 0), (1, 9, 2), (1, 9, 3), (1, 9, 4)] : CL) by decide) y hy)) k (by decide), TYL_fr (x.1 (by omega)).2 f (fun y hy => hS y ((show ∀ y ∈ [(0, 9, 5), (1, 9, 2), (1, 9, 3), (1, 9, 4)], y ∈ ([(0, 9, 1), (0, 9, 5), (1, 9, 0), (1, 9, 2), (1, 9, 3), (1, 9, 4)] : CL) by decide) y hy))⟩, fun _ => ⟨tx, ty0⟩, fun q => absurd q (by decide), fun q => absurd q (by decide)⟩
theorem txs_bad_1 {S T : CL} {h h' g g' : HS} (x : TXS h g 1) (f : Fr S h h') (k : Fr T g g') (hS : ∀ y ∈ ([(0, 9, 1), (0, 9, 5), (1, 9, 0), (1, 9, 2), (1, 9, 3), (1, 9, 4)] : CL), y ∉ S) (hT : ∀ y ∈ KTM, y ∉ T) : TXS h' g' 1 := ⟨fun _ => ⟨TXF_fr (x.1 (by omega)).1 f k (fun y hy => hS y ((show ∀ y ∈ [(0, 9, 1), (0, 9, 5), (1, 9, 0), (1, 9, 2), (1, 9, 3), (1, 9, 4)], y ∈ ([(0, 9, 1), (0, 9, 5), (1, 9, 0), (1, 9, 2), (1, 9, 3), (1, 9, 4)] : CL) by decide) y hy)) hT, TYL_fr (x.1 (by omega)).2 f (fun y hy => hS y ((show ∀ y ∈ [(0, 9, 5), (1, 9, 2), (1, 9, 3), (1, 9, 4)], y ∈ ([(0, 9, 1), (0, 9, 5), (1, 9, 0), (1, 9, 2), (1, 9, 3), (1, 9, 4)] : CL) by decide) y hy))⟩, fun q => absurd q (by decide), fun q => absurd q (by decide), fun q => absurd q (by decide)⟩
theorem txs_new_2 {S : CL} {h h' g g' : HS} (x : TXS h g 2) (f : Fr S h h') (hS : ∀ y ∈ ([(0, 9, 1), (0, 9, 5), (1, 9, 0), (1, 9, 2), (1, 9, 3), (1, 9, 4), (0, 10, 1), (0, 10, 5), (1, 10, 0), (1, 10, 2), (1, 10, 3), (1, 10, 4)] : CL), y ∉ S) (k : KTX 2 g g') (tx : TXF 11 2 h' g') (ty0 : TYL 11 h') : TXS h' g' 3 := ⟨fun _ => ⟨TXF_ktx (x.1 (by omega)).1 f (fun y hy => hS y ((show ∀ y ∈ [(0, 9, 1), (0, 9, 5), (1, 9, 0), (1, 9, 2), (1, 9, 3), (1, 9, 4)], y ∈ ([(0, 9, 1), (0, 9, 5), (1, 9, 0), (1, 9, 2), (1, 9, 3), (1, 9, 4), (0, 10, 1), (0, 10, 5), (1, 10, 0), (1, 10, 2), (1, 10, 3), (1, 10, 4)] : CL) by decide) y hy)) k (by decide), TYL_fr (x.1 (by omega)).2 f (fun y hy => hS y ((show ∀ y ∈ [(0, 9, 5), (1, 9, 2), (1, 9, 3), (1, 9, 4)], y ∈ ([(0, 9, 1), (0, 9, 5), (1, 9, 0), (1, 9, 2), (1, 9, 3), (1, 9, 4), (0, 10, 1), (0, 10, 5), (1, 10, 0), (1, 10, 2), (1, 10, 3), (1, 10, 4)] : CL) by decide) y hy))⟩, fun _ => ⟨TXF_ktx (x.2.1 (by omega)).1 f (fun y hy => hS y ((show ∀ y ∈ [(0, 10, 1), (0, 10, 5), (1, 10, 0), (1, 10, 2), (1, 10, 3), (1, 10, 4)], y ∈ ([(0, 9, 1), (0, 9, 5), (1, 9, 0), (1, 9, 2), (1, 9, 3), (1, 9, 4), (0, 10, 1), (0, 10, 5), (1, 10, 0), (1, 10, 2), (1, 10, 3), (1, 10, 4)] : CL) by decide) y hy)) k (by decide), TYL_fr (x.2.1 (by omega)).2 f (fun y hy => hS y ((show ∀ y ∈ [(0, 10, 5), (1, 10, 2), (1, 10, 3), (1, 10, 4)], y ∈ ([(0, 9, 1), (0, 9, 5), (1, 9, 0), (1, 9, 2), (1, 9, 3), (1, 9, 4), (0, 10, 1), (0, 10, 5), (1, 10, 0), (1, 10, 2), (1, 10, 3), (1, 10, 4)] : CL) by decide) y hy))⟩, fun _ => ⟨tx, ty0⟩, fun q => absurd q (by decide)⟩
theorem txs_bad_2 {S T : CL} {h h' g g' : HS} (x : TXS h g 2) (f : Fr S h h') (k : Fr T g g') (hS : ∀ y ∈ ([(0, 9, 1), (0, 9, 5), (1, 9, 0), (1, 9, 2), (1, 9, 3), (1, 9, 4), (0, 10, 1), (0, 10, 5), (1, 10, 0), (1, 10, 2), (1, 10, 3), (1, 10, 4)] : CL), y ∉ S) (hT : ∀ y ∈ KTM, y ∉ T) : TXS h' g' 2 := ⟨fun _ => ⟨TXF_fr (x.1 (by omega)).1 f k (fun y hy => hS y ((show ∀ y ∈ [(0, 9, 1), (0, 9, 5), (1, 9, 0), (1, 9, 2), (1, 9, 3), (1, 9, 4)], y ∈ ([(0, 9, 1), (0, 9, 5), (1, 9, 0), (1, 9, 2), (1, 9, 3), (1, 9, 4), (0, 10, 1), (0, 10, 5), (1, 10, 0), (1, 10, 2), (1, 10, 3), (1, 10, 4)] : CL) by decide) y hy)) hT, TYL_fr (x.1 (by omega)).2 f (fun y hy => hS y ((show ∀ y ∈ [(0, 9, 5), (1, 9, 2), (1, 9, 3), (1, 9, 4)], y ∈ ([(0, 9, 1), (0, 9, 5), (1, 9, 0), (1, 9, 2), (1, 9, 3), (1, 9, 4), (0, 10, 1), (0, 10, 5), (1, 10, 0), (1, 10, 2), (1, 10, 3), (1, 10, 4)] : CL) by decide) y hy))⟩, fun _ => ⟨TXF_fr (x.2.1 (by omega)).1 f k (fun y hy => hS y ((show ∀ y ∈ [(0, 10, 1), (0, 10, 5), (1, 10, 0), (1, 10, 2), (1, 10, 3), (1, 10, 4)], y ∈ ([(0, 9, 1), (0, 9, 5), (1, 9, 0), (1, 9, 2), (1, 9, 3), (1, 9, 4), (0, 10, 1), (0, 10, 5), (1, 10, 0), (1, 10, 2), (1, 10, 3), (1, 10, 4)] : CL) by decide) y hy)) hT, TYL_fr (x.2.1 (by omega)).2 f (fun y hy => hS y ((show ∀ y ∈ [(0, 10, 5), (1, 10, 2), (1, 10, 3), (1, 10, 4)], y ∈ ([(0, 9, 1), (0, 9, 5), (1, 9, 0), (1, 9, 2), (1, 9, 3), (1, 9, 4), (0, 10, 1), (0, 10, 5), (1, 10, 0), (1, 10, 2), (1, 10, 3), (1, 10, 4)] : CL) by decide) y hy))⟩, fun q => absurd q (by decide), fun q => absurd q (by decide)⟩
theorem txs_new_3 {S : CL} {h h' g g' : HS} (x : TXS h g 3) (f : Fr S h h') (hS : ∀ y ∈ ([(0, 9, 1), (0, 9, 5), (1, 9, 0), (1, 9, 2), (1, 9, 3), (1, 9, 4), (0, 10, 1), (0, 10, 5), (1, 10, 0), (1, 10, 2), (1, 10, 3), (1, 10, 4), (0, 11, 1), (0, 11, 5), (1, 11, 0), (1, 11, 2), (1, 11, 3), (1, 11, 4)] : CL), y ∉ S) (k : KTX 3 g g') (tx : TXF 12 3 h' g') (ty0 : TYL 12 h') : TXS h' g' 4 := ⟨fun _ => ⟨TXF_ktx (x.1 (by omega)).1 f (fun y hy => hS y ((show ∀ y ∈ [(0, 9, 1), (0, 9, 5), (1, 9, 0), (1, 9, 2), (1, 9, 3), (1, 9, 4)], y ∈ ([(0, 9, 1), (0, 9, 5), (1, 9, 0), (1, 9, 2), (1, 9, 3), (1, 9, 4), (0, 10, 1), (0, 10, 5), (1, 10, 0), (1, 10, 2), (1, 10, 3), (1, 10, 4), (0, 11, 1), (0, 11, 5), (1, 11, 0), (1, 11, 2), (1, 11, 3), (1, 11, 4)] : CL) by decide) y hy)) k (by decide), TYL_fr (x.1 (by omega)).2 f (fun y hy => hS y ((show ∀ y ∈ [(0, 9, 5), (1, 9, 2), (1, 9, 3), (1, 9, 4)], y ∈ ([(0, 9, 1), (0, 9, 5), (1, 9, 0), (1, 9, 2), (1, 9, 3), (1, 9, 4), (0, 10, 1), (0, 10, 5), (1, 10, 0), (1, 10, 2), (1, 10, 3), (1, 10, 4), (0, 11, 1), (0, 11, 5), (1, 11, 0), (1, 11, 2), (1, 11, 3), (1, 11, 4)] : CL) by decide) y hy))⟩, fun _ => ⟨TXF_ktx (x.2.1 (by omega)).1 f (fun y hy => hS y ((show ∀ y ∈ [(0, 10, 1), (0, 10, 5), (1, 10, 0), (1, 10, 2), (1, 10, 3), (1, 10, 4)], y ∈ ([(0, 9, 1), (0, 9, 5), (1, 9, 0), (1, 9, 2), (1, 9, 3), (1, 9, 4), (0, 10, 1), (0, 10, 5), (1, 10, 0), (1, 10, 2), (1, 10, 3), (1, 10, 4), (0, 11, 1), (0, 11, 5), (1, 11, 0), (1, 11, 2), (1, 11, 3), (1, 11, 4)] : CL) by decide) y hy)) k (by decide), TYL_fr (x.2.1 (by omega)).2 f (fun y hy => hS y ((show ∀ y ∈ [(0, 10, 5), (1, 10, 2), (1, 10, 3), (1, 10, 4)], y ∈ ([(0, 9, 1), (0, 9, 5), (1, 9, 0), (1, 9, 2), (1, 9, 3), (1, 9, 4), (0, 10, 1), (0, 10, 5), (1, 10, 0), (1, 10, 2), (1, 10, 3), (1, 10, 4), (0, 11, 1), (0, 11, 5), (1, 11, 0), (1, 11, 2), (1, 11, 3), (1, 11, 4)] : CL) by decide) y hy))⟩, fun _ => ⟨TXF_ktx (x.2.2.1 (by omega)).1 f (fun y hy => hS y ((show ∀ y ∈ [(0, 11, 1), (0, 11, 5), (1, 11, 0), (1, 11, 2), (1, 11, 3), (1, 11, 4)], y ∈ ([(0, 9, 1), (0, 9, 5), (1, 9, 0), (1, 9, 2), (1, 9, 3), (1, 9, 4), (0, 10, 1), (0, 10, 5), (1, 10, 0), (1, 10, 2), (1, 10, 3), (1, 10, 4), (0, 11, 1), (0, 11, 5), (1, 11, 0), (1, 11, 2), (1, 11, 3), (1, 11, 4)] : CL) by decide) y hy)) k (by decide), TYL_fr (x.2.2.1 (by omega)).2 f (fun y hy => hS y ((show ∀ y ∈ [(0, 11, 5), (1, 11, 2), (1, 11, 3), (1, 11, 4)], y ∈ ([(0, 9, 1), (0, 9, 5), (1, 9, 0), (1, 9, 2), (1, 9, 3), (1, 9, 4), (0, 10, 1), (0, 10, 5), (1, 10, 0), (1, 10, 2), (1, 10, 3), (1, 10, 4), (0, 11, 1), (0, 11, 5), (1, 11, 0), (1, 11, 2), (1, 11, 3), (1, 11, 4)] : CL) by decide) y hy))⟩, fun _ => ⟨tx, ty0⟩⟩
theorem txs_bad_3 {S T : CL} {h h' g g' : HS} (x : TXS h g 3) (f : Fr S h h') (k : Fr T g g') (hS : ∀ y ∈ ([(0, 9, 1), (0, 9, 5), (1, 9, 0), (1, 9, 2), (1, 9, 3), (1, 9, 4), (0, 10, 1), (0, 10, 5), (1, 10, 0), (1, 10, 2), (1, 10, 3), (1, 10, 4), (0, 11, 1), (0, 11, 5), (1, 11, 0), (1, 11, 2), (1, 11, 3), (1, 11, 4)] : CL), y ∉ S) (hT : ∀ y ∈ KTM, y ∉ T) : TXS h' g' 3 := ⟨fun _ => ⟨TXF_fr (x.1 (by omega)).1 f k (fun y hy => hS y ((show ∀ y ∈ [(0, 9, 1), (0, 9, 5), (1, 9, 0), (1, 9, 2), (1, 9, 3), (1, 9, 4)], y ∈ ([(0, 9, 1), (0, 9, 5), (1, 9, 0), (1, 9, 2), (1, 9, 3), (1, 9, 4), (0, 10, 1), (0, 10, 5), (1, 10, 0), (1, 10, 2), (1, 10, 3), (1, 10, 4), (0, 11, 1), (0, 11, 5), (1, 11, 0), (1, 11, 2), (1, 11, 3), (1, 11, 4)] : CL) by decide) y hy)) hT, TYL_fr (x.1 (by omega)).2 f (fun y hy => hS y ((show ∀ y ∈ [(0, 9, 5), (1, 9, 2), (1, 9, 3), (1, 9, 4)], y ∈ ([(0, 9, 1), (0, 9, 5), (1, 9, 0), (1, 9, 2), (1, 9, 3), (1, 9, 4), (0, 10, 1), (0, 10, 5), (1, 10, 0), (1, 10, 2), (1, 10, 3), (1, 10, 4), (0, 11, 1), (0, 11, 5), (1, 11, 0), (1, 11, 2), (1, 11, 3), (1, 11, 4)] : CL) by decide) y hy))⟩, fun _ => ⟨TXF_fr (x.2.1 (by omega)).1 f k (fun y hy => hS y ((show ∀ y ∈ [(0, 10, 1), (0, 10, 5), (1, 10, 0), (1, 10, 2), (1, 10, 3), (1, 10, 4)], y ∈ ([(0, 9, 1), (0, 9, 5), (1, 9, 0), (1, 9, 2), (1, 9, 3), (1, 9, 4), (0, 10, 1), (0, 10, 5), (1, 10, 0), (1, 10, 2), (1, 10, 3), (1, 10, 4), (0, 11, 1), (0, 11, 5), (1, 11, 0), (1, 11, 2), (1, 11, 3), (1, 11, 4)] : CL) by decide) y hy)) hT, TYL_fr (x.2.1 (by omega)).2 f (fun y hy => hS y ((show ∀ y ∈ [(0, 10, 5), (1, 10, 2), (1, 10, 3), (1, 10, 4)], y ∈ ([(0, 9, 1), (0, 9, 5), (1, 9, 0), (1, 9, 2), (1, 9, 3), (1, 9, 4), (0, 10, 1), (0, 10, 5), (1, 10, 0), (1, 10, 2), (1, 10, 3), (1, 10, 4), (0, 11, 1), (0, 11, 5), (1, 11, 0), (1, 11, 2), (1, 11, 3), (1, 11, 4)] : CL) by decide) y hy))⟩, fun _ => ⟨TXF_fr (x.2.2.1 (by omega)).1 f k (fun y hy => hS y ((show ∀ y ∈ [(0, 11, 1), (0, 11, 5), (1, 11, 0), (1, 11, 2), (1, 11, 3), (1, 11, 4)], y ∈ ([(0, 9, 1), (0, 9, 5), (1, 9, 0), (1, 9, 2), (1, 9, 3), (1, 9, 4), (0, 10, 1), (0, 10, 5), (1, 10, 0), (1, 10, 2), (1, 10, 3), (1, 10, 4), (0, 11, 1), (0, 11, 5), (1, 11, 0), (1, 11, 2), (1, 11, 3), (1, 11, 4)] : CL) by decide) y hy)) hT, TYL_fr (x.2.2.1 (by omega)).2 f (fun y hy => hS y ((show ∀ y ∈ [(0, 11, 5), (1, 11, 2), (1, 11, 3), (1, 11, 4)], y ∈ ([(0, 9, 1), (0, 9, 5), (1, 9, 0), (1, 9, 2), (1, 9, 3), (1, 9, 4), (0, 10, 1), (0, 10, 5), (1, 10, 0), (1, 10, 2), (1, 10, 3), (1, 10, 4), (0, 11, 1), (0, 11, 5), (1, 11, 0), (1, 11, 2), (1, 11, 3), (1, 11, 4)] : CL) by decide) y hy))⟩, fun q => absurd q (by decide)⟩
