/-! the reference's next token is the one that Tok tells -/
def mB (g : HS) (j : Int) : Int := (eA g 0 2 j.toNat).toInt
def BR (b m : Int) : Prop := 0 ≤ b ∧ b ≤ 255 ∧ ((b < 128 ∧ m = b) ∨ (128 ≤ b ∧ m = b - 256))
theorem BR_bl {b m : Int} (h : BR b m) : isBl m ↔ isBl b := by unfold BR isBl at *; omega
theorem BR_al {b m : Int} (h : BR b m) : isAl m ↔ isAl b := by unfold BR isAl at *; omega
theorem BR_nu {b m : Int} (h : BR b m) : isNu m ↔ isNu b := by unfold BR isNu at *; omega
theorem mx_in {x lo hi r : Int32} (e : f_X9_in x lo hi = some r) : (r = 0 ∧ ¬ (lo.toInt ≤ x.toInt ∧ x.toInt ≤ hi.toInt)) ∨ (r = 1 ∧ (lo.toInt ≤ x.toInt ∧ x.toInt ≤ hi.toInt)) := by
  unfold f_X9_in f_X9_in_14 f_X9_in_15 at e
  by_cases c1 : x < lo
  · rw [if_pos c1] at e; cases e
    exact Or.inl ⟨rfl, by have := gi_of_lt c1; omega⟩
  · rw [if_neg c1] at e
    by_cases c2 : hi < x
    · rw [if_pos c2] at e; cases e
      exact Or.inl ⟨rfl, by have := gi_of_lt c2; omega⟩
    · rw [if_neg c2] at e; cases e
      exact Or.inr ⟨rfl, gi_of_nlt c1, gi_of_nlt c2⟩
theorem mx_isLetter {x r : Int32} (e : f_X9_isLetter x = some r) : (r = 0 ∧ ¬ isAl x.toInt) ∨ (r = 1 ∧ isAl x.toInt) := by
  have z1 : (97 : Int32).toInt = 97 := rfl
  have z2 : (122 : Int32).toInt = 122 := rfl
  have z3 : (65 : Int32).toInt = 65 := rfl
  have z4 : (90 : Int32).toInt = 90 := rfl
  unfold f_X9_isLetter f_X9_isLetter_22 f_X9_isLetter_27 at e
  obtain ⟨r1, e1, e⟩ := ob1_some e
  unfold isAl
  rcases mx_in e1 with ⟨rfl, q1⟩ | ⟨rfl, q1⟩
  · rw [if_pos rfl] at e
    obtain ⟨r3, e3, e⟩ := ob1_some e
    rcases mx_in e3 with ⟨rfl, q3⟩ | ⟨rfl, q3⟩
    · cases e
      exact Or.inl ⟨rfl, by omega⟩
    · cases e
      exact Or.inr ⟨rfl, by omega⟩
  · cases e
    exact Or.inr ⟨rfl, by omega⟩
def MT (B : Int → Int) (L : Int) (g : HS) : Prop := (eI g 0 14).toInt = L ∧ ∀ j : Int, 0 ≤ j → j < L → BR (B j) (mB g j)
theorem MT_fr {B : Int → Int} {L : Int} {S : CL} {g g1 : HS} (t : MT B L g) (f : Fr S g g1) (h1 : (0, 0, 14) ∉ S) (h2 : (1, 0, 2) ∉ S) : MT B L g1 := by
  refine ⟨by rw [f.1 0 14 h1]; exact t.1, fun j a b => ?_⟩
  have := t.2 j a b
  unfold mB at *
  rw [f.2.1 0 2 h2]
  exact this
theorem mx_skip {B : Int → Int} {L s : Int} (hL : L ≤ 300) : ∀ (n : Nat) (g g' : HS), f_X9_next_0 n g = some g' → MT B L g → 0 ≤ (eI g 0 15).toInt → (eI g 0 15).toInt ≤ s → s ≤ L → (∀ j : Int, (eI g 0 15).toInt ≤ j → j < s → isBl (B j)) → (s = L ∨ ¬ isBl (B s)) → ∃ g1 : HS, f_X9_next_52 g1 = some g' ∧ (eI g1 0 15).toInt = s ∧ Fr [(0, 0, 15)] g g1 := by
  have z1 : (1 : Int32).toInt = 1 := rfl
  have z32 : (32 : Int32).toInt = 32 := rfl
  have z10 : (10 : Int32).toInt = 10 := rfl
  intro n
  induction n with
  | zero => intro g g' e; cases e
  | succ n ih =>
    intro g g' e t h0 h1 h2 h3 h4
    rw [f_X9_next_0_s] at e
    by_cases c1 : eI g 0 14 ≤ eI g 0 15
    · rw [if_pos c1] at e
      have d1 := gi_of_le c1
      have := t.1
      exact ⟨g, e, by omega, Fr_refl _ _⟩
    · rw [if_neg c1] at e
      have d1 := gi_of_nle c1
      have tl := t.1
      obtain ⟨-, e⟩ := ob_if e
      have tb := t.2 (eI g 0 15).toInt h0 (by omega)
      have eb : (eA g 0 2 ((eI g 0 15).toNatClampNeg)).toInt = mB g (eI g 0 15).toInt := rfl
      by_cases c2 : (eI g 0 15).toInt = s
      · have nb : ¬ isBl (mB g (eI g 0 15).toInt) := by
          rcases h4 with h4 | h4
          · omega
          · rw [BR_bl tb, c2]; exact h4
        unfold isBl at nb
        rw [if_neg (fun q => by have := gi_of_eq q; omega)] at e
        obtain ⟨-, e⟩ := ob_if e
        rw [if_neg (fun q => by have := gi_of_eq q; omega)] at e
        exact ⟨g, e, c2, Fr_refl _ _⟩
      · have bb : isBl (mB g (eI g 0 15).toInt) := by rw [BR_bl tb]; exact h3 _ (Int.le_refl _) (by omega)
        have a1 := fb_addI (x := eI g 0 15) (y := 1) (by omega) (by omega)
        have go : f_X9_next_39 (f_X9_next_0 n) g = some g' := by
          by_cases c3 : (eA g 0 2 ((eI g 0 15).toNatClampNeg)) = 32
          · rw [if_pos c3] at e; exact e
          · rw [if_neg c3] at e
            obtain ⟨-, e⟩ := ob_if e
            have d3 := gi_of_ne c3
            have c4 : (eA g 0 2 ((eI g 0 15).toNatClampNeg)) = 10 := by
              rcases bb with q | q
              · omega
              · exact gi_eq (by omega)
            rw [if_pos c4] at e
            exact e
        unfold f_X9_next_39 at go
        have f : Fr [(0, 0, 15)] g (sI g 0 15 (eI g 0 15 + 1)) := Fr_sI (by decide) (Fr_refl _ _)
        have ea : (eI (sI g 0 15 (eI g 0 15 + 1)) 0 15).toInt = (eI g 0 15).toInt + 1 := a1.trans (by omega)
        obtain ⟨g1, k1, k2, k3⟩ := ih _ g' go (MT_fr t f (by decide) (by decide)) (by omega) (by omega) h2 (fun j q1 q2 => h3 j (by omega) q2) h4
        exact ⟨g1, k1, k2, Fr_trans f k3⟩
def MM : Nat → Int
  | 0 => 1
  | k + 1 => 64 * MM k
theorem MM_le : ∀ k : Fin 10, MM k.val ≤ 18014398509481984 := by decide +kernel
theorem l_add {x y : Int64} (h1 : -9223372036854775808 ≤ x.toInt + y.toInt) (h2 : x.toInt + y.toInt < 9223372036854775808) : (x + y).toInt = x.toInt + y.toInt := by
  rw [Int64.toInt_add, l_bmod h1 h2]
theorem l_sub {x y : Int64} (h1 : -9223372036854775808 ≤ x.toInt - y.toInt) (h2 : x.toInt - y.toInt < 9223372036854775808) : (x - y).toInt = x.toInt - y.toInt := by
  rw [Int64.toInt_sub, l_bmod h1 h2]
theorem l_mulJ {x y : Int64} {k : Int} (e : x.toInt = k) (h1 : -9223372036854775808 ≤ k * y.toInt) (h2 : k * y.toInt < 9223372036854775808) : (x * y).toInt = k * y.toInt := by
  rw [Int64.toInt_mul, e, l_bmod h1 h2]
theorem mx_word {B : Int → Int} {L q : Int} (hL : L ≤ 300) : ∀ (n : Nat) (g g' : HS) (x2 : Int64) (x4 : Int32), f_X9_next_99 n g x2 x4 = some g' → MT B L g → 0 ≤ (eI g 0 15).toInt → (eI g 0 15).toInt ≤ q → q ≤ L → (∀ j : Int, (eI g 0 15).toInt ≤ j → j < q → isAl (B j)) → (q = L ∨ ¬ isAl (B q)) → 0 ≤ x4.toInt → x4.toInt ≤ (eI g 0 15).toInt → (x4.toInt ≤ 9 → 0 ≤ x2.toInt ∧ x2.toInt < MM x4.toInt.toNat) → ∃ (g1 : HS) (y2 : Int64) (y4 : Int32), f_X9_next_173 g1 y2 y4 = some g' ∧ (eI g1 0 15).toInt = q ∧ Fr [(0, 0, 15)] g g1 ∧ y4.toInt = x4.toInt + (q - (eI g 0 15).toInt) ∧ (y4.toInt ≤ 8 → y2.toInt = encA x2.toInt (seg B (eI g 0 15).toInt (q - (eI g 0 15).toInt).toNat)) := by
  have z1 : (1 : Int32).toInt = 1 := rfl
  have z9 : (9 : Int32).toInt = 9 := rfl
  have y64 : (64 : Int64).toInt = 64 := rfl
  intro n
  induction n with
  | zero => intro g g' x2 x4 e; cases e
  | succ n ih =>
    intro g g' x2 x4 e t h0 h1 h2 h3 h4 h5 h5' h6
    rw [f_X9_next_99_s] at e
    have stop : (eI g 0 15).toInt = q → f_X9_next_173 g x2 x4 = some g' → ∃ (g1 : HS) (y2 : Int64) (y4 : Int32), f_X9_next_173 g1 y2 y4 = some g' ∧ (eI g1 0 15).toInt = q ∧ Fr [(0, 0, 15)] g g1 ∧ y4.toInt = x4.toInt + (q - (eI g 0 15).toInt) ∧ (y4.toInt ≤ 8 → y2.toInt = encA x2.toInt (seg B (eI g 0 15).toInt (q - (eI g 0 15).toInt).toNat)) := by
      intro a b
      refine ⟨g, x2, x4, b, a, Fr_refl _ _, by omega, fun _ => ?_⟩
      rw [show (q - (eI g 0 15).toInt).toNat = 0 by omega]; rfl
    by_cases c1 : eI g 0 14 ≤ eI g 0 15
    · rw [if_pos c1] at e
      have d1 := gi_of_le c1
      have := t.1
      exact stop (by omega) e
    · rw [if_neg c1] at e
      have d1 := gi_of_nle c1
      have tl := t.1
      obtain ⟨-, e⟩ := ob_if e
      have tb := t.2 (eI g 0 15).toInt h0 (by omega)
      have eb : (eA g 0 2 ((eI g 0 15).toNatClampNeg)).toInt = mB g (eI g 0 15).toInt := rfl
      obtain ⟨r8, e8, e⟩ := ob1_some e
      have k8 := mx_isLetter e8
      rw [eb, BR_al tb] at k8
      rcases k8 with ⟨rfl, k8⟩ | ⟨rfl, k8⟩
      · rw [if_pos rfl] at e
        refine stop ?_ e
        apply Classical.byContradiction
        intro ne
        exact k8 (h3 _ (Int.le_refl _) (by omega))
      · rw [if_neg (by decide)] at e
        have lt : (eI g 0 15).toInt < q := by
          apply Classical.byContradiction
          intro ne
          have : (eI g 0 15).toInt = q := by omega
          rw [this] at k8
          rcases h4 with h4 | h4
          · omega
          · exact h4 k8
        have a1 := fb_addI (x := eI g 0 15) (y := 1) (by omega) (by omega)
        have a4 := fb_addI (x := x4) (y := 1) (by omega) (by omega)
        have f : Fr [(0, 0, 15)] g (sI g 0 15 (eI g 0 15 + 1)) := Fr_sI (by decide) (Fr_refl _ _)
        have ea : (eI (sI g 0 15 (eI g 0 15 + 1)) 0 15).toInt = (eI g 0 15).toInt + 1 := a1.trans (by omega)
        obtain ⟨m, hm⟩ : ∃ m : Nat, (q - (eI g 0 15).toInt).toNat = m + 1 := ⟨(q - (eI g 0 15).toInt).toNat - 1, by omega⟩
        have hm' : (q - ((eI g 0 15).toInt + 1)).toNat = m := by omega
        have on : ∀ (y : Int64), f_X9_next_99 n (sI g 0 15 (eI g 0 15 + 1)) y (x4 + 1) = some g' → ((x4 + 1).toInt ≤ 9 → (0 ≤ y.toInt ∧ y.toInt < MM (x4 + 1).toInt.toNat) ∧ y.toInt = 64 * x2.toInt + B (eI g 0 15).toInt - 64) → ∃ (g1 : HS) (y2 : Int64) (y4 : Int32), f_X9_next_173 g1 y2 y4 = some g' ∧ (eI g1 0 15).toInt = q ∧ Fr [(0, 0, 15)] g g1 ∧ y4.toInt = x4.toInt + (q - (eI g 0 15).toInt) ∧ (y4.toInt ≤ 8 → y2.toInt = encA x2.toInt (seg B (eI g 0 15).toInt (q - (eI g 0 15).toInt).toNat)) := by
          intro y e hy
          obtain ⟨g1, y2, y4, k1, k2, k3, k4, k5⟩ := ih _ g' y (x4 + 1) e (MT_fr t f (by decide) (by decide)) (by omega) (by omega) h2 (fun j q1 q2 => h3 j (by omega) q2) h4 (by omega) (by omega) (fun w => (hy w).1)
          rw [ea] at k4 k5
          refine ⟨g1, y2, y4, k1, k2, Fr_trans f k3, by omega, fun w => ?_⟩
          rw [k5 w, hm, hm', (hy (by omega)).2]
          rfl
        by_cases c9 : (9 : Int32) ≤ x4
        · rw [if_pos c9] at e
          have d9 := gi_of_le c9
          unfold f_X9_next_156 at e
          exact on x2 e (fun w => by omega)
        · rw [if_neg c9] at e
          have d9 := gi_of_nle c9
          obtain ⟨-, e⟩ := ob_if e
          unfold f_X9_next_156 at e
          refine on _ e (fun w => ?_)
          have b6 := h6 (by omega)
          have al : 65 ≤ mB g (eI g 0 15).toInt ∧ mB g (eI g 0 15).toInt ≤ 122 := by
            have := (BR_al tb).mpr k8
            unfold isAl at this
            omega
          have bb : mB g (eI g 0 15).toInt = B (eI g 0 15).toInt := by unfold BR at tb; omega
          have ml := MM_le ⟨x4.toInt.toNat, by omega⟩
          have ml : MM x4.toInt.toNat ≤ 18014398509481984 := ml
          have v1 : (eA g 0 2 ((eI g 0 15).toNatClampNeg)).toInt64.toInt = mB g (eI g 0 15).toInt := by rw [Int32.toInt_toInt64]; rfl
          have v2 := l_mulJ (x := 64) (y := x2) (k := 64) rfl (by omega) (by omega)
          have v3 := l_add (x := 64 * x2) (y := (eA g 0 2 ((eI g 0 15).toNatClampNeg)).toInt64) (by omega) (by omega)
          have v4 := l_sub (x := 64 * x2 + (eA g 0 2 ((eI g 0 15).toNatClampNeg)).toInt64) (y := 64) (by omega) (by omega)
          have em : MM (x4 + 1).toInt.toNat = 64 * MM x4.toInt.toNat := by rw [show (x4 + 1).toInt.toNat = x4.toInt.toNat + 1 by omega]; rfl
          rw [em, v4, v3, v2, v1, bb, y64]
          rw [bb] at al
          omega
theorem mx_num {B : Int → Int} {L q : Int} (hL : L ≤ 300) : ∀ (n : Nat) (g g' : HS), f_X9_next_232 n g = some g' → MT B L g → 0 ≤ (eI g 0 15).toInt → (eI g 0 15).toInt ≤ q → q ≤ L → (∀ j : Int, (eI g 0 15).toInt ≤ j → j < q → isNu (B j)) → (q = L ∨ ¬ isNu (B q)) → 0 ≤ (eI g 0 18).toInt → (eI g 0 18).toInt ≤ 1000000 → (eI g' 0 15).toInt = q ∧ Fr [(0, 0, 15), (0, 0, 18)] g g' ∧ (eI g' 0 18).toInt = nvM (eI g 0 18).toInt (seg B (eI g 0 15).toInt (q - (eI g 0 15).toInt).toNat) := by
  have z1 : (1 : Int32).toInt = 1 := rfl
  have z48 : (48 : Int32).toInt = 48 := rfl
  have z57 : (57 : Int32).toInt = 57 := rfl
  have z5 : (99999 : Int32).toInt = 99999 := rfl
  intro n
  induction n with
  | zero => intro g g' e; cases e
  | succ n ih =>
    intro g g' e t h0 h1 h2 h3 h4 h5 h6
    rw [f_X9_next_232_s] at e
    have stop : (eI g 0 15).toInt = q → f_X9_next_439 g = some g' → (eI g' 0 15).toInt = q ∧ Fr [(0, 0, 15), (0, 0, 18)] g g' ∧ (eI g' 0 18).toInt = nvM (eI g 0 18).toInt (seg B (eI g 0 15).toInt (q - (eI g 0 15).toInt).toNat) := by
      intro a b
      unfold f_X9_next_439 at b
      cases b
      refine ⟨a, Fr_refl _ _, ?_⟩
      rw [show (q - (eI g 0 15).toInt).toNat = 0 by omega]; rfl
    by_cases c1 : eI g 0 14 ≤ eI g 0 15
    · rw [if_pos c1] at e
      have d1 := gi_of_le c1
      have := t.1
      exact stop (by omega) e
    · rw [if_neg c1] at e
      have d1 := gi_of_nle c1
      have tl := t.1
      obtain ⟨-, e⟩ := ob_if e
      have tb := t.2 (eI g 0 15).toInt h0 (by omega)
      have eb : (eA g 0 2 ((eI g 0 15).toNatClampNeg)).toInt = mB g (eI g 0 15).toInt := rfl
      obtain ⟨r8, e8, e⟩ := ob1_some e
      have k8 : (r8 = 0 ∧ ¬ isNu (B (eI g 0 15).toInt)) ∨ (r8 = 1 ∧ isNu (B (eI g 0 15).toInt)) := by
        rw [← BR_nu tb]
        unfold isNu
        have := mx_in e8
        rw [eb, z48, z57] at this
        exact this
      rcases k8 with ⟨rfl, k8⟩ | ⟨rfl, k8⟩
      · rw [if_pos rfl] at e
        refine stop ?_ e
        apply Classical.byContradiction
        intro ne
        exact k8 (h3 _ (Int.le_refl _) (by omega))
      · rw [if_neg (by decide)] at e
        have lt : (eI g 0 15).toInt < q := by
          apply Classical.byContradiction
          intro ne
          have : (eI g 0 15).toInt = q := by omega
          rw [this] at k8
          rcases h4 with h4 | h4
          · omega
          · exact h4 k8
        have a1 := fb_addI (x := eI g 0 15) (y := 1) (by omega) (by omega)
        have nb : 48 ≤ mB g (eI g 0 15).toInt ∧ mB g (eI g 0 15).toInt ≤ 57 := (BR_nu tb).mpr k8
        have bb : mB g (eI g 0 15).toInt = B (eI g 0 15).toInt := by unfold BR at tb; omega
        obtain ⟨m, hm⟩ : ∃ m : Nat, (q - (eI g 0 15).toInt).toNat = m + 1 := ⟨(q - (eI g 0 15).toInt).toNat - 1, by omega⟩
        have hm' : (q - ((eI g 0 15).toInt + 1)).toNat = m := by omega
        have on : ∀ (y : Int32), f_X9_next_299 (f_X9_next_232 n) g y = some g' → y.toInt = (if (eI g 0 18).toInt ≤ 99999 then 10 * (eI g 0 18).toInt + B (eI g 0 15).toInt - 48 else (eI g 0 18).toInt) → 0 ≤ y.toInt → y.toInt ≤ 1000000 → (eI g' 0 15).toInt = q ∧ Fr [(0, 0, 15), (0, 0, 18)] g g' ∧ (eI g' 0 18).toInt = nvM (eI g 0 18).toInt (seg B (eI g 0 15).toInt (q - (eI g 0 15).toInt).toNat) := by
          intro y e hy y0 y1
          unfold f_X9_next_299 at e
          have f : Fr [(0, 0, 15), (0, 0, 18)] g (sI (sI g 0 18 y) 0 15 (eI g 0 15 + 1)) := Fr_sI (by decide) (Fr_sI (by decide) (Fr_refl _ _))
          have ea : (eI (sI (sI g 0 18 y) 0 15 (eI g 0 15 + 1)) 0 15).toInt = (eI g 0 15).toInt + 1 := a1.trans (by omega)
          have et : (eI (sI (sI g 0 18 y) 0 15 (eI g 0 15 + 1)) 0 18).toInt = y.toInt := rfl
          obtain ⟨k1, k2, k3⟩ := ih _ g' e (MT_fr t f (by decide) (by decide)) (by omega) (by omega) h2 (fun j q1 q2 => h3 j (by omega) q2) h4 (by omega) (by omega)
          rw [ea, et] at k3
          refine ⟨k1, Fr_trans f k2, ?_⟩
          rw [k3, hm, hm', hy]
          rfl
        by_cases c9 : eI g 0 18 ≤ 99999
        · rw [if_pos c9] at e
          have d9 := gi_of_le c9
          obtain ⟨-, e⟩ := ob_if e
          have v1 := fb_mulJ (x := 10) (y := eI g 0 18) (k := 10) rfl (by omega) (by omega)
          have v2 := fb_addI (x := 10 * eI g 0 18) (y := eA g 0 2 ((eI g 0 15).toNatClampNeg)) (by omega) (by omega)
          have v3 := fb_subI (x := 10 * eI g 0 18 + eA g 0 2 ((eI g 0 15).toNatClampNeg)) (y := 48) (by omega) (by omega)
          refine on _ e ?_ (by omega) (by omega)
          rw [if_pos (by omega)]
          omega
        · rw [if_neg c9] at e
          have d9 := gi_of_nle c9
          refine on _ e ?_ h5 h6
          rw [if_neg (by omega)]
