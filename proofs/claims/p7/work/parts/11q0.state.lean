/-! the state: the class's rows against the reference's one -/
theorem pr_inj {α β : Type} {a c : α} {b d : β} (h : (a, b) = (c, d)) : a = c ∧ d = b := ⟨congrArg Prod.fst h, (congrArg Prod.snd h).symm⟩
def gc (A : Nat → Int32) (b q k : Nat) : Int32 := A (b + (9 * q + k))
def nxr (j n : Nat) : Nat := if j + 1 < n then 130 + 93 * (j + 1) else 30
def STP (s A : Nat → Int32) (a j n : Nat) : Prop := (0 ≤ (s (a + 90)).toInt ∧ (s (a + 90)).toInt ≤ (A 1).toInt) ∧ (∀ i : Nat, (i : Int) < 9 * (s (a + 90)).toInt → s (a + i) = A (130 + 93 * j + i)) ∧ (∀ i : Nat, 9 * (s (a + 90)).toInt ≤ (i : Int) → (i : Int) < 9 * (A 1).toInt → A (130 + 93 * j + i) = A (nxr j n + i)) ∧ s (a + 91) = A (130 + 93 * j + 90) ∧ s (a + 92) = A (130 + 93 * j + 91) ∧ s (a + 93) = A (130 + 93 * j + 92)
def STEPS (s A : Nat → Int32) (f n : Nat) : Prop := ∀ j : Nat, j < n → STP s A ((f + j) % 20 * 94) j n
def FULL (s A : Nat → Int32) (f n : Nat) : Prop := 1 ≤ n ∧ s ((f + (n - 1)) % 20 * 94 + 90) = A 1
def SCA (h : HS) (o : Nat) (A : Nat → Int32) : Prop := eI h o 3 = A 1 ∧ eI h o 4 = A 0 ∧ eI h o 5 = A 120 ∧ eI h o 6 = A 2 ∧ eI h o 7 = A 121 ∧ eI h o 8 = A 122 ∧ eI h o 9 = A 3 ∧ eI h o 10 = A 4 ∧ eI h o 12 = A 5
def GEE (s A : Nat → Int32) : Prop := ∀ i : Nat, (i : Int) < 9 * (A 1).toInt → s i = A (30 + i)
def MKT (s A : Nat → Int32) : Prop := ∀ i : Nat, (i : Int) < 3 * (A 0).toInt → s i = A (10 + i)
def SRel (h : HS) (o : Nat) (A : Nat → Int32) : Prop := SCA h o A ∧ GEE (eA h o 0) A ∧ MKT (eA h o 1) A ∧ (0 ≤ (eI h o 11).toInt ∧ (eI h o 11).toInt < 20) ∧ STEPS (eA h o 2) A (eI h o 11).toInt.toNat (A 5).toInt.toNat
def SFul (h : HS) (A : Nat → Int32) : Prop := FULL (eA h 1 2) A (eI h 1 11).toInt.toNat (A 5).toInt.toNat
/-- what a goose's cells may hold -/
def GR (A : Nat → Int32) (b q : Nat) (m : Int) : Prop := (0 ≤ (gc A b q 0).toInt ∧ (gc A b q 0).toInt ≤ 20) ∧ (0 ≤ (gc A b q 1).toInt ∧ (gc A b q 1).toInt ≤ 99) ∧ (((gc A b q 2).toInt = -1 ∧ (gc A b q 3).toInt = -1) ∨ (0 ≤ (gc A b q 2).toInt ∧ (gc A b q 2).toInt ≤ 5 ∧ 0 ≤ (gc A b q 3).toInt ∧ (gc A b q 3).toInt ≤ 2)) ∧ (0 ≤ (gc A b q 4).toInt ∧ (gc A b q 4).toInt ≤ 5) ∧ (-1 ≤ (gc A b q 5).toInt ∧ (gc A b q 5).toInt ≤ 3) ∧ (1 ≤ (gc A b q 4).toInt → (gc A b q 4).toInt ≤ 4 → 0 ≤ (gc A b q 5).toInt ∧ (gc A b q 5).toInt < m) ∧ (-1 ≤ (gc A b q 6).toInt ∧ (gc A b q 6).toInt ≤ 1008) ∧ (-1 ≤ (gc A b q 7).toInt ∧ (gc A b q 7).toInt ≤ 999) ∧ (2 ≤ (gc A b q 4).toInt → 0 ≤ (gc A b q 7).toInt) ∧ (0 ≤ (gc A b q 8).toInt ∧ (gc A b q 8).toInt ≤ 1)
def RW (A : Nat → Int32) (b : Nat) : Prop := 0 ≤ (A (b + 90)).toInt ∧ (0 ≤ (A (b + 91)).toInt ∧ (A (b + 91)).toInt ≤ 999) ∧ ∀ q : Nat, (q : Int) < (A 1).toInt → GR A b q (A 0).toInt
def MR (A : Nat → Int32) : Prop := ∀ m : Nat, (m : Int) < (A 0).toInt → (1 ≤ (A (10 + 3 * m)).toInt ∧ (A (10 + 3 * m)).toInt ≤ 9) ∧ (0 ≤ (A (10 + (3 * m + 1))).toInt ∧ (A (10 + (3 * m + 1))).toInt ≤ 9) ∧ (0 ≤ (A (10 + (3 * m + 2))).toInt ∧ (A (10 + (3 * m + 2))).toInt ≤ 9)
def RN (A : Nat → Int32) : Prop := (0 ≤ (A 1).toInt ∧ (A 1).toInt ≤ 10) ∧ (0 ≤ (A 0).toInt ∧ (A 0).toInt ≤ 4) ∧ (0 ≤ (A 5).toInt ∧ (A 5).toInt ≤ 20) ∧ (0 ≤ (A 3).toInt ∧ (A 3).toInt ≤ 4) ∧ (-1 ≤ (A 4).toInt ∧ (A 4).toInt < (A 3).toInt) ∧ (0 ≤ (A 2).toInt ∧ (A 2).toInt ≤ 99)
def RG (A : Nat → Int32) : Prop := RN A ∧ MR A ∧ RW A 30 ∧ ∀ j : Nat, (j : Int) < (A 5).toInt → RW A (130 + 93 * j)
/-! how they pass from one row to the next -/
theorem GR_eq {A B : Nat → Int32} {b c q : Nat} {m n : Int} (x : GR A b q m) (e : ∀ k : Nat, k < 9 → gc B c q k = gc A b q k) (l : m ≤ n) : GR B c q n := by
  unfold GR at *
  rw [e 0 (by decide), e 1 (by decide), e 2 (by decide), e 3 (by decide), e 4 (by decide), e 5 (by decide), e 6 (by decide), e 7 (by decide), e 8 (by decide)]
  omega
theorem RW_eq {A B : Nat → Int32} {b c : Nat} (x : RW A b) (e : ∀ k : Nat, k < 93 → B (c + k) = A (b + k)) (e1 : B 1 = A 1) (n1 : (A 1).toInt ≤ 10) (l : (A 0).toInt ≤ (B 0).toInt) : RW B c := by
  obtain ⟨x1, x2, x3⟩ := x
  refine ⟨by rw [e 90 (by decide)]; exact x1, by rw [e 91 (by decide)]; exact x2, fun q hq => ?_⟩
  rw [e1] at hq
  exact GR_eq (x3 q hq) (fun k hk => e (9 * q + k) (by omega)) l
theorem STEPS_congr {s A B : Nat → Int32} {f n : Nat} (x : STEPS s A f n) (a1 : B 1 = A 1) (hi : ∀ k : Nat, 130 ≤ k → k < 130 + 93 * n → B k = A k) (n1 : (A 1).toInt ≤ 10) (lo : FULL s A f n ∨ ∀ k : Nat, k < 90 → B (30 + k) = A (30 + k)) : STEPS s B f n := by
  intro j hj
  obtain ⟨⟨x1, x2⟩, x3, x4, x5, x6, x7⟩ := x j hj
  have E : ∀ i : Nat, i < 93 → B (130 + 93 * j + i) = A (130 + 93 * j + i) := fun i hi2 => hi _ (by omega) (by omega)
  refine ⟨⟨x1, by rw [a1]; exact x2⟩, fun i hi2 => ?_, fun i q1 q2 => ?_, by rw [x5, E 90 (by decide)], by rw [x6, E 91 (by decide)], by rw [x7, E 92 (by decide)]⟩
  · rw [E i (by omega)]; exact x3 i hi2
  · rw [a1] at q2
    rw [E i (by omega), x4 i q1 q2]
    unfold nxr
    by_cases c : j + 1 < n
    · rw [if_pos c]; exact (hi _ (by omega) (by omega)).symm
    · rw [if_neg c]
      rcases lo with lo | lo
      · have e : s ((f + j) % 20 * 94 + 90) = A 1 := by
          have := lo.2
          rw [show n - 1 = j by omega] at this
          exact this
        rw [e] at q1
        omega
      · exact (lo i (by omega)).symm
theorem GEE_upd {s A : Nat → Int32} {a : Nat} {v : Int32} (x : GEE s A) (n : 30 + a ≠ 1) : GEE (upd s a v) (upd A (30 + a) v) := by
  intro i hi
  have e1 : upd A (30 + a) v 1 = A 1 := by unfold upd; rw [if_neg (by omega)]
  rw [e1] at hi
  unfold upd
  by_cases c : i = a
  · rw [if_pos c, if_pos (by omega)]
  · rw [if_neg c, if_neg (by omega)]; exact x i hi
theorem md20 {x : Int32} (h : 0 ≤ x.toInt) : (x - x / 20 * 20).toInt = ((x.toInt.toNat % 20 : Nat) : Int) := by
  have r := fb_rng x
  have q := (fb_divK (x := x) (y := 20) (k := 20) rfl (by decide)).1 h
  have m1 : (x / 20 * 20).toInt = (x / 20).toInt * 20 := fb_mulK rfl (by omega) (by omega)
  have m2 : (x - x / 20 * 20).toInt = x.toInt - (x / 20 * 20).toInt := fb_subI (by omega) (by omega)
  omega
