/-! an answer is there, and it keeps Q -/
def ok {α : Type} (x : Option α) (Q : α → Prop) : Prop := ∃ a, x = some a ∧ Q a
theorem ok_some {α : Type} {a : α} {Q : α → Prop} (h : Q a) : ok (some a) Q := ⟨a, rfl, h⟩
theorem ok_if {α : Type} {c : Prop} [Decidable c] {x y : Option α} {Q : α → Prop} (h1 : c → ok x Q) (h2 : ¬ c → ok y Q) : ok (if c then x else y) Q := by
  by_cases hc : c
  · rw [if_pos hc]; exact h1 hc
  · rw [if_neg hc]; exact h2 hc
theorem ok_chk {α : Type} {c : Prop} [Decidable c] {x : Option α} {Q : α → Prop} (hc : c) (h : ok x Q) : ok (if c then x else none) Q := by rw [if_pos hc]; exact h
theorem ok_ob2 {α β γ : Type} {x : Option (α × β)} {g : α → β → Option γ} {P : α × β → Prop} {Q : γ → Prop} (h : ok x P) (k : ∀ a b, P (a, b) → ok (g a b) Q) : ok (ob2 x g) Q := by
  obtain ⟨z, e, hz⟩ := h
  subst e
  exact k z.1 z.2 hz
theorem ok_ob1 {α γ : Type} {x : Option α} {g : α → Option γ} {P : α → Prop} {Q : γ → Prop} (h : ok x P) (k : ∀ a, P a → ok (g a) Q) : ok (ob1 x g) Q := by
  obtain ⟨z, e, hz⟩ := h
  subst e
  exact k z hz
theorem ok_mono {α : Type} {x : Option α} {P Q : α → Prop} (h : ok x P) (k : ∀ a, P a → Q a) : ok x Q := by
  obtain ⟨z, e, hz⟩ := h
  exact ⟨z, e, k z hz⟩
theorem fb_rng (x : Int32) : -2147483648 ≤ x.toInt ∧ x.toInt < 2147483648 := by
  have h1 := Int32.le_toInt x
  have h2 := Int32.toInt_lt x
  omega
theorem fb_bmod {z : Int} (h1 : -2147483648 ≤ z) (h2 : z < 2147483648) : z.bmod (2 ^ 32) = z := by
  rw [Int.bmod_eq_of_le (by omega) (by omega)]
theorem fb_addI {x y : Int32} (h1 : -2147483648 ≤ x.toInt + y.toInt) (h2 : x.toInt + y.toInt < 2147483648) : (x + y).toInt = x.toInt + y.toInt := by
  rw [Int32.toInt_add, fb_bmod h1 h2]
theorem fb_subI {x y : Int32} (h1 : -2147483648 ≤ x.toInt - y.toInt) (h2 : x.toInt - y.toInt < 2147483648) : (x - y).toInt = x.toInt - y.toInt := by
  rw [Int32.toInt_sub, fb_bmod h1 h2]
theorem fb_mulK {x y : Int32} {k : Int} (e : y.toInt = k) (h1 : -2147483648 ≤ x.toInt * k) (h2 : x.toInt * k < 2147483648) : (x * y).toInt = x.toInt * k := by
  rw [Int32.toInt_mul, e, fb_bmod h1 h2]
theorem fb_mulJ {x y : Int32} {k : Int} (e : x.toInt = k) (h1 : -2147483648 ≤ k * y.toInt) (h2 : k * y.toInt < 2147483648) : (x * y).toInt = k * y.toInt := by
  rw [Int32.toInt_mul, e, fb_bmod h1 h2]
theorem fb_divK {x y : Int32} {k : Int} (e : y.toInt = k) (hk : 1 < k) : (0 ≤ x.toInt → 0 ≤ (x / y).toInt ∧ (x / y).toInt * k ≤ x.toInt ∧ x.toInt < (x / y).toInt * k + k) ∧ (x.toInt < 0 → (x / y).toInt ≤ 0 ∧ x.toInt ≤ (x / y).toInt * k ∧ (x / y).toInt * k - k < x.toInt) := by
  have hr := fb_rng x
  have hd : (x / y).toInt = x.toInt.tdiv k := by
    rw [Int32.toInt_div_of_ne_right _ _ (by intro h; rw [h] at e; have : (-1 : Int32).toInt = -1 := rfl; omega), e]
  rw [hd]
  refine ⟨fun h0 => ?_, fun h0 => ?_⟩
  · rw [Int.tdiv_eq_ediv_of_nonneg h0]
    have a1 := Int.mul_ediv_self_le (x := x.toInt) (k := k) (by omega)
    have a2 := Int.lt_mul_ediv_self_add (x := x.toInt) (k := k) (by omega)
    have a3 : 0 ≤ x.toInt / k := Int.ediv_nonneg h0 (by omega)
    rw [Int.mul_comm] at a1 a2
    exact ⟨a3, a1, by omega⟩
  · have h1 : x.toInt = -(-x.toInt) := by omega
    rw [h1, Int.neg_tdiv, Int.tdiv_eq_ediv_of_nonneg (by omega)]
    have a1 := Int.mul_ediv_self_le (x := -x.toInt) (k := k) (by omega)
    have a2 := Int.lt_mul_ediv_self_add (x := -x.toInt) (k := k) (by omega)
    have a3 : 0 ≤ (-x.toInt) / k := Int.ediv_nonneg (by omega) (by omega)
    rw [Int.mul_comm] at a1 a2
    rw [Int.neg_mul]
    generalize (-x.toInt) / k * k = z at *
    exact ⟨by omega, by omega, by omega⟩
theorem fb_or4 {x y : Int32} (h1 : 0 ≤ x.toInt) (h2 : x.toInt < 16) (h3 : 0 ≤ y.toInt) (h4 : y.toInt < 16) : 0 ≤ (x ||| y).toInt ∧ (x ||| y).toInt < 16 := by
  have hx : x = Int32.ofInt x.toInt := (Int32.ofInt_toInt x).symm
  have hy : y = Int32.ofInt y.toInt := (Int32.ofInt_toInt y).symm
  generalize x.toInt = a at *
  generalize y.toInt = b at *
  subst hx
  subst hy
  obtain ⟨m, rfl⟩ := Int.eq_ofNat_of_zero_le h1
  obtain ⟨n, rfl⟩ := Int.eq_ofNat_of_zero_le h3
  have hm : m < 16 := by omega
  have hn : n < 16 := by omega
  have key : ∀ m : Fin 16, ∀ n : Fin 16, 0 ≤ (Int32.ofInt (m.val : Nat) ||| Int32.ofInt (n.val : Nat)).toInt ∧ (Int32.ofInt (m.val : Nat) ||| Int32.ofInt (n.val : Nat)).toInt < 16 := by decide +kernel
  exact key ⟨m, hm⟩ ⟨n, hn⟩
theorem fb_itel {x y a b : Int32} : (x.toInt < y.toInt ∧ (if x < y then a else b).toInt = a.toInt) ∨ (y.toInt ≤ x.toInt ∧ (if x < y then a else b).toInt = b.toInt) := by
  by_cases h : x < y
  · rw [if_pos h]; exact Or.inl ⟨Int32.lt_iff_toInt_lt.mp h, rfl⟩
  · rw [if_neg h]; exact Or.inr ⟨gi_of_nlt h, rfl⟩
theorem fb_lgz {x : Int64} (h : ¬ lg_cmp x 0 = 0) : ¬ x = 0 := by
  intro e
  subst e
  exact h (by decide)

def FC (f : Nat → Int32) : Prop := ∀ g : Nat, g < 10 → (f (9 * g + 1)).toInt ≤ 99
def FS (f : Nat → Int32) : Prop := ∀ s : Nat, s < 20 → ∀ g : Nat, g < 10 → (f (94 * s + 9 * g + 1)).toInt ≤ 99
def IN (h : HS) : Prop := (0 ≤ (eI h 1 3).toInt ∧ (eI h 1 3).toInt ≤ 10) ∧ (0 ≤ (eI h 1 4).toInt ∧ (eI h 1 4).toInt ≤ 4) ∧ (0 ≤ (eI h 2 3).toInt ∧ (eI h 2 3).toInt ≤ 10) ∧ (0 ≤ (eI h 2 4).toInt ∧ (eI h 2 4).toInt ≤ 4) ∧ (0 ≤ (eI h 3 1).toInt ∧ (eI h 3 1).toInt ≤ 300) ∧ (0 ≤ (eI h 4 3).toInt ∧ (eI h 4 3).toInt ≤ 301) ∧ (0 ≤ (eI h 4 4).toInt) ∧ ((eI h 8 11).toInt ≤ 4) ∧ (0 ≤ (eI h 8 8).toInt ∧ (eI h 8 8).toInt ≤ 3) ∧ (0 ≤ (eI h 9 5).toInt ∧ (eI h 9 5).toInt ≤ 300) ∧ (0 ≤ (eI h 10 5).toInt ∧ (eI h 10 5).toInt ≤ 300) ∧ (0 ≤ (eI h 11 5).toInt ∧ (eI h 11 5).toInt ≤ 300) ∧ (0 ≤ (eI h 12 5).toInt ∧ (eI h 12 5).toInt ≤ 300)
def IC (h : HS) : Prop := IN h ∧ FC (eA h 1 0) ∧ FS (eA h 1 2) ∧ FC (eA h 2 0) ∧ FS (eA h 2 2)
def SC (h c : HS) : Prop := IC c ∧ eI c 1 3 = eI h 1 3 ∧ eI c 1 4 = eI h 1 4 ∧ eI c 2 3 = eI h 2 3 ∧ eI c 2 4 = eI h 2 4
theorem SC_refl {h : HS} (i : IC h) : SC h h := ⟨i, rfl, rfl, rfl, rfl⟩
theorem SC_trans {a b c : HS} (x : SC a b) (y : SC b c) : SC a c := ⟨y.1, y.2.1.trans x.2.1, y.2.2.1.trans x.2.2.1, y.2.2.2.1.trans x.2.2.2.1, y.2.2.2.2.trans x.2.2.2.2⟩
theorem IC_n {h : HS} (i : IC h) : (0 ≤ (eI h 1 3).toInt ∧ (eI h 1 3).toInt ≤ 10) ∧ (0 ≤ (eI h 1 4).toInt ∧ (eI h 1 4).toInt ≤ 4) ∧ (0 ≤ (eI h 2 3).toInt ∧ (eI h 2 3).toInt ≤ 10) ∧ (0 ≤ (eI h 2 4).toInt ∧ (eI h 2 4).toInt ≤ 4) ∧ (0 ≤ (eI h 3 1).toInt ∧ (eI h 3 1).toInt ≤ 300) ∧ (0 ≤ (eI h 4 3).toInt ∧ (eI h 4 3).toInt ≤ 301) ∧ (0 ≤ (eI h 4 4).toInt) ∧ ((eI h 8 11).toInt ≤ 4) ∧ (0 ≤ (eI h 8 8).toInt ∧ (eI h 8 8).toInt ≤ 3) ∧ (0 ≤ (eI h 9 5).toInt ∧ (eI h 9 5).toInt ≤ 300) ∧ (0 ≤ (eI h 10 5).toInt ∧ (eI h 10 5).toInt ≤ 300) ∧ (0 ≤ (eI h 11 5).toInt ∧ (eI h 11 5).toInt ≤ 300) ∧ (0 ≤ (eI h 12 5).toInt ∧ (eI h 12 5).toInt ≤ 300) := i.1
theorem st_3_1 {h c : HS} {x : Int32} (s : SC h c) (h1 : 0 ≤ x.toInt) (h2 : x.toInt ≤ 300) : SC h (sI c 3 1 x) := by
  obtain ⟨⟨⟨n0, n1, n2, n3, n4, n5, n6, n7, n8, n9, n10, n11, n12⟩, r⟩, e⟩ := s
  exact ⟨⟨⟨n0, n1, n2, n3, ⟨h1, h2⟩, n5, n6, n7, n8, n9, n10, n11, n12⟩, r⟩, e⟩
theorem st_4_3 {h c : HS} {x : Int32} (s : SC h c) (h1 : 0 ≤ x.toInt) (h2 : x.toInt ≤ 301) : SC h (sI c 4 3 x) := by
  obtain ⟨⟨⟨n0, n1, n2, n3, n4, n5, n6, n7, n8, n9, n10, n11, n12⟩, r⟩, e⟩ := s
  exact ⟨⟨⟨n0, n1, n2, n3, n4, ⟨h1, h2⟩, n6, n7, n8, n9, n10, n11, n12⟩, r⟩, e⟩
theorem st_4_4 {h c : HS} {x : Int32} (s : SC h c) (h1 : 0 ≤ x.toInt) : SC h (sI c 4 4 x) := by
  obtain ⟨⟨⟨n0, n1, n2, n3, n4, n5, n6, n7, n8, n9, n10, n11, n12⟩, r⟩, e⟩ := s
  exact ⟨⟨⟨n0, n1, n2, n3, n4, n5, h1, n7, n8, n9, n10, n11, n12⟩, r⟩, e⟩
theorem st_8_11 {h c : HS} {x : Int32} (s : SC h c) (h2 : x.toInt ≤ 4) : SC h (sI c 8 11 x) := by
  obtain ⟨⟨⟨n0, n1, n2, n3, n4, n5, n6, n7, n8, n9, n10, n11, n12⟩, r⟩, e⟩ := s
  exact ⟨⟨⟨n0, n1, n2, n3, n4, n5, n6, h2, n8, n9, n10, n11, n12⟩, r⟩, e⟩
theorem st_8_8 {h c : HS} {x : Int32} (s : SC h c) (h1 : 0 ≤ x.toInt) (h2 : x.toInt ≤ 3) : SC h (sI c 8 8 x) := by
  obtain ⟨⟨⟨n0, n1, n2, n3, n4, n5, n6, n7, n8, n9, n10, n11, n12⟩, r⟩, e⟩ := s
  exact ⟨⟨⟨n0, n1, n2, n3, n4, n5, n6, n7, ⟨h1, h2⟩, n9, n10, n11, n12⟩, r⟩, e⟩
theorem st_9_5 {h c : HS} {x : Int32} (s : SC h c) (h1 : 0 ≤ x.toInt) (h2 : x.toInt ≤ 300) : SC h (sI c 9 5 x) := by
  obtain ⟨⟨⟨n0, n1, n2, n3, n4, n5, n6, n7, n8, n9, n10, n11, n12⟩, r⟩, e⟩ := s
  exact ⟨⟨⟨n0, n1, n2, n3, n4, n5, n6, n7, n8, ⟨h1, h2⟩, n10, n11, n12⟩, r⟩, e⟩
theorem st_10_5 {h c : HS} {x : Int32} (s : SC h c) (h1 : 0 ≤ x.toInt) (h2 : x.toInt ≤ 300) : SC h (sI c 10 5 x) := by
  obtain ⟨⟨⟨n0, n1, n2, n3, n4, n5, n6, n7, n8, n9, n10, n11, n12⟩, r⟩, e⟩ := s
  exact ⟨⟨⟨n0, n1, n2, n3, n4, n5, n6, n7, n8, n9, ⟨h1, h2⟩, n11, n12⟩, r⟩, e⟩
theorem st_11_5 {h c : HS} {x : Int32} (s : SC h c) (h1 : 0 ≤ x.toInt) (h2 : x.toInt ≤ 300) : SC h (sI c 11 5 x) := by
  obtain ⟨⟨⟨n0, n1, n2, n3, n4, n5, n6, n7, n8, n9, n10, n11, n12⟩, r⟩, e⟩ := s
  exact ⟨⟨⟨n0, n1, n2, n3, n4, n5, n6, n7, n8, n9, n10, ⟨h1, h2⟩, n12⟩, r⟩, e⟩
theorem st_12_5 {h c : HS} {x : Int32} (s : SC h c) (h1 : 0 ≤ x.toInt) (h2 : x.toInt ≤ 300) : SC h (sI c 12 5 x) := by
  obtain ⟨⟨⟨n0, n1, n2, n3, n4, n5, n6, n7, n8, n9, n10, n11, n12⟩, r⟩, e⟩ := s
  exact ⟨⟨⟨n0, n1, n2, n3, n4, n5, n6, n7, n8, n9, n10, n11, ⟨h1, h2⟩⟩, r⟩, e⟩
theorem sa_1_0 {h c : HS} {x : Nat → Int32} (s : SC h c) (f : FC x) : SC h (sA c 1 0 x) := by
  obtain ⟨⟨n, r1, r2, r3, r4⟩, e⟩ := s
  exact ⟨⟨n, f, r2, r3, r4⟩, e⟩
theorem sa_1_2 {h c : HS} {x : Nat → Int32} (s : SC h c) (f : FS x) : SC h (sA c 1 2 x) := by
  obtain ⟨⟨n, r1, r2, r3, r4⟩, e⟩ := s
  exact ⟨⟨n, r1, f, r3, r4⟩, e⟩
