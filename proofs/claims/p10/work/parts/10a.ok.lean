/-! an answer is there, and it keeps Q -/
def ok {α : Type} (x : Option α) (Q : α → Prop) : Prop := ∃ a, x = some a ∧ Q a
theorem ok_some {α : Type} {a : α} {Q : α → Prop} (h : Q a) : ok (some a) Q := ⟨a, rfl, h⟩
theorem ok_if {α : Type} {c : Prop} [Decidable c] {x y : Option α} {Q : α → Prop} (h1 : c → ok x Q) (h2 : ¬ c → ok y Q) : ok (if c then x else y) Q := by
  by_cases hc : c
  · rw [if_pos hc]; exact h1 hc
  · rw [if_neg hc]; exact h2 hc
theorem ok_chk {α : Type} {c : Prop} [Decidable c] {x : Option α} {Q : α → Prop} (hc : c) (h : ok x Q) : ok (if c then x else none) Q := by rw [if_pos hc]; exact h
theorem ok_ob2 {α β γ : Type} {x : Option (α × β)} {g : α → β → Option γ} {P : α × β → Prop} {Q : γ → Prop} (h : ok x P) (k : ∀ a b, P (a, b) → ok (g a b) Q) : ok (ob2 x g) Q := by
  obtain ⟨z, e, hz⟩ := h
  subst e
  exact k z.1 z.2 hz
theorem ok_ob1 {α γ : Type} {x : Option α} {g : α → Option γ} {P : α → Prop} {Q : γ → Prop} (h : ok x P) (k : ∀ a, P a → ok (g a) Q) : ok (ob1 x g) Q := by
  obtain ⟨z, e, hz⟩ := h
  subst e
  exact k z hz
theorem ok_mono {α : Type} {x : Option α} {P Q : α → Prop} (h : ok x P) (k : ∀ a, P a → Q a) : ok x Q := by
  obtain ⟨z, e, hz⟩ := h
  exact ⟨z, e, k z hz⟩
theorem fb_rng (x : Int32) : -2147483648 ≤ x.toInt ∧ x.toInt < 2147483648 := by
  have h1 := Int32.le_toInt x
  have h2 := Int32.toInt_lt x
  omega
theorem fb_bmod {z : Int} (h1 : -2147483648 ≤ z) (h2 : z < 2147483648) : z.bmod (2 ^ 32) = z := by
  rw [Int.bmod_eq_of_le (by omega) (by omega)]
theorem fb_addI {x y : Int32} (h1 : -2147483648 ≤ x.toInt + y.toInt) (h2 : x.toInt + y.toInt < 2147483648) : (x + y).toInt = x.toInt + y.toInt := by
  rw [Int32.toInt_add, fb_bmod h1 h2]
theorem fb_subI {x y : Int32} (h1 : -2147483648 ≤ x.toInt - y.toInt) (h2 : x.toInt - y.toInt < 2147483648) : (x - y).toInt = x.toInt - y.toInt := by
  rw [Int32.toInt_sub, fb_bmod h1 h2]
theorem fb_mulK {x y : Int32} {k : Int} (e : y.toInt = k) (h1 : -2147483648 ≤ x.toInt * k) (h2 : x.toInt * k < 2147483648) : (x * y).toInt = x.toInt * k := by
  rw [Int32.toInt_mul, e, fb_bmod h1 h2]
theorem fb_mulJ {x y : Int32} {k : Int} (e : x.toInt = k) (h1 : -2147483648 ≤ k * y.toInt) (h2 : k * y.toInt < 2147483648) : (x * y).toInt = k * y.toInt := by
  rw [Int32.toInt_mul, e, fb_bmod h1 h2]
theorem fb_divK {x y : Int32} {k : Int} (e : y.toInt = k) (hk : 1 < k) : (0 ≤ x.toInt → 0 ≤ (x / y).toInt ∧ (x / y).toInt * k ≤ x.toInt ∧ x.toInt < (x / y).toInt * k + k) ∧ (x.toInt < 0 → (x / y).toInt ≤ 0 ∧ x.toInt ≤ (x / y).toInt * k ∧ (x / y).toInt * k - k < x.toInt) := by
  have hr := fb_rng x
  have hd : (x / y).toInt = x.toInt.tdiv k := by
    rw [Int32.toInt_div_of_ne_right _ _ (by intro h; rw [h] at e; have : (-1 : Int32).toInt = -1 := rfl; omega), e]
  rw [hd]
  refine ⟨fun h0 => ?_, fun h0 => ?_⟩
  · rw [Int.tdiv_eq_ediv_of_nonneg h0]
    have a1 := Int.mul_ediv_self_le (x := x.toInt) (k := k) (by omega)
    have a2 := Int.lt_mul_ediv_self_add (x := x.toInt) (k := k) (by omega)
    have a3 : 0 ≤ x.toInt / k := Int.ediv_nonneg h0 (by omega)
    rw [Int.mul_comm] at a1 a2
    exact ⟨a3, a1, by omega⟩
  · have h1 : x.toInt = -(-x.toInt) := by omega
    rw [h1, Int.neg_tdiv, Int.tdiv_eq_ediv_of_nonneg (by omega)]
    have a1 := Int.mul_ediv_self_le (x := -x.toInt) (k := k) (by omega)
    have a2 := Int.lt_mul_ediv_self_add (x := -x.toInt) (k := k) (by omega)
    have a3 : 0 ≤ (-x.toInt) / k := Int.ediv_nonneg (by omega) (by omega)
    rw [Int.mul_comm] at a1 a2
    rw [Int.neg_mul]
    generalize (-x.toInt) / k * k = z at *
    exact ⟨by omega, by omega, by omega⟩
theorem fb_or4 {x y : Int32} (h1 : 0 ≤ x.toInt) (h2 : x.toInt < 16) (h3 : 0 ≤ y.toInt) (h4 : y.toInt < 16) : 0 ≤ (x ||| y).toInt ∧ (x ||| y).toInt < 16 := by
  have hx : x = Int32.ofInt x.toInt := (Int32.ofInt_toInt x).symm
  have hy : y = Int32.ofInt y.toInt := (Int32.ofInt_toInt y).symm
  generalize x.toInt = a at *
  generalize y.toInt = b at *
  subst hx
  subst hy
  obtain ⟨m, rfl⟩ := Int.eq_ofNat_of_zero_le h1
  obtain ⟨n, rfl⟩ := Int.eq_ofNat_of_zero_le h3
  have hm : m < 16 := by omega
  have hn : n < 16 := by omega
  have key : ∀ m : Fin 16, ∀ n : Fin 16, 0 ≤ (Int32.ofInt (m.val : Nat) ||| Int32.ofInt (n.val : Nat)).toInt ∧ (Int32.ofInt (m.val : Nat) ||| Int32.ofInt (n.val : Nat)).toInt < 16 := by decide +kernel
  exact key ⟨m, hm⟩ ⟨n, hn⟩
theorem fb_itel {x y a b : Int32} : (x.toInt < y.toInt ∧ (if x < y then a else b).toInt = a.toInt) ∨ (y.toInt ≤ x.toInt ∧ (if x < y then a else b).toInt = b.toInt) := by
  by_cases h : x < y
  · rw [if_pos h]; exact Or.inl ⟨Int32.lt_iff_toInt_lt.mp h, rfl⟩
  · rw [if_neg h]; exact Or.inr ⟨gi_of_nlt h, rfl⟩
theorem fb_lgz {x : Int64} (h : ¬ lg_cmp x 0 = 0) : ¬ x = 0 := by
  intro e
  subst e
  exact h (by decide)

def FC (f : Nat → Int32) : Prop := ∀ g : Nat, g < 10 → (f (9 * g + 1)).toInt ≤ 99
def FS (f : Nat → Int32) : Prop := ∀ s : Nat, s < 20 → ∀ g : Nat, g < 10 → (f (94 * s + 9 * g + 1)).toInt ≤ 99
def IN (h : HS) : Prop := (0 ≤ (eI h 1 3).toInt ∧ (eI h 1 3).toInt ≤ 10) ∧ (0 ≤ (eI h 1 4).toInt ∧ (eI h 1 4).toInt ≤ 4) ∧ (0 ≤ (eI h 2 3).toInt ∧ (eI h 2 3).toInt ≤ 10) ∧ (0 ≤ (eI h 2 4).toInt ∧ (eI h 2 4).toInt ≤ 4) ∧ (0 ≤ (eI h 3 1).toInt ∧ (eI h 3 1).toInt ≤ 300) ∧ (0 ≤ (eI h 4 3).toInt ∧ (eI h 4 3).toInt ≤ 301) ∧ (0 ≤ (eI h 4 4).toInt) ∧ ((eI h 8 11).toInt ≤ 4) ∧ (0 ≤ (eI h 8 8).toInt ∧ (eI h 8 8).toInt ≤ 3) ∧ (0 ≤ (eI h 9 5).toInt ∧ (eI h 9 5).toInt ≤ 300) ∧ (0 ≤ (eI h 10 5).toInt ∧ (eI h 10 5).toInt ≤ 300) ∧ (0 ≤ (eI h 11 5).toInt ∧ (eI h 11 5).toInt ≤ 300) ∧ (0 ≤ (eI h 12 5).toInt ∧ (eI h 12 5).toInt ≤ 300)
def IC (h : HS) : Prop := IN h ∧ FC (eA h 1 0) ∧ FS (eA h 1 2) ∧ FC (eA h 2 0) ∧ FS (eA h 2 2)
def SC (h c : HS) : Prop := IC c ∧ eI c 1 3 = eI h 1 3 ∧ eI c 1 4 = eI h 1 4 ∧ eI c 2 3 = eI h 2 3 ∧ eI c 2 4 = eI h 2 4
theorem SC_refl {h : HS} (i : IC h) : SC h h := ⟨i, rfl, rfl, rfl, rfl⟩
theorem SC_trans {a b c : HS} (x : SC a b) (y : SC b c) : SC a c := ⟨y.1, y.2.1.trans x.2.1, y.2.2.1.trans x.2.2.1, y.2.2.2.1.trans x.2.2.2.1, y.2.2.2.2.trans x.2.2.2.2⟩
theorem IC_n {h : HS} (i : IC h) : (0 ≤ (eI h 1 3).toInt ∧ (eI h 1 3).toInt ≤ 10) ∧ (0 ≤ (eI h 1 4).toInt ∧ (eI h 1 4).toInt ≤ 4) ∧ (0 ≤ (eI h 2 3).toInt ∧ (eI h 2 3).toInt ≤ 10) ∧ (0 ≤ (eI h 2 4).toInt ∧ (eI h 2 4).toInt ≤ 4) ∧ (0 ≤ (eI h 3 1).toInt ∧ (eI h 3 1).toInt ≤ 300) ∧ (0 ≤ (eI h 4 3).toInt ∧ (eI h 4 3).toInt ≤ 301) ∧ (0 ≤ (eI h 4 4).toInt) ∧ ((eI h 8 11).toInt ≤ 4) ∧ (0 ≤ (eI h 8 8).toInt ∧ (eI h 8 8).toInt ≤ 3) ∧ (0 ≤ (eI h 9 5).toInt ∧ (eI h 9 5).toInt ≤ 300) ∧ (0 ≤ (eI h 10 5).toInt ∧ (eI h 10 5).toInt ≤ 300) ∧ (0 ≤ (eI h 11 5).toInt ∧ (eI h 11 5).toInt ≤ 300) ∧ (0 ≤ (eI h 12 5).toInt ∧ (eI h 12 5).toInt ≤ 300) := i.1
theorem st_3_1 {h c : HS} {x : Int32} (s : SC h c) (h1 : 0 ≤ x.toInt) (h2 : x.toInt ≤ 300) : SC h (sI c 3 1 x) := by
  obtain ⟨⟨⟨n0, n1, n2, n3, n4, n5, n6, n7, n8, n9, n10, n11, n12⟩, r⟩, e⟩ := s
  exact ⟨⟨⟨n0, n1, n2, n3, ⟨h1, h2⟩, n5, n6, n7, n8, n9, n10, n11, n12⟩, r⟩, e⟩
theorem st_4_3 {h c : HS} {x : Int32} (s : SC h c) (h1 : 0 ≤ x.toInt) (h2 : x.toInt ≤ 301) : SC h (sI c 4 3 x) := by
  obtain ⟨⟨⟨n0, n1, n2, n3, n4, n5, n6, n7, n8, n9, n10, n11, n12⟩, r⟩, e⟩ := s
  exact ⟨⟨⟨n0, n1, n2, n3, n4, ⟨h1, h2⟩, n6, n7, n8, n9, n10, n11, n12⟩, r⟩, e⟩
theorem st_4_4 {h c : HS} {x : Int32} (s : SC h c) (h1 : 0 ≤ x.toInt) : SC h (sI c 4 4 x) := by
  obtain ⟨⟨⟨n0, n1, n2, n3, n4, n5, n6, n7, n8, n9, n10, n11, n12⟩, r⟩, e⟩ := s
  exact ⟨⟨⟨n0, n1, n2, n3, n4, n5, h1, n7, n8, n9, n10, n11, n12⟩, r⟩, e⟩
theorem st_8_11 {h c : HS} {x : Int32} (s : SC h c) (h2 : x.toInt ≤ 4) : SC h (sI c 8 11 x) := by
  obtain ⟨⟨⟨n0, n1, n2, n3, n4, n5, n6, n7, n8, n9, n10, n11, n12⟩, r⟩, e⟩ := s
  exact ⟨⟨⟨n0, n1, n2, n3, n4, n5, n6, h2, n8, n9, n10, n11, n12⟩, r⟩, e⟩
theorem st_8_8 {h c : HS} {x : Int32} (s : SC h c) (h1 : 0 ≤ x.toInt) (h2 : x.toInt ≤ 3) : SC h (sI c 8 8 x) := by
  obtain ⟨⟨⟨n0, n1, n2, n3, n4, n5, n6, n7, n8, n9, n10, n11, n12⟩, r⟩, e⟩ := s
  exact ⟨⟨⟨n0, n1, n2, n3, n4, n5, n6, n7, ⟨h1, h2⟩, n9, n10, n11, n12⟩, r⟩, e⟩
theorem st_9_5 {h c : HS} {x : Int32} (s : SC h c) (h1 : 0 ≤ x.toInt) (h2 : x.toInt ≤ 300) : SC h (sI c 9 5 x) := by
  obtain ⟨⟨⟨n0, n1, n2, n3, n4, n5, n6, n7, n8, n9, n10, n11, n12⟩, r⟩, e⟩ := s
  exact ⟨⟨⟨n0, n1, n2, n3, n4, n5, n6, n7, n8, ⟨h1, h2⟩, n10, n11, n12⟩, r⟩, e⟩
theorem st_10_5 {h c : HS} {x : Int32} (s : SC h c) (h1 : 0 ≤ x.toInt) (h2 : x.toInt ≤ 300) : SC h (sI c 10 5 x) := by
  obtain ⟨⟨⟨n0, n1, n2, n3, n4, n5, n6, n7, n8, n9, n10, n11, n12⟩, r⟩, e⟩ := s
  exact ⟨⟨⟨n0, n1, n2, n3, n4, n5, n6, n7, n8, n9, ⟨h1, h2⟩, n11, n12⟩, r⟩, e⟩
theorem st_11_5 {h c : HS} {x : Int32} (s : SC h c) (h1 : 0 ≤ x.toInt) (h2 : x.toInt ≤ 300) : SC h (sI c 11 5 x) := by
  obtain ⟨⟨⟨n0, n1, n2, n3, n4, n5, n6, n7, n8, n9, n10, n11, n12⟩, r⟩, e⟩ := s
  exact ⟨⟨⟨n0, n1, n2, n3, n4, n5, n6, n7, n8, n9, n10, ⟨h1, h2⟩, n12⟩, r⟩, e⟩
theorem st_12_5 {h c : HS} {x : Int32} (s : SC h c) (h1 : 0 ≤ x.toInt) (h2 : x.toInt ≤ 300) : SC h (sI c 12 5 x) := by
  obtain ⟨⟨⟨n0, n1, n2, n3, n4, n5, n6, n7, n8, n9, n10, n11, n12⟩, r⟩, e⟩ := s
  exact ⟨⟨⟨n0, n1, n2, n3, n4, n5, n6, n7, n8, n9, n10, n11, ⟨h1, h2⟩⟩, r⟩, e⟩
theorem sa_1_0 {h c : HS} {x : Nat → Int32} (s : SC h c) (f : FC x) : SC h (sA c 1 0 x) := by
  obtain ⟨⟨n, r1, r2, r3, r4⟩, e⟩ := s
  exact ⟨⟨n, f, r2, r3, r4⟩, e⟩
theorem sa_1_2 {h c : HS} {x : Nat → Int32} (s : SC h c) (f : FS x) : SC h (sA c 1 2 x) := by
  obtain ⟨⟨n, r1, r2, r3, r4⟩, e⟩ := s
  exact ⟨⟨n, r1, f, r3, r4⟩, e⟩
theorem u_X4_hasGoose (h : HS) (p1 : Int32) (hI : IC h) : ok (f_X4_hasGoose h p1) (fun a => a.2 = h ∧ (¬ a.1 = 0 → 0 ≤ p1.toInt ∧ p1.toInt < 10)) := by
  unfold f_X4_hasGoose
  have neg : ok (f_X4_hasGoose_22 h) (fun a => a.2 = h ∧ (¬ a.1 = 0 → 0 ≤ p1.toInt ∧ p1.toInt < 10)) := by
    unfold f_X4_hasGoose_22
    exact ok_chk (Or.inl rfl) (ok_some ⟨rfl, fun e => absurd rfl e⟩)
  refine ok_if (fun c1 => neg) (fun c1 => ?_)
  refine ok_if (fun c2 => neg) (fun c2 => ?_)
  refine ok_if (fun c3 => neg) (fun c3 => ?_)
  have d1 := gi_of_nlt c1; have d3 := gi_of_nle c3
  have z0 : (0 : Int32).toInt = 0 := rfl; have z10 : (10 : Int32).toInt = 10 := rfl
  exact ok_chk (Or.inr rfl) (ok_some ⟨rfl, fun _ => by omega⟩)
theorem u_X4_hasMarket (h : HS) (p1 : Int32) (hI : IC h) : ok (f_X4_hasMarket h p1) (fun a => a.2 = h ∧ (a.1 = 0 ∨ a.1 = 1)) := by
  unfold f_X4_hasMarket
  refine ok_if (fun c1 => ?_) (fun c1 => ?_)
  · unfold f_X4_hasMarket_21
    unfold f_X4_hasMarket_22
    refine ok_chk (Or.inl rfl) ?_
    exact ok_some ⟨rfl, (Or.inl rfl)⟩
  · refine ok_if (fun c3 => ?_) (fun c3 => ?_)
    · unfold f_X4_hasMarket_21
      unfold f_X4_hasMarket_22
      refine ok_chk (Or.inl rfl) ?_
      exact ok_some ⟨rfl, (Or.inl rfl)⟩
    · refine ok_if (fun c5 => ?_) (fun c5 => ?_)
      · unfold f_X4_hasMarket_21
        unfold f_X4_hasMarket_22
        refine ok_chk (Or.inl rfl) ?_
        exact ok_some ⟨rfl, (Or.inl rfl)⟩
      · unfold f_X4_hasMarket_22
        refine ok_chk (Or.inr rfl) ?_
        exact ok_some ⟨rfl, (Or.inr rfl)⟩
theorem u_X4_ofGoose (h : HS) (p1 p2 : Int32) (hI : IC h) : ok (f_X4_ofGoose h p1 p2) (fun a => a.2 = h ∧ (p2 = 1 → a.1.toInt ≤ 99)) := by
  have neg : ok (f_X4_ofGoose_28 h) (fun a => a.2 = h ∧ (p2 = 1 → a.1.toInt ≤ 99)) := by
    unfold f_X4_ofGoose_28
    exact ok_some ⟨rfl, fun _ => (by decide : (-1 : Int32).toInt ≤ 99)⟩
  unfold f_X4_ofGoose
  refine ok_if (fun c1 => neg) (fun c1 => ?_)
  refine ok_if (fun c2 => neg) (fun c2 => ?_)
  refine ok_if (fun c3 => neg) (fun c3 => ?_)
  refine ok_if (fun c4 => neg) (fun c4 => ?_)
  refine ok_if (fun c5 => ?_) (fun c5 => neg)
  have d1 := gi_of_nlt c1; have d3 := gi_of_nle c3; have d4 := gi_of_nlt c4; have d5 := gi_of_lt c5
  have z0 : (0 : Int32).toInt = 0 := rfl; have z9 : (9 : Int32).toInt = 9 := rfl; have z10 : (10 : Int32).toInt = 10 := rfl
  have e1 := fb_mulK (x := p1) (y := 9) (k := 9) rfl (by omega) (by omega)
  have e2 := fb_addI (x := (p1 * 9)) (y := p2) (by omega) (by omega)
  refine ok_chk (by omega) (ok_some ⟨rfl, fun e => ?_⟩)
  subst e
  have z1 : (1 : Int32).toInt = 1 := rfl
  have := hI.2.1 p1.toInt.toNat (by omega)
  have e3 : (p1 * 9 + 1).toNatClampNeg = 9 * p1.toInt.toNat + 1 := by rw [Int32.toNatClampNeg]; omega
  show (eA h 1 0 ((p1 * 9 + 1).toNatClampNeg)).toInt ≤ 99
  rw [e3]; exact this
theorem FC_upd {f : Nat → Int32} (hf : FC f) (i : Nat) (v : Int32) (hv : i % 9 = 1 → v.toInt ≤ 99) : FC (upd f i v) := by
  intro g hg
  unfold upd
  by_cases e : 9 * g + 1 = i
  · rw [if_pos e]; exact hv (by omega)
  · rw [if_neg e]; exact hf g hg
theorem u_X4_setGoose (h : HS) (p1 p2 p3 : Int32) (hI : IC h) (qv : p2 = 1 → p3.toInt ≤ 99) : ok (f_X4_setGoose h p1 p2 p3) (fun a => SC h a ∧ True) := by
  unfold f_X4_setGoose
  refine ok_ob2 (u_X4_hasGoose h p1 hI) (fun r1 h1 k1 => ?_)
  have e1 : h = h1 := k1.1.symm
  subst e1
  refine ok_if (fun c2 => ok_some ⟨SC_refl hI, trivial⟩) (fun c2 => ?_)
  refine ok_if (fun c3 => ok_some ⟨SC_refl hI, trivial⟩) (fun c3 => ?_)
  refine ok_if (fun c4 => ok_some ⟨SC_refl hI, trivial⟩) (fun c4 => ?_)
  have d3 := gi_of_nlt c3; have d4 := gi_of_nle c4
  have hg := k1.2 c2
  have z0 : (0 : Int32).toInt = 0 := rfl; have z9 : (9 : Int32).toInt = 9 := rfl
  have e1 := fb_mulK (x := p1) (y := 9) (k := 9) rfl (by omega) (by omega)
  have e2 := fb_addI (x := (p1 * 9)) (y := p2) (by omega) (by omega)
  refine ok_chk (by omega) ?_
  refine ok_some ⟨sa_1_0 (SC_refl hI) (FC_upd hI.2.1 _ _ (fun hm => qv ?_)), trivial⟩
  have e3 : (p1 * 9 + p2).toNatClampNeg = (p1.toInt * 9 + p2.toInt).toNat := by rw [Int32.toNatClampNeg]; omega
  rw [e3] at hm
  have : p2.toInt = 1 := by omega
  exact Int32.toInt_inj.mp (this.trans (by decide))
theorem u_X4_ofMarket (h : HS) (p1 : Int32) (p2 : Int32) (hI : IC h) : ok (f_X4_ofMarket h p1 p2) (fun a => a.2 = h ∧ True) := by
  unfold f_X4_ofMarket
  refine ok_if (fun c1 => ?_) (fun c1 => ?_)
  · unfold f_X4_ofMarket_26
    exact ok_some ⟨rfl, trivial⟩
  · refine ok_if (fun c2 => ?_) (fun c2 => ?_)
    · unfold f_X4_ofMarket_26
      exact ok_some ⟨rfl, trivial⟩
    · refine ok_if (fun c3 => ?_) (fun c3 => ?_)
      · unfold f_X4_ofMarket_26
        exact ok_some ⟨rfl, trivial⟩
      · refine ok_if (fun c4 => ?_) (fun c4 => ?_)
        · unfold f_X4_ofMarket_26
          exact ok_some ⟨rfl, trivial⟩
        · refine ok_if (fun c5 => ?_) (fun c5 => ?_)
          · refine ok_chk (by have := IC_n (SC_refl hI).1; have := gi_of_nlt c1; have := gi_of_nle c2; have := gi_of_nle c3; have := gi_of_nlt c4; have := gi_of_lt c5; have : (0 : Int32).toInt = 0 := rfl; have : (3 : Int32).toInt = 3 := rfl; have : (4 : Int32).toInt = 4 := rfl; have := fb_rng (p1); have := fb_rng (eI h 1 4); have := fb_rng (p2); (try have := fb_mulK (x := p1) (y := 3) (k := 3) rfl (by omega) (by omega)); (try have := fb_addI (x := (p1 * 3)) (y := p2) (by omega) (by omega)); omega) ?_
            exact ok_some ⟨rfl, trivial⟩
          · unfold f_X4_ofMarket_26
            exact ok_some ⟨rfl, trivial⟩
theorem ok_ob2e {α β γ : Type} {x : Option (α × β)} {g : α → β → Option γ} {Q : γ → Prop} {a : α} {b : β} (e : x = some (a, b)) (k : ok (g a b) Q) : ok (ob2 x g) Q := by
  subst e
  exact k
theorem u_X4_addMarket (h : HS) (p1 p2 p3 : Int32) (hI : IC h) : ok (f_X4_addMarket h p1 p2 p3) (fun a => IC a.2 ∧ eI a.2 2 4 = eI h 2 4 ∧ eI a.2 1 3 = eI h 1 3 ∧ eI a.2 2 3 = eI h 2 3 ∧ ((a.1 = -1 ∧ ¬ (eI h 1 4) < 4 ∧ eI a.2 1 4 = eI h 1 4) ∨ (a.1 = eI h 1 4 ∧ (eI h 1 4) < 4 ∧ eI a.2 1 4 = eI h 1 4 + 1))) := by
  unfold f_X4_addMarket
  have hn := IC_n hI
  have z0 : (0 : Int32).toInt = 0 := rfl; have z1 : (1 : Int32).toInt = 1 := rfl; have z2 : (2 : Int32).toInt = 2 := rfl; have z4 : (4 : Int32).toInt = 4 := rfl
  refine ok_if (fun c => ?_) (fun c => ok_some ⟨hI, rfl, rfl, rfl, Or.inl ⟨rfl, c, rfl⟩⟩)
  have d := gi_of_lt c
  have e0 := fb_mulK (x := eI h 1 4) (y := 3) (k := 3) rfl (by omega) (by omega)
  have e1 := fb_addI (x := (eI h 1 4 * 3)) (y := 0) (by omega) (by omega)
  have e2 := fb_addI (x := (eI h 1 4 * 3)) (y := 1) (by omega) (by omega)
  have e3 := fb_addI (x := (eI h 1 4 * 3)) (y := 2) (by omega) (by omega)
  have e4 := fb_addI (x := (eI h 1 4)) (y := 1) (by omega) (by omega)
  refine ok_chk (by omega) (ok_chk (by omega) (ok_chk (by omega) ?_))
  refine ok_some ⟨?_, rfl, rfl, rfl, Or.inr ⟨?_, c, rfl⟩⟩
  · obtain ⟨⟨n0, n1, n2, n3, n4, n5, n6, n7, n8, n9, n10, n11, n12⟩, r1, r2, r3, r4⟩ := hI
    exact ⟨⟨n0, ⟨(by show 0 ≤ (eI h 1 4 + 1).toInt; omega), (by show (eI h 1 4 + 1).toInt ≤ 4; omega)⟩, n2, n3, n4, n5, n6, n7, n8, n9, n10, n11, n12⟩, r1, r2, r3, r4⟩
  · apply gi_eq
    show ((eI h 1 4 + 1) - 1).toInt = _
    rw [fb_subI (by omega) (by omega), e4]; omega
theorem u_X4_addGoose (h : HS) (p1 p2 : Int32) (hI : IC h) (q : p2.toInt ≤ 99) : ok (f_X4_addGoose h p1 p2) (fun a => IC a.2 ∧ eI a.2 2 4 = eI h 2 4 ∧ eI a.2 1 4 = eI h 1 4 ∧ eI a.2 2 3 = eI h 2 3 ∧ ((a.1 = -1 ∧ ¬ (eI h 1 3) < 10 ∧ eI a.2 1 3 = eI h 1 3) ∨ (a.1 = eI h 1 3 ∧ (eI h 1 3) < 10 ∧ eI a.2 1 3 = eI h 1 3 + 1))) := by
  unfold f_X4_addGoose
  have hn := IC_n hI
  have z1 : (1 : Int32).toInt = 1 := rfl; have z10 : (10 : Int32).toInt = 10 := rfl
  refine ok_if (fun c => ?_) (fun c => ok_some ⟨hI, rfl, rfl, rfl, Or.inl ⟨rfl, c, rfl⟩⟩)
  have d := gi_of_lt c
  have e4 := fb_addI (x := (eI h 1 3)) (y := 1) (by omega) (by omega)
  have i1 : IC (sI h 1 3 (eI h 1 3 + 1)) := by
    obtain ⟨⟨n0, n1, n2, n3, n4, n5, n6, n7, n8, n9, n10, n11, n12⟩, r1, r2, r3, r4⟩ := hI
    exact ⟨⟨⟨(by show 0 ≤ (eI h 1 3 + 1).toInt; omega), (by show (eI h 1 3 + 1).toInt ≤ 10; omega)⟩, n1, n2, n3, n4, n5, n6, n7, n8, n9, n10, n11, n12⟩, r1, r2, r3, r4⟩
  refine ok_ob1 (u_X4_setGoose _ (eI h 1 3) 0 p1 i1 (fun e => absurd e (by decide))) (fun h2 k2 => ?_)
  refine ok_ob1 (u_X4_setGoose _ (eI h 1 3) 1 p2 k2.1.1 (fun e => q)) (fun h3 k3 => ?_)
  have s3 := SC_trans k2.1 k3.1
  refine ok_ob1 (u_X4_setGoose _ (eI h 1 3) 2 (-1) s3.1 (fun e => absurd e (by decide))) (fun h4 k4 => ?_)
  have s4 := SC_trans s3 k4.1
  refine ok_ob1 (u_X4_setGoose _ (eI h 1 3) 3 (-1) s4.1 (fun e => absurd e (by decide))) (fun h5 k5 => ?_)
  have s5 := SC_trans s4 k5.1
  refine ok_ob1 (u_X4_setGoose _ (eI h 1 3) 4 0 s5.1 (fun e => absurd e (by decide))) (fun h6 k6 => ?_)
  have s6 := SC_trans s5 k6.1
  refine ok_ob1 (u_X4_setGoose _ (eI h 1 3) 5 (-1) s6.1 (fun e => absurd e (by decide))) (fun h7 k7 => ?_)
  have s7 := SC_trans s6 k7.1
  refine ok_ob1 (u_X4_setGoose _ (eI h 1 3) 6 (-1) s7.1 (fun e => absurd e (by decide))) (fun h8 k8 => ?_)
  have s8 := SC_trans s7 k8.1
  refine ok_ob1 (u_X4_setGoose _ (eI h 1 3) 7 (-1) s8.1 (fun e => absurd e (by decide))) (fun h9 k9 => ?_)
  have s9 := SC_trans s8 k9.1
  refine ok_ob1 (u_X4_setGoose _ (eI h 1 3) 8 0 s9.1 (fun e => absurd e (by decide))) (fun h10 k10 => ?_)
  have s10 := SC_trans s9 k10.1
  exact ok_some ⟨s10.1, s10.2.2.2.2, s10.2.2.1, s10.2.2.2.1, Or.inr ⟨rfl, c, s10.2.1⟩⟩
theorem u_X4_isHome (h : HS) (p1 : Int32) (hI : IC h) : ok (f_X4_isHome h p1) (fun a => a.2 = h ∧ (a.1 = 0 ∨ a.1 = 1)) := by
  unfold f_X4_isHome
  refine ok_ob2 (u_X4_ofGoose h p1 4 ((SC_refl hI)).1) (fun r1 h1 k1 => ?_)
  have e1 : h = h1 := k1.1.symm
  subst e1
  refine ok_if (fun c2 => ?_) (fun c2 => ?_)
  · unfold f_X4_isHome_14
    refine ok_chk (Or.inr rfl) ?_
    exact ok_some ⟨rfl, (Or.inr rfl)⟩
  · unfold f_X4_isHome_14
    refine ok_chk (Or.inl rfl) ?_
    exact ok_some ⟨rfl, (Or.inl rfl)⟩
theorem u_X4_isFree (h : HS) (p1 : Int32) (hI : IC h) : ok (f_X4_isFree h p1) (fun a => a.2 = h ∧ (a.1 = 0 ∨ a.1 = 1)) := by
  unfold f_X4_isFree
  refine ok_ob2 (u_X4_isHome h p1 ((SC_refl hI)).1) (fun r1 h1 k1 => ?_)
  have e1 : h = h1 := k1.1.symm
  subst e1
  refine ok_if (fun c2 => ?_) (fun c2 => ?_)
  · unfold f_X4_isFree_22
    unfold f_X4_isFree_23
    refine ok_chk (Or.inl rfl) ?_
    exact ok_some ⟨rfl, (Or.inl rfl)⟩
  · refine ok_ob2 (u_X4_ofGoose h p1 8 ((SC_refl hI)).1) (fun r4 h4 k4 => ?_)
    have e4 : h = h4 := k4.1.symm
    subst e4
    refine ok_if (fun c5 => ?_) (fun c5 => ?_)
    · unfold f_X4_isFree_23
      refine ok_chk (Or.inr rfl) ?_
      exact ok_some ⟨rfl, (Or.inr rfl)⟩
    · unfold f_X4_isFree_22
      unfold f_X4_isFree_23
      refine ok_chk (Or.inl rfl) ?_
      exact ok_some ⟨rfl, (Or.inl rfl)⟩
theorem u_X4_settle (h : HS) (p1 : Int32) (p2 : Int32) (hI : IC h) : ok (f_X4_settle h p1 p2) (fun a => SC h a ∧ True) := by
  unfold f_X4_settle
  refine ok_ob1 (u_X4_setGoose h p1 4 p2 ((SC_refl hI)).1 (fun e => absurd e (by decide))) (fun h1 k1 => ?_)
  have s1 : SC h h1 := SC_trans (b := h) (SC_refl hI) k1.1
  refine ok_ob1 (u_X4_setGoose h1 p1 7 (eI h1 1 7) (s1).1 (fun e => absurd e (by decide))) (fun h2 k2 => ?_)
  have s2 : SC h h2 := SC_trans (b := h1) s1 k2.1
  exact ok_some ⟨s2, trivial⟩
theorem u_X4_countFate_4 (h : HS) (x1 : Int32) (hI : IC h) : ∀ (n : Nat) (x2 : Int32) (x3 : Int32), 0 < n → (10 - (x3).toInt : Int) < (n : Int) → ok (f_X4_countFate_4  n h x1 x2 x3) (fun a => a.2 = h ∧ True) := by
  intro n
  induction n with
  | zero =>
    intro x2 x3 hn hm
    exact absurd hn (by decide)
  | succ n ih_X4_countFate_4 =>
    intro x2 x3 hn hm
    rw [f_X4_countFate_4_s]
    refine ok_if (fun c1 => ?_) (fun c1 => ?_)
    · exact ok_some ⟨rfl, trivial⟩
    · refine ok_ob2 (u_X4_ofGoose h x3 4 ((SC_refl hI)).1) (fun r2 h2 k2 => ?_)
      have e2 : h = h2 := k2.1.symm
      subst e2
      refine ok_if (fun c3 => ?_) (fun c3 => ?_)
      · unfold f_X4_countFate_25
        exact ih_X4_countFate_4 (x2 + 1) (x3 + 1) (by have := IC_n (SC_refl hI).1; have := hm; have := gi_of_nle c1; have : (1 : Int32).toInt = 1 := rfl; have := fb_rng (eI h 1 3); have := fb_rng (x3); (try have := fb_addI (x := x3) (y := 1) (by omega) (by omega)); omega) (by have := IC_n (SC_refl hI).1; have := hm; have := gi_of_nle c1; have : (1 : Int32).toInt = 1 := rfl; have := fb_rng (eI h 1 3); have := fb_rng (x3); (try have := fb_addI (x := x3) (y := 1) (by omega) (by omega)); omega)
      · unfold f_X4_countFate_25
        exact ih_X4_countFate_4 x2 (x3 + 1) (by have := IC_n (SC_refl hI).1; have := hm; have := gi_of_nle c1; have : (1 : Int32).toInt = 1 := rfl; have := fb_rng (eI h 1 3); have := fb_rng (x3); (try have := fb_addI (x := x3) (y := 1) (by omega) (by omega)); omega) (by have := IC_n (SC_refl hI).1; have := hm; have := gi_of_nle c1; have : (1 : Int32).toInt = 1 := rfl; have := fb_rng (eI h 1 3); have := fb_rng (x3); (try have := fb_addI (x := x3) (y := 1) (by omega) (by omega)); omega)
theorem u_X4_countFate (h : HS) (p1 : Int32) (hI : IC h) : ok (f_X4_countFate h p1) (fun a => a.2 = h ∧ True) := by
  unfold f_X4_countFate
  exact u_X4_countFate_4 h p1 ((SC_refl hI)).1 8589934592 0 0 (by decide) (by have : (0 : Int32).toInt = 0 := rfl; omega)
theorem u_X4_dailyNeed (h : HS) (hI : IC h) : ok (f_X4_dailyNeed h) (fun a => a.2 = h ∧ True) := by
  unfold f_X4_dailyNeed
  refine ok_ob2 (u_X4_countFate h 0 ((SC_refl hI)).1) (fun r1 h1 k1 => ?_)
  have e1 : h = h1 := k1.1.symm
  subst e1
  exact ok_some ⟨rfl, trivial⟩
theorem u_X4_eatDaily_31 {h0 : HS} : ∀ (n : Nat) (h : HS) (x2 : Int32), SC h0 h → 0 < n → (10 - (x2).toInt : Int) < (n : Int) → ok (f_X4_eatDaily_31  n h x2) (fun a => SC h0 a ∧ True) := by
  intro n
  induction n with
  | zero =>
    intro h x2 hSC hn hm
    exact absurd hn (by decide)
  | succ n ih_X4_eatDaily_31 =>
    intro h x2 hSC hn hm
    rw [f_X4_eatDaily_31_s]
    refine ok_if (fun c1 => ?_) (fun c1 => ?_)
    · exact ok_some ⟨hSC, trivial⟩
    · refine ok_ob2 (u_X4_isFree h x2 (hSC).1) (fun r2 h2 k2 => ?_)
      have e2 : h = h2 := k2.1.symm
      subst e2
      refine ok_if (fun c3 => ?_) (fun c3 => ?_)
      · exact ih_X4_eatDaily_31 h (x2 + 1) hSC (by have := IC_n hSC.1; have := hm; have := gi_of_nle c1; have : (1 : Int32).toInt = 1 := rfl; have := fb_rng (eI h 1 3); have := fb_rng (x2); (try have := fb_addI (x := x2) (y := 1) (by omega) (by omega)); omega) (by have := IC_n hSC.1; have := hm; have := gi_of_nle c1; have : (1 : Int32).toInt = 1 := rfl; have := fb_rng (eI h 1 3); have := fb_rng (x2); (try have := fb_addI (x := x2) (y := 1) (by omega) (by omega)); omega)
      · refine ok_ob1 (u_X4_settle h x2 5 (hSC).1) (fun h4 k4 => ?_)
        have s4 : SC h0 h4 := SC_trans (b := h) hSC k4.1
        refine ok_ob2 (u_X4_ofGoose h4 x2 0 (s4).1) (fun r5 h5 k5 => ?_)
        have e5 : h4 = h5 := k5.1.symm
        subst e5
        exact ok_some ⟨s4, trivial⟩
theorem u_X4_eatDaily (h : HS) (hI : IC h) : ok (f_X4_eatDaily h) (fun a => SC h a ∧ True) := by
  unfold f_X4_eatDaily
  refine ok_ob2 (u_X4_dailyNeed h ((SC_refl hI)).1) (fun r1 h1 k1 => ?_)
  have e1 : h = h1 := k1.1.symm
  subst e1
  refine ok_if (fun c2 => ?_) (fun c2 => ?_)
  · exact u_X4_eatDaily_31 (h0 := h) 8589934592 (sI h 1 5 0) 0 (SC_refl hI) (by decide) (by have : (0 : Int32).toInt = 0 := rfl; omega)
  · exact ok_some ⟨(SC_refl hI), trivial⟩
theorem u_X4_draw (h : HS) (hI : IC h) : ok (f_X4_draw h) (fun a => SC h a.2 ∧ True) := by
  unfold f_X4_draw
  exact ok_some ⟨(SC_refl hI), trivial⟩
theorem FS_keep {C S : Nat → Int32} (hC : FC C) (hS : FS S) {k b i0 i1 i2 i3 : Nat} (hb : b = 94 * k) (h0 : i0 = b + 90) (h1 : i1 = b + 91) (h2 : i2 = b + 92) (h3 : i3 = b + 93) (v0 v1 v2 v3 : Int32) : FS (upd (upd (upd (upd (va_cpy C S 0 b 90) i0 v0) i1 v1) i2 v2) i3 v3) := by
  intro s hs g hg
  unfold upd va_cpy
  rw [if_neg (by omega), if_neg (by omega), if_neg (by omega), if_neg (by omega)]
  by_cases e : b ≤ 94 * s + 9 * g + 1 ∧ 94 * s + 9 * g + 1 < b + 90
  · rw [if_pos e]
    have : 0 + (94 * s + 9 * g + 1 - b) = 9 * g + 1 := by omega
    rw [this]; exact hC g hg
  · rw [if_neg e]; exact hS s hs g hg
theorem fb_mod20 (y : Int32) : -19 ≤ (y - y / 20 * 20).toInt ∧ (y - y / 20 * 20).toInt ≤ 19 := by
  have r := fb_rng y
  have q := fb_divK (x := y) (y := 20) (k := 20) rfl (by decide)
  have m1 : (y / 20 * 20).toInt = (y / 20).toInt * 20 := fb_mulK rfl (by omega) (by omega)
  have m2 : (y - y / 20 * 20).toInt = y.toInt - (y / 20 * 20).toInt := fb_subI (by omega) (by omega)
  omega
theorem u_X4_keepStep_35 (h : HS) (hI : IC h) : ok (f_X4_keepStep_35 h) (fun a => SC h a ∧ eA a 1 0 = eA h 1 0) := by
  unfold f_X4_keepStep_35 f_X4_keepStep_69
  have rk := fb_mod20 ((eI h 1 11 + eI h 1 12) - 1)
  generalize (((eI h 1 11 + eI h 1 12) - 1) - ((eI h 1 11 + eI h 1 12) - 1) / 20 * 20) = k at *
  have m3 : (k * 94).toInt = k.toInt * 94 := fb_mulK rfl (by omega) (by omega)
  have z0 : (0 : Int32).toInt = 0 := rfl; have z1 : (1 : Int32).toInt = 1 := rfl; have z2 : (2 : Int32).toInt = 2 := rfl; have z3 : (3 : Int32).toInt = 3 := rfl; have z90 : (90 : Int32).toInt = 90 := rfl
  refine ok_if (fun c => ok_some ⟨SC_refl hI, rfl⟩) (fun c1 => ?_)
  refine ok_if (fun c2 => ?_) (fun c => ok_some ⟨SC_refl hI, rfl⟩)
  have d1 := gi_of_nlt c1
  have a0 := fb_addI (x := k * 94) (y := 90) (by omega) (by omega)
  have a1 := fb_addI (x := k * 94 + 90) (y := 1) (by omega) (by omega)
  have a2 := fb_addI (x := k * 94 + 90) (y := 2) (by omega) (by omega)
  have a3 := fb_addI (x := k * 94 + 90) (y := 3) (by omega) (by omega)
  have b0 : (k * 94).toNatClampNeg = 94 * k.toInt.toNat := by rw [Int32.toNatClampNeg]; omega
  have b1 : (k * 94 + 90).toNatClampNeg = 94 * k.toInt.toNat + 90 := by rw [Int32.toNatClampNeg]; omega
  have b2 : (k * 94 + 90 + 1).toNatClampNeg = 94 * k.toInt.toNat + 91 := by rw [Int32.toNatClampNeg]; omega
  have b3 : (k * 94 + 90 + 2).toNatClampNeg = 94 * k.toInt.toNat + 92 := by rw [Int32.toNatClampNeg]; omega
  have b4 : (k * 94 + 90 + 3).toNatClampNeg = 94 * k.toInt.toNat + 93 := by rw [Int32.toNatClampNeg]; omega
  refine ok_chk c1 (ok_chk (by omega) (ok_chk (by omega) (ok_chk (by omega) (ok_chk (by omega) (ok_chk (by omega) ?_)))))
  obtain ⟨n, r1, r2, r3, r4⟩ := hI
  refine ok_some ⟨⟨⟨n, r1, ?_, r3, r4⟩, rfl, rfl, rfl, rfl⟩, rfl⟩
  exact FS_keep (k := k.toInt.toNat) r1 r2 b0 (by omega) (by omega) (by omega) (by omega) _ _ _ _
theorem u_X4_keepStep (h : HS) (hI : IC h) : ok (f_X4_keepStep h) (fun a => SC h a ∧ eA a 1 0 = eA h 1 0) := by
  unfold f_X4_keepStep
  refine ok_if (fun c => ?_) (fun c => ?_)
  · exact ok_mono (u_X4_keepStep_35 (sI h 1 11 _) (SC_refl hI).1) (fun a k => k)
  · exact ok_mono (u_X4_keepStep_35 (sI h 1 12 _) (SC_refl hI).1) (fun a k => k)
theorem FC_back {C S : Nat → Int32} (hC : FC C) (hS : FS S) {k b n : Nat} (hb : b = 94 * k) (hk : k < 20) : FC (va_cpy S C b 0 n) := by
  intro g hg
  unfold va_cpy
  by_cases e : 0 ≤ 9 * g + 1 ∧ 9 * g + 1 < 0 + n
  · rw [if_pos e]
    have : b + (9 * g + 1 - 0) = 94 * k + 9 * g + 1 := by omega
    rw [this]; exact hS k hk g hg
  · rw [if_neg e]; exact hC g hg
theorem fb_mid {x : Int32} : ¬ (if (if 0 < x then x else 0) < 90 then (if 0 < x then x else 0) else 90 : Int32) < 0 ∧ (if (if 0 < x then x else 0) < 90 then (if 0 < x then x else 0) else 90 : Int32).toNatClampNeg ≤ 90 := by
  have z0 : (0 : Int32).toInt = 0 := rfl; have z90 : (90 : Int32).toInt = 90 := rfl
  have a := fb_itel (x := 0) (y := x) (a := x) (b := 0)
  have b := fb_itel (x := (if 0 < x then x else 0)) (y := 90) (a := (if 0 < x then x else 0)) (b := 90)
  refine ⟨gi_nlt (by omega), ?_⟩
  rw [Int32.toNatClampNeg]; omega
theorem u_X4_takeStepBack (h : HS) (hI : IC h) : ok (f_X4_takeStepBack h) (fun a => SC h a.2 ∧ (a.1 = 0 ∨ a.1 = 1)) := by
  unfold f_X4_takeStepBack f_X4_takeStepBack_42
  have rk := fb_mod20 ((eI h 1 11 + eI h 1 12) - 1)
  generalize (((eI h 1 11 + eI h 1 12) - 1) - ((eI h 1 11 + eI h 1 12) - 1) / 20 * 20) = k at *
  have m3 : (k * 94).toInt = k.toInt * 94 := fb_mulK rfl (by omega) (by omega)
  have z0 : (0 : Int32).toInt = 0 := rfl; have z1 : (1 : Int32).toInt = 1 := rfl; have z2 : (2 : Int32).toInt = 2 := rfl; have z3 : (3 : Int32).toInt = 3 := rfl; have z90 : (90 : Int32).toInt = 90 := rfl
  refine ok_if (fun c => ok_some ⟨SC_refl hI, Or.inl rfl⟩) (fun c0 => ?_)
  refine ok_if (fun c => ok_some ⟨SC_refl hI, Or.inl rfl⟩) (fun c1 => ?_)
  refine ok_if (fun c2 => ?_) (fun c => ok_some ⟨SC_refl hI, Or.inl rfl⟩)
  have d1 := gi_of_nlt c1
  have a0 := fb_addI (x := k * 94) (y := 90) (by omega) (by omega)
  have a1 := fb_addI (x := k * 94 + 90) (y := 1) (by omega) (by omega)
  have a2 := fb_addI (x := k * 94 + 90) (y := 2) (by omega) (by omega)
  have a3 := fb_addI (x := k * 94 + 90) (y := 3) (by omega) (by omega)
  have b0 : (k * 94).toNatClampNeg = 94 * k.toInt.toNat := by rw [Int32.toNatClampNeg]; omega
  have md := fb_mid (x := (eA h 1 2 ((k * 94 + 90).toNatClampNeg)) * 9)
  generalize (if (if 0 < (eA h 1 2 ((k * 94 + 90).toNatClampNeg)) * 9 then (eA h 1 2 ((k * 94 + 90).toNatClampNeg)) * 9 else 0) < 90 then (if 0 < (eA h 1 2 ((k * 94 + 90).toNatClampNeg)) * 9 then (eA h 1 2 ((k * 94 + 90).toNatClampNeg)) * 9 else 0) else 90 : Int32) = w at *
  refine ok_chk (by omega) (ok_chk c1 (ok_chk md.1 (ok_chk (by omega) (ok_chk (by omega) (ok_chk (by omega) (ok_chk (by omega) (ok_chk (by omega) ?_)))))))
  obtain ⟨n, r1, r2, r3, r4⟩ := hI
  refine ok_some ⟨⟨⟨n, ?_, r2, r3, r4⟩, rfl, rfl, rfl, rfl⟩, Or.inr rfl⟩
  exact FC_back (k := k.toInt.toNat) r1 r2 b0 (by omega)
theorem FC_cp {C D : Nat → Int32} (hC : FC C) : FC (va_cpy C D 0 0 90) := by
  intro g hg
  unfold va_cpy
  rw [if_pos (by omega)]
  have : 0 + (9 * g + 1 - 0) = 9 * g + 1 := by omega
  rw [this]; exact hC g hg
theorem FS_cp {C D : Nat → Int32} (hC : FS C) : FS (va_cpy C D 0 0 1880) := by
  intro s hs g hg
  unfold va_cpy
  rw [if_pos (by omega)]
  have : 0 + (94 * s + 9 * g + 1 - 0) = 94 * s + 9 * g + 1 := by omega
  rw [this]; exact hC s hs g hg
theorem u_X4_copyFrom_i (h : HS) (hI : IC h) : ok (f_X4_copyFrom_i h) (fun a => IC a ∧ eI a 1 3 = eI h 1 3 ∧ eI a 1 4 = eI h 1 4 ∧ eI a 2 3 = eI h 1 3 ∧ eI a 2 4 = eI h 1 4) := by
  obtain ⟨⟨n0, n1, n2, n3, n4, n5, n6, n7, n8, n9, n10, n11, n12⟩, r1, r2, r3, r4⟩ := hI
  unfold f_X4_copyFrom_i
  exact ok_some ⟨⟨⟨n0, n1, n0, n1, n4, n5, n6, n7, n8, n9, n10, n11, n12⟩, r1, r2, FC_cp r1, FS_cp r2⟩, rfl, rfl, rfl, rfl⟩
theorem u_X4_copyFrom_b (h : HS) (hI : IC h) : ok (f_X4_copyFrom_b h) (fun a => IC a ∧ eI a 1 3 = eI h 2 3 ∧ eI a 1 4 = eI h 2 4 ∧ eI a 2 3 = eI h 2 3 ∧ eI a 2 4 = eI h 2 4) := by
  obtain ⟨⟨n0, n1, n2, n3, n4, n5, n6, n7, n8, n9, n10, n11, n12⟩, r1, r2, r3, r4⟩ := hI
  unfold f_X4_copyFrom_b
  exact ok_some ⟨⟨⟨n2, n3, n2, n3, n4, n5, n6, n7, n8, n9, n10, n11, n12⟩, FC_cp r3, FS_cp r4, r3, r4⟩, rfl, rfl, rfl, rfl⟩
theorem u_X8_isDigit (p1 : Int32) : ok (f_X8_isDigit p1) (fun a => (a = 0 ∨ a = 1)) := by
  unfold f_X8_isDigit
  refine ok_if (fun c1 => ?_) (fun c1 => ?_)
  · unfold f_X8_isDigit_14
    unfold f_X8_isDigit_15
    refine ok_chk (Or.inl rfl) ?_
    exact ok_some (Or.inl rfl)
  · refine ok_if (fun c3 => ?_) (fun c3 => ?_)
    · unfold f_X8_isDigit_14
      unfold f_X8_isDigit_15
      refine ok_chk (Or.inl rfl) ?_
      exact ok_some (Or.inl rfl)
    · unfold f_X8_isDigit_15
      refine ok_chk (Or.inr rfl) ?_
      exact ok_some (Or.inr rfl)
theorem u_X8_isLetter (p1 : Int32) : ok (f_X8_isLetter p1) (fun a => (a = 0 ∨ a = 1)) := by
  unfold f_X8_isLetter
  refine ok_if (fun c1 => ?_) (fun c1 => ?_)
  · unfold f_X8_isLetter_14
    unfold f_X8_isLetter_15
    refine ok_chk (Or.inl rfl) ?_
    exact ok_some (Or.inl rfl)
  · refine ok_if (fun c3 => ?_) (fun c3 => ?_)
    · unfold f_X8_isLetter_14
      unfold f_X8_isLetter_15
      refine ok_chk (Or.inl rfl) ?_
      exact ok_some (Or.inl rfl)
    · unfold f_X8_isLetter_15
      refine ok_chk (Or.inr rfl) ?_
      exact ok_some (Or.inr rfl)
theorem u_X8_isQuill (p1 : Int32) (p2 : Int32) : ok (f_X8_isQuill p1 p2) (fun a => (a = 0 ∨ a = 1)) := by
  unfold f_X8_isQuill
  refine ok_ob1 (u_X8_isLetter p1) (fun r1 k1 => ?_)
  refine ok_if (fun c2 => ?_) (fun c2 => ?_)
  · unfold f_X8_isQuill_20
    unfold f_X8_isQuill_21
    refine ok_chk (Or.inl rfl) ?_
    exact ok_some (Or.inl rfl)
  · refine ok_if (fun c4 => ?_) (fun c4 => ?_)
    · unfold f_X8_isQuill_20
      unfold f_X8_isQuill_21
      refine ok_chk (Or.inl rfl) ?_
      exact ok_some (Or.inl rfl)
    · refine ok_if (fun c6 => ?_) (fun c6 => ?_)
      · unfold f_X8_isQuill_20
        unfold f_X8_isQuill_21
        refine ok_chk (Or.inl rfl) ?_
        exact ok_some (Or.inl rfl)
      · unfold f_X8_isQuill_21
        refine ok_chk (Or.inr rfl) ?_
        exact ok_some (Or.inr rfl)
theorem u_X8_halvesOf (p1 : Int32) : ok (f_X8_halvesOf p1) (fun a => (0 ≤ (a).toInt ∧ (a).toInt ≤ 3)) := by
  unfold f_X8_halvesOf
  refine ok_if (fun c1 => ?_) (fun c1 => ?_)
  · exact ok_some (by first | decide | (have : (3 : Int32).toInt = 3 := rfl; omega))
  · refine ok_if (fun c2 => ?_) (fun c2 => ?_)
    · unfold f_X8_halvesOf_16
      unfold f_X8_halvesOf_21
      exact ok_some (by first | decide | (have := gi_of_ne c1; have := gi_of_eq c2; have : (0 : Int32).toInt = 0 := rfl; have : (1 : Int32).toInt = 1 := rfl; have := fb_rng (p1); omega))
    · refine ok_if (fun c3 => ?_) (fun c3 => ?_)
      · unfold f_X8_halvesOf_16
        unfold f_X8_halvesOf_21
        exact ok_some (by first | decide | (have := gi_of_ne c1; have := gi_of_ne c2; have := gi_of_eq c3; have : (0 : Int32).toInt = 0 := rfl; have : (1 : Int32).toInt = 1 := rfl; have : (2 : Int32).toInt = 2 := rfl; have := fb_rng (p1); omega))
      · unfold f_X8_halvesOf_21
        exact ok_some (by first | decide | (have : (0 : Int32).toInt = 0 := rfl; omega))
theorem fb_lgp {x : Int64} (h : ¬ lg_cmp x 0 ≤ 0) : ¬ x = 0 := by
  intro e
  subst e
  exact h (by decide)
theorem u_X8_commonDivisor_9  : ∀ (n : Nat) (x4 : Int64) (x6 : Int64) (x8 : Int32), 0 < n → (200 - x8.toInt : Int) < (n : Int) → ok (f_X8_commonDivisor_9  n x4 x6 x8) (fun a => ¬ a = 0) := by
  intro n
  induction n with
  | zero =>
    intro x4 x6 x8 hn hm
    exact absurd hn (by decide)
  | succ n ih_X8_commonDivisor_9 =>
    intro x4 x6 x8 hn hm
    rw [f_X8_commonDivisor_9_s]
    refine ok_if (fun c1 => ?_) (fun c1 => ?_)
    · unfold f_X8_commonDivisor_45
      refine ok_if (fun c2 => ?_) (fun c2 => ?_)
      · unfold f_X8_commonDivisor_58
        exact ok_some (by decide)
      · unfold f_X8_commonDivisor_58
        exact ok_some (fb_lgp c2)
    · refine ok_if (fun c3 => ?_) (fun c3 => ?_)
      · unfold f_X8_commonDivisor_45
        refine ok_if (fun c4 => ?_) (fun c4 => ?_)
        · unfold f_X8_commonDivisor_58
          exact ok_some (by decide)
        · unfold f_X8_commonDivisor_58
          exact ok_some (fb_lgp c4)
      · refine ok_chk (fb_lgz c3) ?_
        exact ih_X8_commonDivisor_9 x6 (x4 - x4 / x6 * x6) (x8 + 1) (by have := hm; have := gi_of_nle c1; have : (1 : Int32).toInt = 1 := rfl; have : (200 : Int32).toInt = 200 := rfl; have := fb_rng (x8); (try have := fb_addI (x := x8) (y := 1) (by omega) (by omega)); omega) (by have := hm; have := gi_of_nle c1; have : (1 : Int32).toInt = 1 := rfl; have : (200 : Int32).toInt = 200 := rfl; have := fb_rng (x8); (try have := fb_addI (x := x8) (y := 1) (by omega) (by omega)); omega)
theorem u_X8_commonDivisor (p1 : Int64) (p2 : Int64) : ok (f_X8_commonDivisor p1 p2) (fun a => ¬ a = 0) := by
  unfold f_X8_commonDivisor
  exact u_X8_commonDivisor_9 8589934592 p1 p2 0 (by decide) (by have : (0 : Int32).toInt = 0 := rfl; omega)
theorem u_X7_isBlank (p1 : Int32) : ok (f_X7_isBlank p1) (fun a => (a = 0 ∨ a = 1)) := by
  unfold f_X7_isBlank
  refine ok_if (fun c1 => ?_) (fun c1 => ?_)
  · unfold f_X7_isBlank_12
    unfold f_X7_isBlank_17
    refine ok_chk (Or.inr rfl) ?_
    exact ok_some (Or.inr rfl)
  · refine ok_if (fun c3 => ?_) (fun c3 => ?_)
    · unfold f_X7_isBlank_12
      unfold f_X7_isBlank_17
      refine ok_chk (Or.inr rfl) ?_
      exact ok_some (Or.inr rfl)
    · unfold f_X7_isBlank_17
      refine ok_chk (Or.inl rfl) ?_
      exact ok_some (Or.inl rfl)
theorem u_X7_isAlpha (p1 : Int32) : ok (f_X7_isAlpha p1) (fun a => (a = 0 ∨ a = 1)) := by
  unfold f_X7_isAlpha
  refine ok_if (fun c1 => ?_) (fun c1 => ?_)
  · unfold f_X7_isAlpha_12
    refine ok_if (fun c2 => ?_) (fun c2 => ?_)
    · unfold f_X7_isAlpha_28
      unfold f_X7_isAlpha_29
      refine ok_chk (Or.inl rfl) ?_
      exact ok_some (Or.inl rfl)
    · refine ok_if (fun c4 => ?_) (fun c4 => ?_)
      · unfold f_X7_isAlpha_28
        unfold f_X7_isAlpha_29
        refine ok_chk (Or.inl rfl) ?_
        exact ok_some (Or.inl rfl)
      · unfold f_X7_isAlpha_24
        unfold f_X7_isAlpha_29
        refine ok_chk (Or.inr rfl) ?_
        exact ok_some (Or.inr rfl)
  · refine ok_if (fun c7 => ?_) (fun c7 => ?_)
    · unfold f_X7_isAlpha_24
      unfold f_X7_isAlpha_29
      refine ok_chk (Or.inr rfl) ?_
      exact ok_some (Or.inr rfl)
    · unfold f_X7_isAlpha_12
      refine ok_if (fun c9 => ?_) (fun c9 => ?_)
      · unfold f_X7_isAlpha_28
        unfold f_X7_isAlpha_29
        refine ok_chk (Or.inl rfl) ?_
        exact ok_some (Or.inl rfl)
      · refine ok_if (fun c11 => ?_) (fun c11 => ?_)
        · unfold f_X7_isAlpha_28
          unfold f_X7_isAlpha_29
          refine ok_chk (Or.inl rfl) ?_
          exact ok_some (Or.inl rfl)
        · unfold f_X7_isAlpha_24
          unfold f_X7_isAlpha_29
          refine ok_chk (Or.inr rfl) ?_
          exact ok_some (Or.inr rfl)
theorem u_X7_isNumeral (p1 : Int32) : ok (f_X7_isNumeral p1) (fun a => (a = 0 ∨ a = 1)) := by
  unfold f_X7_isNumeral
  refine ok_if (fun c1 => ?_) (fun c1 => ?_)
  · unfold f_X7_isNumeral_16
    unfold f_X7_isNumeral_17
    refine ok_chk (Or.inl rfl) ?_
    exact ok_some (Or.inl rfl)
  · refine ok_if (fun c3 => ?_) (fun c3 => ?_)
    · unfold f_X7_isNumeral_16
      unfold f_X7_isNumeral_17
      refine ok_chk (Or.inl rfl) ?_
      exact ok_some (Or.inl rfl)
    · unfold f_X7_isNumeral_17
      refine ok_chk (Or.inr rfl) ?_
      exact ok_some (Or.inr rfl)
theorem u_X7_signKind (p1 : Int32) : ok (f_X7_signKind p1) (fun a => True) := by
  unfold f_X7_signKind
  refine ok_if (fun c1 => ?_) (fun c1 => ?_)
  · exact ok_some trivial
  · refine ok_if (fun c2 => ?_) (fun c2 => ?_)
    · exact ok_some trivial
    · refine ok_if (fun c3 => ?_) (fun c3 => ?_)
      · exact ok_some trivial
      · refine ok_if (fun c4 => ?_) (fun c4 => ?_)
        · exact ok_some trivial
        · refine ok_if (fun c5 => ?_) (fun c5 => ?_)
          · exact ok_some trivial
          · refine ok_if (fun c6 => ?_) (fun c6 => ?_)
            · exact ok_some trivial
            · refine ok_if (fun c7 => ?_) (fun c7 => ?_)
              · exact ok_some trivial
              · refine ok_if (fun c8 => ?_) (fun c8 => ?_)
                · exact ok_some trivial
                · refine ok_if (fun c9 => ?_) (fun c9 => ?_)
                  · exact ok_some trivial
                  · refine ok_if (fun c10 => ?_) (fun c10 => ?_)
                    · exact ok_some trivial
                    · refine ok_if (fun c11 => ?_) (fun c11 => ?_)
                      · exact ok_some trivial
                      · refine ok_if (fun c12 => ?_) (fun c12 => ?_)
                        · exact ok_some trivial
                        · refine ok_if (fun c13 => ?_) (fun c13 => ?_)
                          · exact ok_some trivial
                          · refine ok_if (fun c14 => ?_) (fun c14 => ?_)
                            · exact ok_some trivial
                            · refine ok_if (fun c15 => ?_) (fun c15 => ?_)
                              · exact ok_some trivial
                              · refine ok_if (fun c16 => ?_) (fun c16 => ?_)
                                · exact ok_some trivial
                                · refine ok_if (fun c17 => ?_) (fun c17 => ?_)
                                  · exact ok_some trivial
                                  · refine ok_if (fun c18 => ?_) (fun c18 => ?_)
                                    · exact ok_some trivial
                                    · refine ok_if (fun c19 => ?_) (fun c19 => ?_)
                                      · exact ok_some trivial
                                      · refine ok_if (fun c20 => ?_) (fun c20 => ?_)
                                        · exact ok_some trivial
                                        · refine ok_if (fun c21 => ?_) (fun c21 => ?_)
                                          · exact ok_some trivial
                                          · refine ok_if (fun c22 => ?_) (fun c22 => ?_)
                                            · exact ok_some trivial
                                            · refine ok_if (fun c23 => ?_) (fun c23 => ?_)
                                              · exact ok_some trivial
                                              · refine ok_if (fun c24 => ?_) (fun c24 => ?_)
                                                · exact ok_some trivial
                                                · refine ok_if (fun c25 => ?_) (fun c25 => ?_)
                                                  · exact ok_some trivial
                                                  · refine ok_if (fun c26 => ?_) (fun c26 => ?_)
                                                    · exact ok_some trivial
                                                    · refine ok_if (fun c27 => ?_) (fun c27 => ?_)
                                                      · exact ok_some trivial
                                                      · refine ok_if (fun c28 => ?_) (fun c28 => ?_)
                                                        · exact ok_some trivial
                                                        · exact ok_some trivial
theorem u_X2_levelOf (p1 : Int32) : ok (f_X2_levelOf p1) (fun a => True) := by
  unfold f_X2_levelOf
  refine ok_if (fun c1 => ?_) (fun c1 => ?_)
  · exact ok_some trivial
  · refine ok_if (fun c2 => ?_) (fun c2 => ?_)
    · exact ok_some trivial
    · refine ok_if (fun c3 => ?_) (fun c3 => ?_)
      · exact ok_some trivial
      · refine ok_if (fun c4 => ?_) (fun c4 => ?_)
        · exact ok_some trivial
        · refine ok_if (fun c5 => ?_) (fun c5 => ?_)
          · exact ok_some trivial
          · refine ok_if (fun c6 => ?_) (fun c6 => ?_)
            · exact ok_some trivial
            · refine ok_if (fun c7 => ?_) (fun c7 => ?_)
              · exact ok_some trivial
              · refine ok_if (fun c8 => ?_) (fun c8 => ?_)
                · exact ok_some trivial
                · refine ok_if (fun c9 => ?_) (fun c9 => ?_)
                  · exact ok_some trivial
                  · refine ok_if (fun c10 => ?_) (fun c10 => ?_)
                    · exact ok_some trivial
                    · refine ok_if (fun c11 => ?_) (fun c11 => ?_)
                      · exact ok_some trivial
                      · refine ok_if (fun c12 => ?_) (fun c12 => ?_)
                        · exact ok_some trivial
                        · refine ok_if (fun c13 => ?_) (fun c13 => ?_)
                          · exact ok_some trivial
                          · refine ok_if (fun c14 => ?_) (fun c14 => ?_)
                            · exact ok_some trivial
                            · refine ok_if (fun c15 => ?_) (fun c15 => ?_)
                              · exact ok_some trivial
                              · refine ok_if (fun c16 => ?_) (fun c16 => ?_)
                                · exact ok_some trivial
                                · refine ok_if (fun c17 => ?_) (fun c17 => ?_)
                                  · exact ok_some trivial
                                  · refine ok_if (fun c18 => ?_) (fun c18 => ?_)
                                    · exact ok_some trivial
                                    · refine ok_if (fun c19 => ?_) (fun c19 => ?_)
                                      · exact ok_some trivial
                                      · exact ok_some trivial
theorem u_X1_joined (p1 : Int32) (p2 : Int64) (p3 : Int64) : ok (f_X1_joined p1 p2 p3) (fun a => True) := by
  unfold f_X1_joined
  refine ok_if (fun c1 => ?_) (fun c1 => ?_)
  · refine ok_if (fun c2 => ?_) (fun c2 => ?_)
    · unfold f_X1_joined_153
      exact ok_some trivial
    · unfold f_X1_joined_153
      exact ok_some trivial
  · refine ok_if (fun c3 => ?_) (fun c3 => ?_)
    · refine ok_if (fun c4 => ?_) (fun c4 => ?_)
      · unfold f_X1_joined_165
        exact ok_some trivial
      · unfold f_X1_joined_165
        exact ok_some trivial
    · refine ok_if (fun c5 => ?_) (fun c5 => ?_)
      · refine ok_if (fun c6 => ?_) (fun c6 => ?_)
        · unfold f_X1_joined_177
          exact ok_some trivial
        · unfold f_X1_joined_177
          exact ok_some trivial
      · refine ok_if (fun c7 => ?_) (fun c7 => ?_)
        · refine ok_if (fun c8 => ?_) (fun c8 => ?_)
          · unfold f_X1_joined_189
            exact ok_some trivial
          · unfold f_X1_joined_189
            exact ok_some trivial
        · refine ok_if (fun c9 => ?_) (fun c9 => ?_)
          · refine ok_if (fun c10 => ?_) (fun c10 => ?_)
            · unfold f_X1_joined_201
              exact ok_some trivial
            · unfold f_X1_joined_201
              exact ok_some trivial
          · refine ok_if (fun c11 => ?_) (fun c11 => ?_)
            · refine ok_if (fun c12 => ?_) (fun c12 => ?_)
              · unfold f_X1_joined_213
                exact ok_some trivial
              · unfold f_X1_joined_213
                exact ok_some trivial
            · refine ok_if (fun c13 => ?_) (fun c13 => ?_)
              · exact ok_some trivial
              · refine ok_if (fun c14 => ?_) (fun c14 => ?_)
                · exact ok_some trivial
                · refine ok_if (fun c15 => ?_) (fun c15 => ?_)
                  · exact ok_some trivial
                  · refine ok_if (fun c16 => ?_) (fun c16 => ?_)
                    · refine ok_if (fun c17 => ?_) (fun c17 => ?_)
                      · unfold f_X1_joined_141
                        exact ok_some trivial
                      · refine ok_chk (fb_lgz c17) ?_
                        unfold f_X1_joined_141
                        exact ok_some trivial
                    · refine ok_if (fun c19 => ?_) (fun c19 => ?_)
                      · exact ok_some trivial
                      · refine ok_if (fun c20 => ?_) (fun c20 => ?_)
                        · exact ok_some trivial
                        · refine ok_if (fun c21 => ?_) (fun c21 => ?_)
                          · exact ok_some trivial
                          · refine ok_if (fun c22 => ?_) (fun c22 => ?_)
                            · exact ok_some trivial
                            · refine ok_if (fun c23 => ?_) (fun c23 => ?_)
                              · exact ok_some trivial
                              · refine ok_if (fun c24 => ?_) (fun c24 => ?_)
                                · exact ok_some trivial
                                · refine ok_if (fun c25 => ?_) (fun c25 => ?_)
                                  · exact ok_some trivial
                                  · refine ok_if (fun c26 => ?_) (fun c26 => ?_)
                                    · exact ok_some trivial
                                    · refine ok_if (fun c27 => ?_) (fun c27 => ?_)
                                      · exact ok_some trivial
                                      · refine ok_if (fun c28 => ?_) (fun c28 => ?_)
                                        · exact ok_some trivial
                                        · refine ok_if (fun c29 => ?_) (fun c29 => ?_)
                                          · exact ok_some trivial
                                          · refine ok_if (fun c30 => ?_) (fun c30 => ?_)
                                            · exact ok_some trivial
                                            · refine ok_if (fun c31 => ?_) (fun c31 => ?_)
                                              · exact ok_some trivial
                                              · refine ok_if (fun c32 => ?_) (fun c32 => ?_)
                                                · exact ok_some trivial
                                                · refine ok_if (fun c33 => ?_) (fun c33 => ?_)
                                                  · exact ok_some trivial
                                                  · exact ok_some trivial
theorem u_X3_cell (p1 : Int32) (p2 : Int32) (p3 : Int32) : ok (f_X3_cell p1 p2 p3) (fun a => a = ((((p1 * 3) + p2) * 5) + p3)) := by
  unfold f_X3_cell
  exact ok_some rfl
theorem u_X5_addFour_3 {h0 : HS} (x1 : Int32) : ∀ (n : Nat) (h : HS) (x2 : Int32), SC h0 h → 0 < n → (x2.toInt + 1 : Int) < (n : Int) → ok (f_X5_addFour_3  n h x1 x2) (fun a => SC h0 a ∧ True) := by
  intro n
  induction n with
  | zero =>
    intro h x2 hSC hn hm
    exact absurd hn (by decide)
  | succ n ih_X5_addFour_3 =>
    intro h x2 hSC hn hm
    rw [f_X5_addFour_3_s]
    refine ok_if (fun c1 => ?_) (fun c1 => ?_)
    · exact ok_some ⟨hSC, trivial⟩
    · refine ok_if (fun c2 => ?_) (fun c2 => ?_)
      · unfold f_X5_addFour_45
        exact ih_X5_addFour_3 h (x2 + (-8)) hSC (by have := hm; have := gi_of_nlt c1; have : ((-8) : Int32).toInt = -8 := rfl; have : (0 : Int32).toInt = 0 := rfl; have := fb_rng (x2); (try have := fb_addI (x := x2) (y := (-8)) (by omega) (by omega)); omega) (by have := hm; have := gi_of_nlt c1; have : ((-8) : Int32).toInt = -8 := rfl; have : (0 : Int32).toInt = 0 := rfl; have := fb_rng (x2); (try have := fb_addI (x := x2) (y := (-8)) (by omega) (by omega)); omega)
      · refine ok_chk (by have := IC_n hSC.1; have := hm; have := gi_of_nle c2; have : (300 : Int32).toInt = 300 := rfl; have := fb_rng (eI h 3 1); omega) ?_
        unfold f_X5_addFour_45
        exact ih_X5_addFour_3 (sI (sA h 3 0 (upd (eA h 3 0) (((eI h 3 1)).toNatClampNeg) ((x1 >>> (x2 &&& 31)) &&& 255))) 3 1 ((eI h 3 1) + 1)) (x2 + (-8)) (st_3_1 (c := (sA h 3 0 (upd (eA h 3 0) (((eI h 3 1)).toNatClampNeg) ((x1 >>> (x2 &&& 31)) &&& 255)))) (x := ((eI h 3 1) + 1)) hSC (by have := IC_n hSC.1; have := hm; have := gi_of_nle c2; have : (1 : Int32).toInt = 1 := rfl; have : (300 : Int32).toInt = 300 := rfl; have := fb_rng (eI h 3 1); (try have := fb_addI (x := (eI h 3 1)) (y := 1) (by omega) (by omega)); omega) (by have := IC_n hSC.1; have := hm; have := gi_of_nle c2; have : (1 : Int32).toInt = 1 := rfl; have : (300 : Int32).toInt = 300 := rfl; have := fb_rng (eI h 3 1); (try have := fb_addI (x := (eI h 3 1)) (y := 1) (by omega) (by omega)); omega)) (by have := hm; have := gi_of_nlt c1; have : ((-8) : Int32).toInt = -8 := rfl; have : (0 : Int32).toInt = 0 := rfl; have := fb_rng (x2); (try have := fb_addI (x := x2) (y := (-8)) (by omega) (by omega)); omega) (by have := hm; have := gi_of_nlt c1; have : ((-8) : Int32).toInt = -8 := rfl; have : (0 : Int32).toInt = 0 := rfl; have := fb_rng (x2); (try have := fb_addI (x := x2) (y := (-8)) (by omega) (by omega)); omega)
theorem u_X5_addFour (h : HS) (p1 : Int32) (hI : IC h) : ok (f_X5_addFour h p1) (fun a => SC h a ∧ True) := by
  unfold f_X5_addFour
  exact u_X5_addFour_3 (h0 := h) p1 8589934592 h 24 (SC_refl hI) (by decide) (by have : (24 : Int32).toInt = 24 := rfl; omega)
theorem u_X5_byteAt (h : HS) (p1 : Int32) (hI : IC h) : ok (f_X5_byteAt h p1) (fun a => a.2 = h ∧ True) := by
  unfold f_X5_byteAt
  refine ok_if (fun c1 => ?_) (fun c1 => ?_)
  · unfold f_X5_byteAt_30
    unfold f_X5_byteAt_31
    exact ok_some ⟨rfl, trivial⟩
  · refine ok_if (fun c2 => ?_) (fun c2 => ?_)
    · unfold f_X5_byteAt_30
      unfold f_X5_byteAt_31
      exact ok_some ⟨rfl, trivial⟩
    · refine ok_if (fun c3 => ?_) (fun c3 => ?_)
      · unfold f_X5_byteAt_30
        unfold f_X5_byteAt_31
        exact ok_some ⟨rfl, trivial⟩
      · refine ok_chk (by have := IC_n (SC_refl hI).1; have := gi_of_nlt c1; have := gi_of_nle c2; have := gi_of_nle c3; have : (0 : Int32).toInt = 0 := rfl; have : (300 : Int32).toInt = 300 := rfl; have := fb_rng (p1); have := fb_rng (eI h 3 1); omega) ?_
        unfold f_X5_byteAt_31
        exact ok_some ⟨rfl, trivial⟩
theorem u_X7_kind (h : HS) (hI : IC h) : ok (f_X7_kind h) (fun a => a.2 = h ∧ True) := by
  unfold f_X7_kind
  refine ok_if (fun c1 => ?_) (fun c1 => ?_)
  · unfold f_X7_kind_35
    unfold f_X7_kind_36
    exact ok_some ⟨rfl, trivial⟩
  · refine ok_if (fun c2 => ?_) (fun c2 => ?_)
    · unfold f_X7_kind_35
      unfold f_X7_kind_36
      exact ok_some ⟨rfl, trivial⟩
    · refine ok_chk (by have := IC_n (SC_refl hI).1; have := gi_of_nle c1; have := gi_of_nle c2; have : (301 : Int32).toInt = 301 := rfl; have := fb_rng (eI h 4 3); have := fb_rng (eI h 4 4); omega) ?_
      unfold f_X7_kind_36
      exact ok_some ⟨rfl, trivial⟩
theorem u_X7_start (h : HS) (hI : IC h) : ok (f_X7_start h) (fun a => a.2 = h ∧ True) := by
  unfold f_X7_start
  refine ok_if (fun c1 => ?_) (fun c1 => ?_)
  · unfold f_X7_start_35
    unfold f_X7_start_36
    exact ok_some ⟨rfl, trivial⟩
  · refine ok_if (fun c2 => ?_) (fun c2 => ?_)
    · unfold f_X7_start_35
      unfold f_X7_start_36
      exact ok_some ⟨rfl, trivial⟩
    · refine ok_chk (by have := IC_n (SC_refl hI).1; have := gi_of_nle c1; have := gi_of_nle c2; have : (301 : Int32).toInt = 301 := rfl; have := fb_rng (eI h 4 3); have := fb_rng (eI h 4 4); omega) ?_
      unfold f_X7_start_36
      exact ok_some ⟨rfl, trivial⟩
theorem u_X7_value (h : HS) (hI : IC h) : ok (f_X7_value h) (fun a => a.2 = h ∧ True) := by
  unfold f_X7_value
  refine ok_if (fun c1 => ?_) (fun c1 => ?_)
  · unfold f_X7_value_35
    unfold f_X7_value_36
    exact ok_some ⟨rfl, trivial⟩
  · refine ok_if (fun c2 => ?_) (fun c2 => ?_)
    · unfold f_X7_value_35
      unfold f_X7_value_36
      exact ok_some ⟨rfl, trivial⟩
    · refine ok_chk (by have := IC_n (SC_refl hI).1; have := gi_of_nle c1; have := gi_of_nle c2; have : (301 : Int32).toInt = 301 := rfl; have := fb_rng (eI h 4 3); have := fb_rng (eI h 4 4); omega) ?_
      unfold f_X7_value_36
      exact ok_some ⟨rfl, trivial⟩
theorem u_X7_advance (h : HS) (hI : IC h) : ok (f_X7_advance h) (fun a => SC h a ∧ True) := by
  unfold f_X7_advance
  refine ok_if (fun c1 => ?_) (fun c1 => ?_)
  · unfold f_X7_advance_23
    exact ok_some ⟨(SC_refl hI), trivial⟩
  · unfold f_X7_advance_23
    exact ok_some ⟨(st_4_4 (c := h) (x := ((eI h 4 4) + 1)) (SC_refl hI) (by have := IC_n (SC_refl hI).1; have := gi_of_nle c1; have : (1 : Int32).toInt = 1 := rfl; have := fb_rng (eI h 4 3); (try have := fb_subI (x := (eI h 4 3)) (y := 1) (by omega) (by omega)); have := fb_rng (eI h 4 4); (try have := fb_addI (x := (eI h 4 4)) (y := 1) (by omega) (by omega)); omega)), trivial⟩
theorem u_X7_add (h : HS) (p1 : Int32) (p2 : Int32) (p3 : Int32) (hI : IC h) : ok (f_X7_add h p1 p2 p3) (fun a => SC h a ∧ True) := by
  unfold f_X7_add
  refine ok_if (fun c1 => ?_) (fun c1 => ?_)
  · unfold f_X7_add_76
    exact ok_some ⟨(SC_refl hI), trivial⟩
  · refine ok_chk (by have := IC_n (SC_refl hI).1; have := gi_of_nle c1; have : (301 : Int32).toInt = 301 := rfl; have := fb_rng (eI h 4 3); omega) ?_
    refine ok_chk (by have := IC_n (SC_refl hI).1; have := gi_of_nle c1; have : (301 : Int32).toInt = 301 := rfl; have := fb_rng (eI h 4 3); omega) ?_
    refine ok_chk (by have := IC_n (SC_refl hI).1; have := gi_of_nle c1; have : (301 : Int32).toInt = 301 := rfl; have := fb_rng (eI h 4 3); omega) ?_
    unfold f_X7_add_76
    exact ok_some ⟨(st_4_3 (c := (sA (sA (sA h 4 0 (upd (eA h 4 0) (((eI h 4 3)).toNatClampNeg) p1)) 4 1 (upd (eA h 4 1) (((eI h 4 3)).toNatClampNeg) p2)) 4 2 (upd (eA h 4 2) (((eI h 4 3)).toNatClampNeg) p3))) (x := ((eI h 4 3) + 1)) (SC_refl hI) (by have := IC_n (SC_refl hI).1; have := gi_of_nle c1; have : (1 : Int32).toInt = 1 := rfl; have : (301 : Int32).toInt = 301 := rfl; have := fb_rng (eI h 4 3); (try have := fb_addI (x := (eI h 4 3)) (y := 1) (by omega) (by omega)); omega) (by have := IC_n (SC_refl hI).1; have := gi_of_nle c1; have : (1 : Int32).toInt = 1 := rfl; have : (301 : Int32).toInt = 301 := rfl; have := fb_rng (eI h 4 3); (try have := fb_addI (x := (eI h 4 3)) (y := 1) (by omega) (by omega)); omega)), trivial⟩
theorem u_X7_splitNumber_5 {h0 : HS} (x2 : Int32) : ∀ (n : Nat) (h : HS) (x3 : Int32) (x4 : Int32), SC h0 h → 0 < n → (300 - (x3).toInt : Int) < (n : Int) → ok (f_X7_splitNumber_5  n h x2 x3 x4) (fun a => SC h0 a.2 ∧ True) := by
  intro n
  induction n with
  | zero =>
    intro h x3 x4 hSC hn hm
    exact absurd hn (by decide)
  | succ n ih_X7_splitNumber_5 =>
    intro h x3 x4 hSC hn hm
    rw [f_X7_splitNumber_5_s]
    refine ok_if (fun c1 => ?_) (fun c1 => ?_)
    · unfold f_X7_splitNumber_52
      refine ok_ob1 (u_X7_add h 2 x2 x4 (hSC).1) (fun h2 k2 => ?_)
      have s2 : SC h0 h2 := SC_trans (b := h) hSC k2.1
      exact ok_some ⟨s2, trivial⟩
    · refine ok_ob2 (u_X5_byteAt h x3 (hSC).1) (fun r3 h3 k3 => ?_)
      have e3 : h = h3 := k3.1.symm
      subst e3
      refine ok_ob1 (u_X7_isNumeral r3) (fun r4 k4 => ?_)
      refine ok_if (fun c5 => ?_) (fun c5 => ?_)
      · unfold f_X7_splitNumber_52
        refine ok_ob1 (u_X7_add h 2 x2 x4 (hSC).1) (fun h6 k6 => ?_)
        have s6 : SC h0 h6 := SC_trans (b := h) hSC k6.1
        exact ok_some ⟨s6, trivial⟩
      · refine ok_ob2 (u_X5_byteAt h x3 (hSC).1) (fun r7 h7 k7 => ?_)
        have e7 : h = h7 := k7.1.symm
        subst e7
        exact ih_X7_splitNumber_5 h (x3 + 1) (if (((x4 * 10) + r7) - 48) < 10000 then (((x4 * 10) + r7) - 48) else 10000) hSC (by have := IC_n hSC.1; have := hm; have := gi_of_nle c1; have : (1 : Int32).toInt = 1 := rfl; have := fb_rng (eI h 3 1); have := fb_rng (x3); (try have := fb_addI (x := x3) (y := 1) (by omega) (by omega)); omega) (by have := IC_n hSC.1; have := hm; have := gi_of_nle c1; have : (1 : Int32).toInt = 1 := rfl; have := fb_rng (eI h 3 1); have := fb_rng (x3); (try have := fb_addI (x := x3) (y := 1) (by omega) (by omega)); omega)
theorem u_X7_splitNumber (h : HS) (p1 : Int32) (hI : IC h) : ok (f_X7_splitNumber h p1) (fun a => SC h a.2 ∧ True) := by
  unfold f_X7_splitNumber
  exact u_X7_splitNumber_5 (h0 := h) p1 8589934592 h p1 0 (SC_refl hI) (by decide) (by have := fb_rng (p1); omega)
theorem u_X7_splitSign (h : HS) (p1 : Int32) (hI : IC h) : ok (f_X7_splitSign h p1) (fun a => SC h a.2 ∧ True) := by
  unfold f_X7_splitSign
  refine ok_ob2 (u_X5_byteAt h p1 ((SC_refl hI)).1) (fun r1 h1 k1 => ?_)
  have e1 : h = h1 := k1.1.symm
  subst e1
  refine ok_ob1 (u_X7_signKind r1) (fun r2 k2 => ?_)
  refine ok_if (fun c3 => ?_) (fun c3 => ?_)
  · unfold f_X7_splitSign_19
    refine ok_ob2 (u_X5_byteAt h (p1 + 1) ((SC_refl hI)).1) (fun r4 h4 k4 => ?_)
    have e4 : h = h4 := k4.1.symm
    subst e4
    refine ok_if (fun c5 => ?_) (fun c5 => ?_)
    · unfold f_X7_splitSign_36
      refine ok_if (fun c6 => ?_) (fun c6 => ?_)
      · unfold f_X7_splitSign_55
        refine ok_ob1 (u_X7_add h r2 p1 0 ((SC_refl hI)).1) (fun h7 k7 => ?_)
        have s7 : SC h h7 := SC_trans (b := h) (SC_refl hI) k7.1
        refine ok_if (fun c8 => ?_) (fun c8 => ?_)
        · unfold f_X7_splitSign_76
          exact ok_some ⟨s7, trivial⟩
        · unfold f_X7_splitSign_76
          exact ok_some ⟨s7, trivial⟩
      · refine ok_if (fun c9 => ?_) (fun c9 => ?_)
        · unfold f_X7_splitSign_54
          unfold f_X7_splitSign_55
          refine ok_ob1 (u_X7_add h 4 p1 0 ((SC_refl hI)).1) (fun h10 k10 => ?_)
          have s10 : SC h h10 := SC_trans (b := h) (SC_refl hI) k10.1
          refine ok_if (fun c11 => ?_) (fun c11 => ?_)
          · unfold f_X7_splitSign_76
            exact ok_some ⟨s10, trivial⟩
          · unfold f_X7_splitSign_76
            exact ok_some ⟨s10, trivial⟩
        · unfold f_X7_splitSign_54
          unfold f_X7_splitSign_55
          refine ok_ob1 (u_X7_add h 6 p1 0 ((SC_refl hI)).1) (fun h12 k12 => ?_)
          have s12 : SC h h12 := SC_trans (b := h) (SC_refl hI) k12.1
          refine ok_if (fun c13 => ?_) (fun c13 => ?_)
          · unfold f_X7_splitSign_76
            exact ok_some ⟨s12, trivial⟩
          · unfold f_X7_splitSign_76
            exact ok_some ⟨s12, trivial⟩
    · unfold f_X7_splitSign_35
      unfold f_X7_splitSign_36
      refine ok_if (fun c14 => ?_) (fun c14 => ?_)
      · unfold f_X7_splitSign_55
        refine ok_ob1 (u_X7_add h r2 p1 0 ((SC_refl hI)).1) (fun h15 k15 => ?_)
        have s15 : SC h h15 := SC_trans (b := h) (SC_refl hI) k15.1
        refine ok_if (fun c16 => ?_) (fun c16 => ?_)
        · unfold f_X7_splitSign_76
          exact ok_some ⟨s15, trivial⟩
        · unfold f_X7_splitSign_76
          exact ok_some ⟨s15, trivial⟩
      · refine ok_if (fun c17 => ?_) (fun c17 => ?_)
        · unfold f_X7_splitSign_54
          unfold f_X7_splitSign_55
          refine ok_ob1 (u_X7_add h 4 p1 0 ((SC_refl hI)).1) (fun h18 k18 => ?_)
          have s18 : SC h h18 := SC_trans (b := h) (SC_refl hI) k18.1
          refine ok_if (fun c19 => ?_) (fun c19 => ?_)
          · unfold f_X7_splitSign_76
            exact ok_some ⟨s18, trivial⟩
          · unfold f_X7_splitSign_76
            exact ok_some ⟨s18, trivial⟩
        · unfold f_X7_splitSign_54
          unfold f_X7_splitSign_55
          refine ok_ob1 (u_X7_add h 6 p1 0 ((SC_refl hI)).1) (fun h20 k20 => ?_)
          have s20 : SC h h20 := SC_trans (b := h) (SC_refl hI) k20.1
          refine ok_if (fun c21 => ?_) (fun c21 => ?_)
          · unfold f_X7_splitSign_76
            exact ok_some ⟨s20, trivial⟩
          · unfold f_X7_splitSign_76
            exact ok_some ⟨s20, trivial⟩
  · refine ok_if (fun c22 => ?_) (fun c22 => ?_)
    · unfold f_X7_splitSign_19
      refine ok_ob2 (u_X5_byteAt h (p1 + 1) ((SC_refl hI)).1) (fun r23 h23 k23 => ?_)
      have e23 : h = h23 := k23.1.symm
      subst e23
      refine ok_if (fun c24 => ?_) (fun c24 => ?_)
      · unfold f_X7_splitSign_36
        refine ok_if (fun c25 => ?_) (fun c25 => ?_)
        · unfold f_X7_splitSign_55
          refine ok_ob1 (u_X7_add h r2 p1 0 ((SC_refl hI)).1) (fun h26 k26 => ?_)
          have s26 : SC h h26 := SC_trans (b := h) (SC_refl hI) k26.1
          refine ok_if (fun c27 => ?_) (fun c27 => ?_)
          · unfold f_X7_splitSign_76
            exact ok_some ⟨s26, trivial⟩
          · unfold f_X7_splitSign_76
            exact ok_some ⟨s26, trivial⟩
        · refine ok_if (fun c28 => ?_) (fun c28 => ?_)
          · unfold f_X7_splitSign_54
            unfold f_X7_splitSign_55
            refine ok_ob1 (u_X7_add h 4 p1 0 ((SC_refl hI)).1) (fun h29 k29 => ?_)
            have s29 : SC h h29 := SC_trans (b := h) (SC_refl hI) k29.1
            refine ok_if (fun c30 => ?_) (fun c30 => ?_)
            · unfold f_X7_splitSign_76
              exact ok_some ⟨s29, trivial⟩
            · unfold f_X7_splitSign_76
              exact ok_some ⟨s29, trivial⟩
          · unfold f_X7_splitSign_54
            unfold f_X7_splitSign_55
            refine ok_ob1 (u_X7_add h 6 p1 0 ((SC_refl hI)).1) (fun h31 k31 => ?_)
            have s31 : SC h h31 := SC_trans (b := h) (SC_refl hI) k31.1
            refine ok_if (fun c32 => ?_) (fun c32 => ?_)
            · unfold f_X7_splitSign_76
              exact ok_some ⟨s31, trivial⟩
            · unfold f_X7_splitSign_76
              exact ok_some ⟨s31, trivial⟩
      · unfold f_X7_splitSign_35
        unfold f_X7_splitSign_36
        refine ok_if (fun c33 => ?_) (fun c33 => ?_)
        · unfold f_X7_splitSign_55
          refine ok_ob1 (u_X7_add h r2 p1 0 ((SC_refl hI)).1) (fun h34 k34 => ?_)
          have s34 : SC h h34 := SC_trans (b := h) (SC_refl hI) k34.1
          refine ok_if (fun c35 => ?_) (fun c35 => ?_)
          · unfold f_X7_splitSign_76
            exact ok_some ⟨s34, trivial⟩
          · unfold f_X7_splitSign_76
            exact ok_some ⟨s34, trivial⟩
        · refine ok_if (fun c36 => ?_) (fun c36 => ?_)
          · unfold f_X7_splitSign_54
            unfold f_X7_splitSign_55
            refine ok_ob1 (u_X7_add h 4 p1 0 ((SC_refl hI)).1) (fun h37 k37 => ?_)
            have s37 : SC h h37 := SC_trans (b := h) (SC_refl hI) k37.1
            refine ok_if (fun c38 => ?_) (fun c38 => ?_)
            · unfold f_X7_splitSign_76
              exact ok_some ⟨s37, trivial⟩
            · unfold f_X7_splitSign_76
              exact ok_some ⟨s37, trivial⟩
          · unfold f_X7_splitSign_54
            unfold f_X7_splitSign_55
            refine ok_ob1 (u_X7_add h 6 p1 0 ((SC_refl hI)).1) (fun h39 k39 => ?_)
            have s39 : SC h h39 := SC_trans (b := h) (SC_refl hI) k39.1
            refine ok_if (fun c40 => ?_) (fun c40 => ?_)
            · unfold f_X7_splitSign_76
              exact ok_some ⟨s39, trivial⟩
            · unfold f_X7_splitSign_76
              exact ok_some ⟨s39, trivial⟩
    · unfold f_X7_splitSign_35
      unfold f_X7_splitSign_36
      refine ok_if (fun c41 => ?_) (fun c41 => ?_)
      · unfold f_X7_splitSign_55
        refine ok_ob1 (u_X7_add h r2 p1 0 ((SC_refl hI)).1) (fun h42 k42 => ?_)
        have s42 : SC h h42 := SC_trans (b := h) (SC_refl hI) k42.1
        refine ok_if (fun c43 => ?_) (fun c43 => ?_)
        · unfold f_X7_splitSign_76
          exact ok_some ⟨s42, trivial⟩
        · unfold f_X7_splitSign_76
          exact ok_some ⟨s42, trivial⟩
      · refine ok_if (fun c44 => ?_) (fun c44 => ?_)
        · unfold f_X7_splitSign_54
          unfold f_X7_splitSign_55
          refine ok_ob1 (u_X7_add h 4 p1 0 ((SC_refl hI)).1) (fun h45 k45 => ?_)
          have s45 : SC h h45 := SC_trans (b := h) (SC_refl hI) k45.1
          refine ok_if (fun c46 => ?_) (fun c46 => ?_)
          · unfold f_X7_splitSign_76
            exact ok_some ⟨s45, trivial⟩
          · unfold f_X7_splitSign_76
            exact ok_some ⟨s45, trivial⟩
        · unfold f_X7_splitSign_54
          unfold f_X7_splitSign_55
          refine ok_ob1 (u_X7_add h 6 p1 0 ((SC_refl hI)).1) (fun h47 k47 => ?_)
          have s47 : SC h h47 := SC_trans (b := h) (SC_refl hI) k47.1
          refine ok_if (fun c48 => ?_) (fun c48 => ?_)
          · unfold f_X7_splitSign_76
            exact ok_some ⟨s47, trivial⟩
          · unfold f_X7_splitSign_76
            exact ok_some ⟨s47, trivial⟩
theorem u_X1_push (h : HS) (p1 : Int64) (hI : IC h) : ok (f_X1_push h p1) (fun a => SC h a ∧ True) := by
  unfold f_X1_push
  refine ok_if (fun c1 => ?_) (fun c1 => ?_)
  · unfold f_X1_push_66
    exact ok_some ⟨(SC_refl hI), trivial⟩
  · refine ok_if (fun c2 => ?_) (fun c2 => ?_)
    · unfold f_X1_push_66
      exact ok_some ⟨(SC_refl hI), trivial⟩
    · refine ok_if (fun c3 => ?_) (fun c3 => ?_)
      · refine ok_if (fun c4 => ?_) (fun c4 => ?_)
        · unfold f_X1_push_55
          refine ok_chk (by have := IC_n (SC_refl hI).1; have := gi_of_nlt c1; have := gi_of_nle c2; have : (0 : Int32).toInt = 0 := rfl; have : (40 : Int32).toInt = 40 := rfl; have := fb_rng (eI h 6 3); omega) ?_
          unfold f_X1_push_66
          exact ok_some ⟨(SC_refl hI), trivial⟩
        · unfold f_X1_push_55
          refine ok_chk (by have := IC_n (SC_refl hI).1; have := gi_of_nlt c1; have := gi_of_nle c2; have : (0 : Int32).toInt = 0 := rfl; have : (40 : Int32).toInt = 40 := rfl; have := fb_rng (eI h 6 3); omega) ?_
          unfold f_X1_push_66
          exact ok_some ⟨(SC_refl hI), trivial⟩
      · unfold f_X1_push_55
        refine ok_chk (by have := IC_n (SC_refl hI).1; have := gi_of_nlt c1; have := gi_of_nle c2; have : (0 : Int32).toInt = 0 := rfl; have : (40 : Int32).toInt = 40 := rfl; have := fb_rng (eI h 6 3); omega) ?_
        unfold f_X1_push_66
        exact ok_some ⟨(SC_refl hI), trivial⟩
theorem u_X1_pop (h : HS) (hI : IC h) : ok (f_X1_pop h) (fun a => SC h a.2 ∧ True) := by
  unfold f_X1_pop
  refine ok_if (fun c1 => ?_) (fun c1 => ?_)
  · unfold f_X1_pop_20
    exact ok_some ⟨(SC_refl hI), trivial⟩
  · refine ok_if (fun c2 => ?_) (fun c2 => ?_)
    · refine ok_chk (by have := IC_n (SC_refl hI).1; have := gi_of_nlt c1; have := gi_of_le c2; have : (1 : Int32).toInt = 1 := rfl; have : (40 : Int32).toInt = 40 := rfl; have := fb_rng (eI h 6 3); (try have := fb_subI (x := (eI h 6 3)) (y := 1) (by omega) (by omega)); omega) ?_
      exact ok_some ⟨(SC_refl hI), trivial⟩
    · unfold f_X1_pop_20
      exact ok_some ⟨(SC_refl hI), trivial⟩
theorem u_X1_take (h : HS) (p1 : Int32) (hI : IC h) : ok (f_X1_take h p1) (fun a => SC h a ∧ True) := by
  unfold f_X1_take
  refine ok_if (fun c1 => ?_) (fun c1 => ?_)
  · refine ok_if (fun c2 => ?_) (fun c2 => ?_)
    · refine ok_ob2 (u_X1_pop h ((SC_refl hI)).1) (fun r3 h3 k3 => ?_)
      have s3 : SC h h3 := SC_trans (b := h) (SC_refl hI) k3.1
      refine ok_if (fun c4 => ?_) (fun c4 => ?_)
      · refine ok_ob1 (u_X1_push h3 (((1 - r3)).toInt64) (s3).1) (fun h5 k5 => ?_)
        have s5 : SC h h5 := SC_trans (b := h3) s3 k5.1
        unfold f_X1_take_128
        exact ok_some ⟨s5, trivial⟩
      · refine ok_if (fun c6 => ?_) (fun c6 => ?_)
        · refine ok_ob1 (u_X1_push h3 (((-r3)).toInt64) (s3).1) (fun h7 k7 => ?_)
          have s7 : SC h h7 := SC_trans (b := h3) s3 k7.1
          unfold f_X1_take_128
          exact ok_some ⟨s7, trivial⟩
        · refine ok_ob2 (u_X1_pop h3 (s3).1) (fun r8 h8 k8 => ?_)
          have s8 : SC h h8 := SC_trans (b := h3) s3 k8.1
          refine ok_ob1 (u_X1_joined (p1 - 20000) ((r8).toInt64) ((r3).toInt64)) (fun r9 k9 => ?_)
          refine ok_ob1 (u_X1_push h8 r9 (s8).1) (fun h10 k10 => ?_)
          have s10 : SC h h10 := SC_trans (b := h8) s8 k10.1
          unfold f_X1_take_128
          exact ok_some ⟨s10, trivial⟩
    · refine ok_if (fun c11 => ?_) (fun c11 => ?_)
      · unfold f_X1_take_47
        refine ok_ob1 (u_X1_push h 0 ((SC_refl hI)).1) (fun h12 k12 => ?_)
        have s12 : SC h h12 := SC_trans (b := h) (SC_refl hI) k12.1
        unfold f_X1_take_128
        exact ok_some ⟨s12, trivial⟩
      · refine ok_chk (by have := gi_of_le c1; have := gi_of_nle c2; have := gi_of_nle c11; have : (10000 : Int32).toInt = 10000 := rfl; have : (20000 : Int32).toInt = 20000 := rfl; have : (9 : Int32).toInt = 9 := rfl; have := fb_rng (p1); (try have := fb_subI (x := p1) (y := 10000) (by omega) (by omega)); omega) ?_
        unfold f_X1_take_47
        refine ok_ob1 (u_X1_push h ((((eA h 6 1) (((p1 - 10000)).toNatClampNeg))).toInt64) ((SC_refl hI)).1) (fun h14 k14 => ?_)
        have s14 : SC h h14 := SC_trans (b := h) (SC_refl hI) k14.1
        unfold f_X1_take_128
        exact ok_some ⟨s14, trivial⟩
  · refine ok_ob1 (u_X1_push h ((p1).toInt64) ((SC_refl hI)).1) (fun h15 k15 => ?_)
    have s15 : SC h h15 := SC_trans (b := h) (SC_refl hI) k15.1
    unfold f_X1_take_128
    exact ok_some ⟨s15, trivial⟩
theorem u_X1_without (h : HS) (p1 : Int32) (hI : IC h) : ok (f_X1_without h p1) (fun a => a.2 = h ∧ True) := by
  unfold f_X1_without
  refine ok_if (fun c1 => ?_) (fun c1 => ?_)
  · exact ok_some ⟨rfl, trivial⟩
  · refine ok_if (fun c2 => ?_) (fun c2 => ?_)
    · exact ok_some ⟨rfl, trivial⟩
    · exact ok_some ⟨rfl, trivial⟩
theorem u_X1_lookAt (h : HS) (p1 : Int32) (hI : IC h) : ok (f_X1_lookAt h p1) (fun a => SC h a ∧ True) := by
  unfold f_X1_lookAt
  refine ok_ob2 (u_X4_ofGoose (sA h 6 1 (upd (eA h 6 1) 0 p1)) p1 0 ((SC_refl hI)).1) (fun r1 h1 k1 => ?_)
  have e1 : (sA h 6 1 (upd (eA h 6 1) 0 p1)) = h1 := k1.1.symm
  subst e1
  refine ok_ob2 (u_X4_ofGoose (sA (sA h 6 1 (upd (eA h 6 1) 0 p1)) 6 1 (upd (eA (sA h 6 1 (upd (eA h 6 1) 0 p1)) 6 1) 1 r1)) p1 1 ((SC_refl hI)).1) (fun r2 h2 k2 => ?_)
  have e2 : (sA (sA h 6 1 (upd (eA h 6 1) 0 p1)) 6 1 (upd (eA (sA h 6 1 (upd (eA h 6 1) 0 p1)) 6 1) 1 r1)) = h2 := k2.1.symm
  subst e2
  refine ok_ob2 (u_X4_ofGoose (sA (sA (sA h 6 1 (upd (eA h 6 1) 0 p1)) 6 1 (upd (eA (sA h 6 1 (upd (eA h 6 1) 0 p1)) 6 1) 1 r1)) 6 1 (upd (eA (sA (sA h 6 1 (upd (eA h 6 1) 0 p1)) 6 1 (upd (eA (sA h 6 1 (upd (eA h 6 1) 0 p1)) 6 1) 1 r1)) 6 1) 2 r2)) p1 2 ((SC_refl hI)).1) (fun r3 h3 k3 => ?_)
  have e3 : (sA (sA (sA h 6 1 (upd (eA h 6 1) 0 p1)) 6 1 (upd (eA (sA h 6 1 (upd (eA h 6 1) 0 p1)) 6 1) 1 r1)) 6 1 (upd (eA (sA (sA h 6 1 (upd (eA h 6 1) 0 p1)) 6 1 (upd (eA (sA h 6 1 (upd (eA h 6 1) 0 p1)) 6 1) 1 r1)) 6 1) 2 r2)) = h3 := k3.1.symm
  subst e3
  refine ok_ob2 (u_X4_ofGoose (sA (sA (sA (sA h 6 1 (upd (eA h 6 1) 0 p1)) 6 1 (upd (eA (sA h 6 1 (upd (eA h 6 1) 0 p1)) 6 1) 1 r1)) 6 1 (upd (eA (sA (sA h 6 1 (upd (eA h 6 1) 0 p1)) 6 1 (upd (eA (sA h 6 1 (upd (eA h 6 1) 0 p1)) 6 1) 1 r1)) 6 1) 2 r2)) 6 1 (upd (eA (sA (sA (sA h 6 1 (upd (eA h 6 1) 0 p1)) 6 1 (upd (eA (sA h 6 1 (upd (eA h 6 1) 0 p1)) 6 1) 1 r1)) 6 1 (upd (eA (sA (sA h 6 1 (upd (eA h 6 1) 0 p1)) 6 1 (upd (eA (sA h 6 1 (upd (eA h 6 1) 0 p1)) 6 1) 1 r1)) 6 1) 2 r2)) 6 1) 3 r3)) p1 3 ((SC_refl hI)).1) (fun r4 h4 k4 => ?_)
  have e4 : (sA (sA (sA (sA h 6 1 (upd (eA h 6 1) 0 p1)) 6 1 (upd (eA (sA h 6 1 (upd (eA h 6 1) 0 p1)) 6 1) 1 r1)) 6 1 (upd (eA (sA (sA h 6 1 (upd (eA h 6 1) 0 p1)) 6 1 (upd (eA (sA h 6 1 (upd (eA h 6 1) 0 p1)) 6 1) 1 r1)) 6 1) 2 r2)) 6 1 (upd (eA (sA (sA (sA h 6 1 (upd (eA h 6 1) 0 p1)) 6 1 (upd (eA (sA h 6 1 (upd (eA h 6 1) 0 p1)) 6 1) 1 r1)) 6 1 (upd (eA (sA (sA h 6 1 (upd (eA h 6 1) 0 p1)) 6 1 (upd (eA (sA h 6 1 (upd (eA h 6 1) 0 p1)) 6 1) 1 r1)) 6 1) 2 r2)) 6 1) 3 r3)) = h4 := k4.1.symm
  subst e4
  exact ok_some ⟨(SC_refl hI), trivial⟩
theorem u_X1_lookAtFilled (h : HS) (p1 : Int32) (p2 : Int32) (p3 : Int32) (hI : IC h) : ok (f_X1_lookAtFilled h p1 p2 p3) (fun a => SC h a ∧ True) := by
  unfold f_X1_lookAtFilled
  refine ok_ob1 (u_X1_lookAt h p1 ((SC_refl hI)).1) (fun h1 k1 => ?_)
  have s1 : SC h h1 := SC_trans (b := h) (SC_refl hI) k1.1
  exact ok_some ⟨s1, trivial⟩
theorem u_X1_lookAtMarket (h : HS) (p1 : Int32) (p2 : Int32) (hI : IC h) : ok (f_X1_lookAtMarket h p1 p2) (fun a => SC h a ∧ True) := by
  unfold f_X1_lookAtMarket
  refine ok_ob2 (u_X4_ofMarket (sA (sA h 6 1 (upd (eA h 6 1) 5 p2)) 6 1 (upd (upd (eA h 6 1) 5 p2) 6 p1)) p1 1 ((SC_refl hI)).1) (fun r1 h1 k1 => ?_)
  have e1 : (sA (sA h 6 1 (upd (eA h 6 1) 5 p2)) 6 1 (upd (upd (eA h 6 1) 5 p2) 6 p1)) = h1 := k1.1.symm
  subst e1
  refine ok_ob2 (u_X4_ofMarket (sA (sA (sA h 6 1 (upd (eA h 6 1) 5 p2)) 6 1 (upd (upd (eA h 6 1) 5 p2) 6 p1)) 6 1 (upd (eA (sA (sA h 6 1 (upd (eA h 6 1) 5 p2)) 6 1 (upd (upd (eA h 6 1) 5 p2) 6 p1)) 6 1) 7 r1)) p1 2 ((SC_refl hI)).1) (fun r2 h2 k2 => ?_)
  have e2 : (sA (sA (sA h 6 1 (upd (eA h 6 1) 5 p2)) 6 1 (upd (upd (eA h 6 1) 5 p2) 6 p1)) 6 1 (upd (eA (sA (sA h 6 1 (upd (eA h 6 1) 5 p2)) 6 1 (upd (upd (eA h 6 1) 5 p2) 6 p1)) 6 1) 7 r1)) = h2 := k2.1.symm
  subst e2
  exact ok_some ⟨(SC_refl hI), trivial⟩
theorem u_X1_lookAtTraveller (h : HS) (p1 : Int32) (hI : IC h) : ok (f_X1_lookAtTraveller h p1) (fun a => SC h a ∧ True) := by
  unfold f_X1_lookAtTraveller
  refine ok_ob1 (u_X1_lookAt h p1 ((SC_refl hI)).1) (fun h1 k1 => ?_)
  have s1 : SC h h1 := SC_trans (b := h) (SC_refl hI) k1.1
  refine ok_ob2 (u_X4_ofGoose h1 p1 5 (s1).1) (fun r2 h2 k2 => ?_)
  have e2 : h1 = h2 := k2.1.symm
  subst e2
  refine ok_ob2 (u_X4_ofGoose h1 p1 6 (s1).1) (fun r3 h3 k3 => ?_)
  have e3 : h1 = h3 := k3.1.symm
  subst e3
  refine ok_ob1 (u_X1_lookAtMarket h1 r2 r3 (s1).1) (fun h4 k4 => ?_)
  have s4 : SC h h4 := SC_trans (b := h1) s1 k4.1
  exact ok_some ⟨s4, trivial⟩
theorem u_X6_clear_0_12 {h0 : HS} : ∀ (n : Nat) (h : HS) (x1 : Int32), SC h0 h → 0 ≤ x1.toInt → 0 < n → (4 - (x1).toInt : Int) < (n : Int) → ok (f_X6_clear_0_12  n h x1) (fun a => SC h0 a ∧ True) := by
  intro n
  induction n with
  | zero =>
    intro h x1 hSC i0 hn hm
    exact absurd hn (by decide)
  | succ n ih_X6_clear_0_12 =>
    intro h x1 hSC i0 hn hm
    rw [f_X6_clear_0_12_s]
    refine ok_if (fun c1 => ?_) (fun c1 => ?_)
    · exact ok_some ⟨hSC, trivial⟩
    · refine ok_chk (by have := i0; have := hm; have := gi_of_nle c1; have : (4 : Int32).toInt = 4 := rfl; have := fb_rng (x1); omega) ?_
      refine ok_chk (by have := i0; have := hm; have := gi_of_nle c1; have : (4 : Int32).toInt = 4 := rfl; have := fb_rng (x1); omega) ?_
      exact ih_X6_clear_0_12 (sA (sA h 9 3 (upd (eA h 9 3) ((x1).toNatClampNeg) (-1))) 9 4 (upd (eA h 9 4) ((x1).toNatClampNeg) (-1))) (x1 + 1) hSC (by have := i0; have := hm; have := gi_of_nle c1; have : (1 : Int32).toInt = 1 := rfl; have : (4 : Int32).toInt = 4 := rfl; have := fb_rng (x1); (try have := fb_addI (x := x1) (y := 1) (by omega) (by omega)); omega) (by have := i0; have := hm; have := gi_of_nle c1; have : (1 : Int32).toInt = 1 := rfl; have : (4 : Int32).toInt = 4 := rfl; have := fb_rng (x1); (try have := fb_addI (x := x1) (y := 1) (by omega) (by omega)); omega) (by have := i0; have := hm; have := gi_of_nle c1; have : (1 : Int32).toInt = 1 := rfl; have : (4 : Int32).toInt = 4 := rfl; have := fb_rng (x1); (try have := fb_addI (x := x1) (y := 1) (by omega) (by omega)); omega)
theorem u_X6_clear_0 (h : HS) (hI : IC h) : ok (f_X6_clear_0 h) (fun a => SC h a ∧ True) := by
  unfold f_X6_clear_0
  exact u_X6_clear_0_12 (h0 := h) 8589934592 (sI (sI h 9 1 0) 9 5 0) 0 (st_9_5 (c := (sI h 9 1 0)) (x := 0) (SC_refl hI) (by have : (0 : Int32).toInt = 0 := rfl; omega) (by have : (0 : Int32).toInt = 0 := rfl; omega)) (by have : (0 : Int32).toInt = 0 := rfl; omega) (by decide) (by have : (0 : Int32).toInt = 0 := rfl; omega)
theorem u_X6_hasLaw_0 (h : HS) (p1 : Int32) (hI : IC h) : ok (f_X6_hasLaw_0 h p1) (fun a => a.2 = h ∧ (a.1 = 0 ∨ a.1 = 1)) := by
  unfold f_X6_hasLaw_0
  refine ok_if (fun c1 => ?_) (fun c1 => ?_)
  · unfold f_X6_hasLaw_0_23
    unfold f_X6_hasLaw_0_24
    refine ok_chk (Or.inl rfl) ?_
    exact ok_some ⟨rfl, (Or.inl rfl)⟩
  · refine ok_if (fun c3 => ?_) (fun c3 => ?_)
    · unfold f_X6_hasLaw_0_23
      unfold f_X6_hasLaw_0_24
      refine ok_chk (Or.inl rfl) ?_
      exact ok_some ⟨rfl, (Or.inl rfl)⟩
    · refine ok_chk (by have := gi_of_nlt c1; have := gi_of_nle c3; have : (0 : Int32).toInt = 0 := rfl; have : (4 : Int32).toInt = 4 := rfl; have := fb_rng (p1); omega) ?_
      refine ok_if (fun c6 => ?_) (fun c6 => ?_)
      · unfold f_X6_hasLaw_0_23
        unfold f_X6_hasLaw_0_24
        refine ok_chk (Or.inl rfl) ?_
        exact ok_some ⟨rfl, (Or.inl rfl)⟩
      · unfold f_X6_hasLaw_0_24
        refine ok_chk (Or.inr rfl) ?_
        exact ok_some ⟨rfl, (Or.inr rfl)⟩
theorem u_X6_beginLaw_0 (h : HS) (p1 : Int32) (hI : IC h) : ok (f_X6_beginLaw_0 h p1) (fun a => SC h a ∧ True) := by
  unfold f_X6_beginLaw_0
  refine ok_if (fun c1 => ?_) (fun c1 => ?_)
  · unfold f_X6_beginLaw_0_19
    exact ok_some ⟨(SC_refl hI), trivial⟩
  · refine ok_if (fun c2 => ?_) (fun c2 => ?_)
    · unfold f_X6_beginLaw_0_19
      exact ok_some ⟨(SC_refl hI), trivial⟩
    · refine ok_chk (by have := gi_of_nlt c1; have := gi_of_nle c2; have : (0 : Int32).toInt = 0 := rfl; have : (4 : Int32).toInt = 4 := rfl; have := fb_rng (p1); omega) ?_
      unfold f_X6_beginLaw_0_19
      exact ok_some ⟨(SC_refl hI), trivial⟩
theorem u_X6_closeLaw_0 (h : HS) (p1 : Int32) (hI : IC h) : ok (f_X6_closeLaw_0 h p1) (fun a => SC h a ∧ True) := by
  unfold f_X6_closeLaw_0
  refine ok_if (fun c1 => ?_) (fun c1 => ?_)
  · unfold f_X6_closeLaw_0_19
    exact ok_some ⟨(SC_refl hI), trivial⟩
  · refine ok_if (fun c2 => ?_) (fun c2 => ?_)
    · unfold f_X6_closeLaw_0_19
      exact ok_some ⟨(SC_refl hI), trivial⟩
    · refine ok_chk (by have := gi_of_nlt c1; have := gi_of_nle c2; have : (0 : Int32).toInt = 0 := rfl; have : (4 : Int32).toInt = 4 := rfl; have := fb_rng (p1); omega) ?_
      unfold f_X6_closeLaw_0_19
      exact ok_some ⟨(SC_refl hI), trivial⟩
theorem u_X6_firstStep_0 (h : HS) (p1 : Int32) (hI : IC h) : ok (f_X6_firstStep_0 h p1) (fun a => a.2 = h ∧ True) := by
  unfold f_X6_firstStep_0
  refine ok_if (fun c1 => ?_) (fun c1 => ?_)
  · unfold f_X6_firstStep_0_18
    unfold f_X6_firstStep_0_19
    exact ok_some ⟨rfl, trivial⟩
  · refine ok_if (fun c2 => ?_) (fun c2 => ?_)
    · unfold f_X6_firstStep_0_18
      unfold f_X6_firstStep_0_19
      exact ok_some ⟨rfl, trivial⟩
    · refine ok_chk (by have := gi_of_nlt c1; have := gi_of_nle c2; have : (0 : Int32).toInt = 0 := rfl; have : (4 : Int32).toInt = 4 := rfl; have := fb_rng (p1); omega) ?_
      unfold f_X6_firstStep_0_19
      exact ok_some ⟨rfl, trivial⟩
theorem u_X6_stepsEnd_0 (h : HS) (p1 : Int32) (hI : IC h) : ok (f_X6_stepsEnd_0 h p1) (fun a => a.2 = h ∧ True) := by
  unfold f_X6_stepsEnd_0
  refine ok_if (fun c1 => ?_) (fun c1 => ?_)
  · unfold f_X6_stepsEnd_0_18
    unfold f_X6_stepsEnd_0_19
    exact ok_some ⟨rfl, trivial⟩
  · refine ok_if (fun c2 => ?_) (fun c2 => ?_)
    · unfold f_X6_stepsEnd_0_18
      unfold f_X6_stepsEnd_0_19
      exact ok_some ⟨rfl, trivial⟩
    · refine ok_chk (by have := gi_of_nlt c1; have := gi_of_nle c2; have : (0 : Int32).toInt = 0 := rfl; have : (4 : Int32).toInt = 4 := rfl; have := fb_rng (p1); omega) ?_
      unfold f_X6_stepsEnd_0_19
      exact ok_some ⟨rfl, trivial⟩
theorem u_X6_addStep_0 (h : HS) (p1 : Int32) (hI : IC h) : ok (f_X6_addStep_0 h p1) (fun a => SC h a ∧ True) := by
  unfold f_X6_addStep_0
  refine ok_if (fun c1 => ?_) (fun c1 => ?_)
  · unfold f_X6_addStep_0_32
    exact ok_some ⟨(SC_refl hI), trivial⟩
  · refine ok_chk (by have := IC_n (SC_refl hI).1; have := gi_of_nle c1; have : (300 : Int32).toInt = 300 := rfl; have := fb_rng (eI h 9 5); omega) ?_
    unfold f_X6_addStep_0_32
    exact ok_some ⟨(st_9_5 (c := (sA h 9 2 (upd (eA h 9 2) (((eI h 9 5)).toNatClampNeg) p1))) (x := ((eI h 9 5) + 1)) (SC_refl hI) (by have := IC_n (SC_refl hI).1; have := gi_of_nle c1; have : (1 : Int32).toInt = 1 := rfl; have : (300 : Int32).toInt = 300 := rfl; have := fb_rng (eI h 9 5); (try have := fb_addI (x := (eI h 9 5)) (y := 1) (by omega) (by omega)); omega) (by have := IC_n (SC_refl hI).1; have := gi_of_nle c1; have : (1 : Int32).toInt = 1 := rfl; have : (300 : Int32).toInt = 300 := rfl; have := fb_rng (eI h 9 5); (try have := fb_addI (x := (eI h 9 5)) (y := 1) (by omega) (by omega)); omega)), trivial⟩
theorem u_X6_stepAt_0 (h : HS) (p1 : Int32) (hI : IC h) : ok (f_X6_stepAt_0 h p1) (fun a => a.2 = h ∧ True) := by
  unfold f_X6_stepAt_0
  refine ok_if (fun c1 => ?_) (fun c1 => ?_)
  · unfold f_X6_stepAt_0_30
    unfold f_X6_stepAt_0_31
    exact ok_some ⟨rfl, trivial⟩
  · refine ok_if (fun c2 => ?_) (fun c2 => ?_)
    · unfold f_X6_stepAt_0_30
      unfold f_X6_stepAt_0_31
      exact ok_some ⟨rfl, trivial⟩
    · refine ok_if (fun c3 => ?_) (fun c3 => ?_)
      · unfold f_X6_stepAt_0_30
        unfold f_X6_stepAt_0_31
        exact ok_some ⟨rfl, trivial⟩
      · refine ok_chk (by have := IC_n (SC_refl hI).1; have := gi_of_nlt c1; have := gi_of_nle c2; have := gi_of_nle c3; have : (0 : Int32).toInt = 0 := rfl; have : (300 : Int32).toInt = 300 := rfl; have := fb_rng (p1); have := fb_rng (eI h 9 5); omega) ?_
        unfold f_X6_stepAt_0_31
        exact ok_some ⟨rfl, trivial⟩
theorem u_X6_clauseField_0 (h : HS) (p1 : Int32) (p2 : Int32) (hI : IC h) : ok (f_X6_clauseField_0 h p1 p2) (fun a => a.2 = h ∧ True) := by
  unfold f_X6_clauseField_0
  refine ok_if (fun c1 => ?_) (fun c1 => ?_)
  · unfold f_X6_clauseField_0_19
    exact ok_some ⟨rfl, trivial⟩
  · refine ok_if (fun c2 => ?_) (fun c2 => ?_)
    · unfold f_X6_clauseField_0_19
      exact ok_some ⟨rfl, trivial⟩
    · refine ok_if (fun c3 => ?_) (fun c3 => ?_)
      · unfold f_X6_clauseField_0_19
        exact ok_some ⟨rfl, trivial⟩
      · refine ok_if (fun c4 => ?_) (fun c4 => ?_)
        · refine ok_chk (by have := gi_of_nlt c1; have := gi_of_nle c2; have := gi_of_nlt c3; have := gi_of_lt c4; have : (0 : Int32).toInt = 0 := rfl; have : (24 : Int32).toInt = 24 := rfl; have : (4 : Int32).toInt = 4 := rfl; have := fb_rng (p1); have := fb_rng (p2); (try have := fb_mulK (x := p1) (y := 4) (k := 4) rfl (by omega) (by omega)); (try have := fb_addI (x := (p1 * 4)) (y := p2) (by omega) (by omega)); omega) ?_
          exact ok_some ⟨rfl, trivial⟩
        · unfold f_X6_clauseField_0_19
          exact ok_some ⟨rfl, trivial⟩
theorem u_X6_setClause_0 (h : HS) (p1 : Int32) (p2 : Int32) (p3 : Int32) (hI : IC h) : ok (f_X6_setClause_0 h p1 p2 p3) (fun a => SC h a ∧ True) := by
  unfold f_X6_setClause_0
  refine ok_if (fun c1 => ?_) (fun c1 => ?_)
  · unfold f_X6_setClause_0_30
    exact ok_some ⟨(SC_refl hI), trivial⟩
  · refine ok_if (fun c2 => ?_) (fun c2 => ?_)
    · unfold f_X6_setClause_0_30
      exact ok_some ⟨(SC_refl hI), trivial⟩
    · refine ok_if (fun c3 => ?_) (fun c3 => ?_)
      · unfold f_X6_setClause_0_30
        exact ok_some ⟨(SC_refl hI), trivial⟩
      · refine ok_if (fun c4 => ?_) (fun c4 => ?_)
        · unfold f_X6_setClause_0_30
          exact ok_some ⟨(SC_refl hI), trivial⟩
        · refine ok_chk (by have := gi_of_nlt c1; have := gi_of_nle c2; have := gi_of_nlt c3; have := gi_of_nle c4; have : (0 : Int32).toInt = 0 := rfl; have : (24 : Int32).toInt = 24 := rfl; have : (4 : Int32).toInt = 4 := rfl; have := fb_rng (p1); have := fb_rng (p2); (try have := fb_mulK (x := p1) (y := 4) (k := 4) rfl (by omega) (by omega)); (try have := fb_addI (x := (p1 * 4)) (y := p2) (by omega) (by omega)); omega) ?_
          unfold f_X6_setClause_0_30
          exact ok_some ⟨(SC_refl hI), trivial⟩
theorem u_X6_clear_1_12 {h0 : HS} : ∀ (n : Nat) (h : HS) (x1 : Int32), SC h0 h → 0 ≤ x1.toInt → 0 < n → (4 - (x1).toInt : Int) < (n : Int) → ok (f_X6_clear_1_12  n h x1) (fun a => SC h0 a ∧ True) := by
  intro n
  induction n with
  | zero =>
    intro h x1 hSC i0 hn hm
    exact absurd hn (by decide)
  | succ n ih_X6_clear_1_12 =>
    intro h x1 hSC i0 hn hm
    rw [f_X6_clear_1_12_s]
    refine ok_if (fun c1 => ?_) (fun c1 => ?_)
    · exact ok_some ⟨hSC, trivial⟩
    · refine ok_chk (by have := i0; have := hm; have := gi_of_nle c1; have : (4 : Int32).toInt = 4 := rfl; have := fb_rng (x1); omega) ?_
      refine ok_chk (by have := i0; have := hm; have := gi_of_nle c1; have : (4 : Int32).toInt = 4 := rfl; have := fb_rng (x1); omega) ?_
      exact ih_X6_clear_1_12 (sA (sA h 10 3 (upd (eA h 10 3) ((x1).toNatClampNeg) (-1))) 10 4 (upd (eA h 10 4) ((x1).toNatClampNeg) (-1))) (x1 + 1) hSC (by have := i0; have := hm; have := gi_of_nle c1; have : (1 : Int32).toInt = 1 := rfl; have : (4 : Int32).toInt = 4 := rfl; have := fb_rng (x1); (try have := fb_addI (x := x1) (y := 1) (by omega) (by omega)); omega) (by have := i0; have := hm; have := gi_of_nle c1; have : (1 : Int32).toInt = 1 := rfl; have : (4 : Int32).toInt = 4 := rfl; have := fb_rng (x1); (try have := fb_addI (x := x1) (y := 1) (by omega) (by omega)); omega) (by have := i0; have := hm; have := gi_of_nle c1; have : (1 : Int32).toInt = 1 := rfl; have : (4 : Int32).toInt = 4 := rfl; have := fb_rng (x1); (try have := fb_addI (x := x1) (y := 1) (by omega) (by omega)); omega)
theorem u_X6_clear_1 (h : HS) (hI : IC h) : ok (f_X6_clear_1 h) (fun a => SC h a ∧ True) := by
  unfold f_X6_clear_1
  exact u_X6_clear_1_12 (h0 := h) 8589934592 (sI (sI h 10 1 0) 10 5 0) 0 (st_10_5 (c := (sI h 10 1 0)) (x := 0) (SC_refl hI) (by have : (0 : Int32).toInt = 0 := rfl; omega) (by have : (0 : Int32).toInt = 0 := rfl; omega)) (by have : (0 : Int32).toInt = 0 := rfl; omega) (by decide) (by have : (0 : Int32).toInt = 0 := rfl; omega)
theorem u_X6_hasLaw_1 (h : HS) (p1 : Int32) (hI : IC h) : ok (f_X6_hasLaw_1 h p1) (fun a => a.2 = h ∧ (a.1 = 0 ∨ a.1 = 1)) := by
  unfold f_X6_hasLaw_1
  refine ok_if (fun c1 => ?_) (fun c1 => ?_)
  · unfold f_X6_hasLaw_1_23
    unfold f_X6_hasLaw_1_24
    refine ok_chk (Or.inl rfl) ?_
    exact ok_some ⟨rfl, (Or.inl rfl)⟩
  · refine ok_if (fun c3 => ?_) (fun c3 => ?_)
    · unfold f_X6_hasLaw_1_23
      unfold f_X6_hasLaw_1_24
      refine ok_chk (Or.inl rfl) ?_
      exact ok_some ⟨rfl, (Or.inl rfl)⟩
    · refine ok_chk (by have := gi_of_nlt c1; have := gi_of_nle c3; have : (0 : Int32).toInt = 0 := rfl; have : (4 : Int32).toInt = 4 := rfl; have := fb_rng (p1); omega) ?_
      refine ok_if (fun c6 => ?_) (fun c6 => ?_)
      · unfold f_X6_hasLaw_1_23
        unfold f_X6_hasLaw_1_24
        refine ok_chk (Or.inl rfl) ?_
        exact ok_some ⟨rfl, (Or.inl rfl)⟩
      · unfold f_X6_hasLaw_1_24
        refine ok_chk (Or.inr rfl) ?_
        exact ok_some ⟨rfl, (Or.inr rfl)⟩
theorem u_X6_beginLaw_1 (h : HS) (p1 : Int32) (hI : IC h) : ok (f_X6_beginLaw_1 h p1) (fun a => SC h a ∧ True) := by
  unfold f_X6_beginLaw_1
  refine ok_if (fun c1 => ?_) (fun c1 => ?_)
  · unfold f_X6_beginLaw_1_19
    exact ok_some ⟨(SC_refl hI), trivial⟩
  · refine ok_if (fun c2 => ?_) (fun c2 => ?_)
    · unfold f_X6_beginLaw_1_19
      exact ok_some ⟨(SC_refl hI), trivial⟩
    · refine ok_chk (by have := gi_of_nlt c1; have := gi_of_nle c2; have : (0 : Int32).toInt = 0 := rfl; have : (4 : Int32).toInt = 4 := rfl; have := fb_rng (p1); omega) ?_
      unfold f_X6_beginLaw_1_19
      exact ok_some ⟨(SC_refl hI), trivial⟩
theorem u_X6_closeLaw_1 (h : HS) (p1 : Int32) (hI : IC h) : ok (f_X6_closeLaw_1 h p1) (fun a => SC h a ∧ True) := by
  unfold f_X6_closeLaw_1
  refine ok_if (fun c1 => ?_) (fun c1 => ?_)
  · unfold f_X6_closeLaw_1_19
    exact ok_some ⟨(SC_refl hI), trivial⟩
  · refine ok_if (fun c2 => ?_) (fun c2 => ?_)
    · unfold f_X6_closeLaw_1_19
      exact ok_some ⟨(SC_refl hI), trivial⟩
    · refine ok_chk (by have := gi_of_nlt c1; have := gi_of_nle c2; have : (0 : Int32).toInt = 0 := rfl; have : (4 : Int32).toInt = 4 := rfl; have := fb_rng (p1); omega) ?_
      unfold f_X6_closeLaw_1_19
      exact ok_some ⟨(SC_refl hI), trivial⟩
theorem u_X6_firstStep_1 (h : HS) (p1 : Int32) (hI : IC h) : ok (f_X6_firstStep_1 h p1) (fun a => a.2 = h ∧ True) := by
  unfold f_X6_firstStep_1
  refine ok_if (fun c1 => ?_) (fun c1 => ?_)
  · unfold f_X6_firstStep_1_18
    unfold f_X6_firstStep_1_19
    exact ok_some ⟨rfl, trivial⟩
  · refine ok_if (fun c2 => ?_) (fun c2 => ?_)
    · unfold f_X6_firstStep_1_18
      unfold f_X6_firstStep_1_19
      exact ok_some ⟨rfl, trivial⟩
    · refine ok_chk (by have := gi_of_nlt c1; have := gi_of_nle c2; have : (0 : Int32).toInt = 0 := rfl; have : (4 : Int32).toInt = 4 := rfl; have := fb_rng (p1); omega) ?_
      unfold f_X6_firstStep_1_19
      exact ok_some ⟨rfl, trivial⟩
theorem u_X6_stepsEnd_1 (h : HS) (p1 : Int32) (hI : IC h) : ok (f_X6_stepsEnd_1 h p1) (fun a => a.2 = h ∧ True) := by
  unfold f_X6_stepsEnd_1
  refine ok_if (fun c1 => ?_) (fun c1 => ?_)
  · unfold f_X6_stepsEnd_1_18
    unfold f_X6_stepsEnd_1_19
    exact ok_some ⟨rfl, trivial⟩
  · refine ok_if (fun c2 => ?_) (fun c2 => ?_)
    · unfold f_X6_stepsEnd_1_18
      unfold f_X6_stepsEnd_1_19
      exact ok_some ⟨rfl, trivial⟩
    · refine ok_chk (by have := gi_of_nlt c1; have := gi_of_nle c2; have : (0 : Int32).toInt = 0 := rfl; have : (4 : Int32).toInt = 4 := rfl; have := fb_rng (p1); omega) ?_
      unfold f_X6_stepsEnd_1_19
      exact ok_some ⟨rfl, trivial⟩
theorem u_X6_addStep_1 (h : HS) (p1 : Int32) (hI : IC h) : ok (f_X6_addStep_1 h p1) (fun a => SC h a ∧ True) := by
  unfold f_X6_addStep_1
  refine ok_if (fun c1 => ?_) (fun c1 => ?_)
  · unfold f_X6_addStep_1_32
    exact ok_some ⟨(SC_refl hI), trivial⟩
  · refine ok_chk (by have := IC_n (SC_refl hI).1; have := gi_of_nle c1; have : (300 : Int32).toInt = 300 := rfl; have := fb_rng (eI h 10 5); omega) ?_
    unfold f_X6_addStep_1_32
    exact ok_some ⟨(st_10_5 (c := (sA h 10 2 (upd (eA h 10 2) (((eI h 10 5)).toNatClampNeg) p1))) (x := ((eI h 10 5) + 1)) (SC_refl hI) (by have := IC_n (SC_refl hI).1; have := gi_of_nle c1; have : (1 : Int32).toInt = 1 := rfl; have : (300 : Int32).toInt = 300 := rfl; have := fb_rng (eI h 10 5); (try have := fb_addI (x := (eI h 10 5)) (y := 1) (by omega) (by omega)); omega) (by have := IC_n (SC_refl hI).1; have := gi_of_nle c1; have : (1 : Int32).toInt = 1 := rfl; have : (300 : Int32).toInt = 300 := rfl; have := fb_rng (eI h 10 5); (try have := fb_addI (x := (eI h 10 5)) (y := 1) (by omega) (by omega)); omega)), trivial⟩
theorem u_X6_stepAt_1 (h : HS) (p1 : Int32) (hI : IC h) : ok (f_X6_stepAt_1 h p1) (fun a => a.2 = h ∧ True) := by
  unfold f_X6_stepAt_1
  refine ok_if (fun c1 => ?_) (fun c1 => ?_)
  · unfold f_X6_stepAt_1_30
    unfold f_X6_stepAt_1_31
    exact ok_some ⟨rfl, trivial⟩
  · refine ok_if (fun c2 => ?_) (fun c2 => ?_)
    · unfold f_X6_stepAt_1_30
      unfold f_X6_stepAt_1_31
      exact ok_some ⟨rfl, trivial⟩
    · refine ok_if (fun c3 => ?_) (fun c3 => ?_)
      · unfold f_X6_stepAt_1_30
        unfold f_X6_stepAt_1_31
        exact ok_some ⟨rfl, trivial⟩
      · refine ok_chk (by have := IC_n (SC_refl hI).1; have := gi_of_nlt c1; have := gi_of_nle c2; have := gi_of_nle c3; have : (0 : Int32).toInt = 0 := rfl; have : (300 : Int32).toInt = 300 := rfl; have := fb_rng (p1); have := fb_rng (eI h 10 5); omega) ?_
        unfold f_X6_stepAt_1_31
        exact ok_some ⟨rfl, trivial⟩
theorem u_X6_clauseField_1 (h : HS) (p1 : Int32) (p2 : Int32) (hI : IC h) : ok (f_X6_clauseField_1 h p1 p2) (fun a => a.2 = h ∧ True) := by
  unfold f_X6_clauseField_1
  refine ok_if (fun c1 => ?_) (fun c1 => ?_)
  · unfold f_X6_clauseField_1_19
    exact ok_some ⟨rfl, trivial⟩
  · refine ok_if (fun c2 => ?_) (fun c2 => ?_)
    · unfold f_X6_clauseField_1_19
      exact ok_some ⟨rfl, trivial⟩
    · refine ok_if (fun c3 => ?_) (fun c3 => ?_)
      · unfold f_X6_clauseField_1_19
        exact ok_some ⟨rfl, trivial⟩
      · refine ok_if (fun c4 => ?_) (fun c4 => ?_)
        · refine ok_chk (by have := gi_of_nlt c1; have := gi_of_nle c2; have := gi_of_nlt c3; have := gi_of_lt c4; have : (0 : Int32).toInt = 0 := rfl; have : (24 : Int32).toInt = 24 := rfl; have : (4 : Int32).toInt = 4 := rfl; have := fb_rng (p1); have := fb_rng (p2); (try have := fb_mulK (x := p1) (y := 4) (k := 4) rfl (by omega) (by omega)); (try have := fb_addI (x := (p1 * 4)) (y := p2) (by omega) (by omega)); omega) ?_
          exact ok_some ⟨rfl, trivial⟩
        · unfold f_X6_clauseField_1_19
          exact ok_some ⟨rfl, trivial⟩
theorem u_X6_setClause_1 (h : HS) (p1 : Int32) (p2 : Int32) (p3 : Int32) (hI : IC h) : ok (f_X6_setClause_1 h p1 p2 p3) (fun a => SC h a ∧ True) := by
  unfold f_X6_setClause_1
  refine ok_if (fun c1 => ?_) (fun c1 => ?_)
  · unfold f_X6_setClause_1_30
    exact ok_some ⟨(SC_refl hI), trivial⟩
  · refine ok_if (fun c2 => ?_) (fun c2 => ?_)
    · unfold f_X6_setClause_1_30
      exact ok_some ⟨(SC_refl hI), trivial⟩
    · refine ok_if (fun c3 => ?_) (fun c3 => ?_)
      · unfold f_X6_setClause_1_30
        exact ok_some ⟨(SC_refl hI), trivial⟩
      · refine ok_if (fun c4 => ?_) (fun c4 => ?_)
        · unfold f_X6_setClause_1_30
          exact ok_some ⟨(SC_refl hI), trivial⟩
        · refine ok_chk (by have := gi_of_nlt c1; have := gi_of_nle c2; have := gi_of_nlt c3; have := gi_of_nle c4; have : (0 : Int32).toInt = 0 := rfl; have : (24 : Int32).toInt = 24 := rfl; have : (4 : Int32).toInt = 4 := rfl; have := fb_rng (p1); have := fb_rng (p2); (try have := fb_mulK (x := p1) (y := 4) (k := 4) rfl (by omega) (by omega)); (try have := fb_addI (x := (p1 * 4)) (y := p2) (by omega) (by omega)); omega) ?_
          unfold f_X6_setClause_1_30
          exact ok_some ⟨(SC_refl hI), trivial⟩
theorem u_X6_clear_2_12 {h0 : HS} : ∀ (n : Nat) (h : HS) (x1 : Int32), SC h0 h → 0 ≤ x1.toInt → 0 < n → (4 - (x1).toInt : Int) < (n : Int) → ok (f_X6_clear_2_12  n h x1) (fun a => SC h0 a ∧ True) := by
  intro n
  induction n with
  | zero =>
    intro h x1 hSC i0 hn hm
    exact absurd hn (by decide)
  | succ n ih_X6_clear_2_12 =>
    intro h x1 hSC i0 hn hm
    rw [f_X6_clear_2_12_s]
    refine ok_if (fun c1 => ?_) (fun c1 => ?_)
    · exact ok_some ⟨hSC, trivial⟩
    · refine ok_chk (by have := i0; have := hm; have := gi_of_nle c1; have : (4 : Int32).toInt = 4 := rfl; have := fb_rng (x1); omega) ?_
      refine ok_chk (by have := i0; have := hm; have := gi_of_nle c1; have : (4 : Int32).toInt = 4 := rfl; have := fb_rng (x1); omega) ?_
      exact ih_X6_clear_2_12 (sA (sA h 11 3 (upd (eA h 11 3) ((x1).toNatClampNeg) (-1))) 11 4 (upd (eA h 11 4) ((x1).toNatClampNeg) (-1))) (x1 + 1) hSC (by have := i0; have := hm; have := gi_of_nle c1; have : (1 : Int32).toInt = 1 := rfl; have : (4 : Int32).toInt = 4 := rfl; have := fb_rng (x1); (try have := fb_addI (x := x1) (y := 1) (by omega) (by omega)); omega) (by have := i0; have := hm; have := gi_of_nle c1; have : (1 : Int32).toInt = 1 := rfl; have : (4 : Int32).toInt = 4 := rfl; have := fb_rng (x1); (try have := fb_addI (x := x1) (y := 1) (by omega) (by omega)); omega) (by have := i0; have := hm; have := gi_of_nle c1; have : (1 : Int32).toInt = 1 := rfl; have : (4 : Int32).toInt = 4 := rfl; have := fb_rng (x1); (try have := fb_addI (x := x1) (y := 1) (by omega) (by omega)); omega)
theorem u_X6_clear_2 (h : HS) (hI : IC h) : ok (f_X6_clear_2 h) (fun a => SC h a ∧ True) := by
  unfold f_X6_clear_2
  exact u_X6_clear_2_12 (h0 := h) 8589934592 (sI (sI h 11 1 0) 11 5 0) 0 (st_11_5 (c := (sI h 11 1 0)) (x := 0) (SC_refl hI) (by have : (0 : Int32).toInt = 0 := rfl; omega) (by have : (0 : Int32).toInt = 0 := rfl; omega)) (by have : (0 : Int32).toInt = 0 := rfl; omega) (by decide) (by have : (0 : Int32).toInt = 0 := rfl; omega)
theorem u_X6_hasLaw_2 (h : HS) (p1 : Int32) (hI : IC h) : ok (f_X6_hasLaw_2 h p1) (fun a => a.2 = h ∧ (a.1 = 0 ∨ a.1 = 1)) := by
  unfold f_X6_hasLaw_2
  refine ok_if (fun c1 => ?_) (fun c1 => ?_)
  · unfold f_X6_hasLaw_2_23
    unfold f_X6_hasLaw_2_24
    refine ok_chk (Or.inl rfl) ?_
    exact ok_some ⟨rfl, (Or.inl rfl)⟩
  · refine ok_if (fun c3 => ?_) (fun c3 => ?_)
    · unfold f_X6_hasLaw_2_23
      unfold f_X6_hasLaw_2_24
      refine ok_chk (Or.inl rfl) ?_
      exact ok_some ⟨rfl, (Or.inl rfl)⟩
    · refine ok_chk (by have := gi_of_nlt c1; have := gi_of_nle c3; have : (0 : Int32).toInt = 0 := rfl; have : (4 : Int32).toInt = 4 := rfl; have := fb_rng (p1); omega) ?_
      refine ok_if (fun c6 => ?_) (fun c6 => ?_)
      · unfold f_X6_hasLaw_2_23
        unfold f_X6_hasLaw_2_24
        refine ok_chk (Or.inl rfl) ?_
        exact ok_some ⟨rfl, (Or.inl rfl)⟩
      · unfold f_X6_hasLaw_2_24
        refine ok_chk (Or.inr rfl) ?_
        exact ok_some ⟨rfl, (Or.inr rfl)⟩
theorem u_X6_beginLaw_2 (h : HS) (p1 : Int32) (hI : IC h) : ok (f_X6_beginLaw_2 h p1) (fun a => SC h a ∧ True) := by
  unfold f_X6_beginLaw_2
  refine ok_if (fun c1 => ?_) (fun c1 => ?_)
  · unfold f_X6_beginLaw_2_19
    exact ok_some ⟨(SC_refl hI), trivial⟩
  · refine ok_if (fun c2 => ?_) (fun c2 => ?_)
    · unfold f_X6_beginLaw_2_19
      exact ok_some ⟨(SC_refl hI), trivial⟩
    · refine ok_chk (by have := gi_of_nlt c1; have := gi_of_nle c2; have : (0 : Int32).toInt = 0 := rfl; have : (4 : Int32).toInt = 4 := rfl; have := fb_rng (p1); omega) ?_
      unfold f_X6_beginLaw_2_19
      exact ok_some ⟨(SC_refl hI), trivial⟩
theorem u_X6_closeLaw_2 (h : HS) (p1 : Int32) (hI : IC h) : ok (f_X6_closeLaw_2 h p1) (fun a => SC h a ∧ True) := by
  unfold f_X6_closeLaw_2
  refine ok_if (fun c1 => ?_) (fun c1 => ?_)
  · unfold f_X6_closeLaw_2_19
    exact ok_some ⟨(SC_refl hI), trivial⟩
  · refine ok_if (fun c2 => ?_) (fun c2 => ?_)
    · unfold f_X6_closeLaw_2_19
      exact ok_some ⟨(SC_refl hI), trivial⟩
    · refine ok_chk (by have := gi_of_nlt c1; have := gi_of_nle c2; have : (0 : Int32).toInt = 0 := rfl; have : (4 : Int32).toInt = 4 := rfl; have := fb_rng (p1); omega) ?_
      unfold f_X6_closeLaw_2_19
      exact ok_some ⟨(SC_refl hI), trivial⟩
theorem u_X6_firstStep_2 (h : HS) (p1 : Int32) (hI : IC h) : ok (f_X6_firstStep_2 h p1) (fun a => a.2 = h ∧ True) := by
  unfold f_X6_firstStep_2
  refine ok_if (fun c1 => ?_) (fun c1 => ?_)
  · unfold f_X6_firstStep_2_18
    unfold f_X6_firstStep_2_19
    exact ok_some ⟨rfl, trivial⟩
  · refine ok_if (fun c2 => ?_) (fun c2 => ?_)
    · unfold f_X6_firstStep_2_18
      unfold f_X6_firstStep_2_19
      exact ok_some ⟨rfl, trivial⟩
    · refine ok_chk (by have := gi_of_nlt c1; have := gi_of_nle c2; have : (0 : Int32).toInt = 0 := rfl; have : (4 : Int32).toInt = 4 := rfl; have := fb_rng (p1); omega) ?_
      unfold f_X6_firstStep_2_19
      exact ok_some ⟨rfl, trivial⟩
theorem u_X6_stepsEnd_2 (h : HS) (p1 : Int32) (hI : IC h) : ok (f_X6_stepsEnd_2 h p1) (fun a => a.2 = h ∧ True) := by
  unfold f_X6_stepsEnd_2
  refine ok_if (fun c1 => ?_) (fun c1 => ?_)
  · unfold f_X6_stepsEnd_2_18
    unfold f_X6_stepsEnd_2_19
    exact ok_some ⟨rfl, trivial⟩
  · refine ok_if (fun c2 => ?_) (fun c2 => ?_)
    · unfold f_X6_stepsEnd_2_18
      unfold f_X6_stepsEnd_2_19
      exact ok_some ⟨rfl, trivial⟩
    · refine ok_chk (by have := gi_of_nlt c1; have := gi_of_nle c2; have : (0 : Int32).toInt = 0 := rfl; have : (4 : Int32).toInt = 4 := rfl; have := fb_rng (p1); omega) ?_
      unfold f_X6_stepsEnd_2_19
      exact ok_some ⟨rfl, trivial⟩
theorem u_X6_addStep_2 (h : HS) (p1 : Int32) (hI : IC h) : ok (f_X6_addStep_2 h p1) (fun a => SC h a ∧ True) := by
  unfold f_X6_addStep_2
  refine ok_if (fun c1 => ?_) (fun c1 => ?_)
  · unfold f_X6_addStep_2_32
    exact ok_some ⟨(SC_refl hI), trivial⟩
  · refine ok_chk (by have := IC_n (SC_refl hI).1; have := gi_of_nle c1; have : (300 : Int32).toInt = 300 := rfl; have := fb_rng (eI h 11 5); omega) ?_
    unfold f_X6_addStep_2_32
    exact ok_some ⟨(st_11_5 (c := (sA h 11 2 (upd (eA h 11 2) (((eI h 11 5)).toNatClampNeg) p1))) (x := ((eI h 11 5) + 1)) (SC_refl hI) (by have := IC_n (SC_refl hI).1; have := gi_of_nle c1; have : (1 : Int32).toInt = 1 := rfl; have : (300 : Int32).toInt = 300 := rfl; have := fb_rng (eI h 11 5); (try have := fb_addI (x := (eI h 11 5)) (y := 1) (by omega) (by omega)); omega) (by have := IC_n (SC_refl hI).1; have := gi_of_nle c1; have : (1 : Int32).toInt = 1 := rfl; have : (300 : Int32).toInt = 300 := rfl; have := fb_rng (eI h 11 5); (try have := fb_addI (x := (eI h 11 5)) (y := 1) (by omega) (by omega)); omega)), trivial⟩
theorem u_X6_stepAt_2 (h : HS) (p1 : Int32) (hI : IC h) : ok (f_X6_stepAt_2 h p1) (fun a => a.2 = h ∧ True) := by
  unfold f_X6_stepAt_2
  refine ok_if (fun c1 => ?_) (fun c1 => ?_)
  · unfold f_X6_stepAt_2_30
    unfold f_X6_stepAt_2_31
    exact ok_some ⟨rfl, trivial⟩
  · refine ok_if (fun c2 => ?_) (fun c2 => ?_)
    · unfold f_X6_stepAt_2_30
      unfold f_X6_stepAt_2_31
      exact ok_some ⟨rfl, trivial⟩
    · refine ok_if (fun c3 => ?_) (fun c3 => ?_)
      · unfold f_X6_stepAt_2_30
        unfold f_X6_stepAt_2_31
        exact ok_some ⟨rfl, trivial⟩
      · refine ok_chk (by have := IC_n (SC_refl hI).1; have := gi_of_nlt c1; have := gi_of_nle c2; have := gi_of_nle c3; have : (0 : Int32).toInt = 0 := rfl; have : (300 : Int32).toInt = 300 := rfl; have := fb_rng (p1); have := fb_rng (eI h 11 5); omega) ?_
        unfold f_X6_stepAt_2_31
        exact ok_some ⟨rfl, trivial⟩
theorem u_X6_clauseField_2 (h : HS) (p1 : Int32) (p2 : Int32) (hI : IC h) : ok (f_X6_clauseField_2 h p1 p2) (fun a => a.2 = h ∧ True) := by
  unfold f_X6_clauseField_2
  refine ok_if (fun c1 => ?_) (fun c1 => ?_)
  · unfold f_X6_clauseField_2_19
    exact ok_some ⟨rfl, trivial⟩
  · refine ok_if (fun c2 => ?_) (fun c2 => ?_)
    · unfold f_X6_clauseField_2_19
      exact ok_some ⟨rfl, trivial⟩
    · refine ok_if (fun c3 => ?_) (fun c3 => ?_)
      · unfold f_X6_clauseField_2_19
        exact ok_some ⟨rfl, trivial⟩
      · refine ok_if (fun c4 => ?_) (fun c4 => ?_)
        · refine ok_chk (by have := gi_of_nlt c1; have := gi_of_nle c2; have := gi_of_nlt c3; have := gi_of_lt c4; have : (0 : Int32).toInt = 0 := rfl; have : (24 : Int32).toInt = 24 := rfl; have : (4 : Int32).toInt = 4 := rfl; have := fb_rng (p1); have := fb_rng (p2); (try have := fb_mulK (x := p1) (y := 4) (k := 4) rfl (by omega) (by omega)); (try have := fb_addI (x := (p1 * 4)) (y := p2) (by omega) (by omega)); omega) ?_
          exact ok_some ⟨rfl, trivial⟩
        · unfold f_X6_clauseField_2_19
          exact ok_some ⟨rfl, trivial⟩
theorem u_X6_setClause_2 (h : HS) (p1 : Int32) (p2 : Int32) (p3 : Int32) (hI : IC h) : ok (f_X6_setClause_2 h p1 p2 p3) (fun a => SC h a ∧ True) := by
  unfold f_X6_setClause_2
  refine ok_if (fun c1 => ?_) (fun c1 => ?_)
  · unfold f_X6_setClause_2_30
    exact ok_some ⟨(SC_refl hI), trivial⟩
  · refine ok_if (fun c2 => ?_) (fun c2 => ?_)
    · unfold f_X6_setClause_2_30
      exact ok_some ⟨(SC_refl hI), trivial⟩
    · refine ok_if (fun c3 => ?_) (fun c3 => ?_)
      · unfold f_X6_setClause_2_30
        exact ok_some ⟨(SC_refl hI), trivial⟩
      · refine ok_if (fun c4 => ?_) (fun c4 => ?_)
        · unfold f_X6_setClause_2_30
          exact ok_some ⟨(SC_refl hI), trivial⟩
        · refine ok_chk (by have := gi_of_nlt c1; have := gi_of_nle c2; have := gi_of_nlt c3; have := gi_of_nle c4; have : (0 : Int32).toInt = 0 := rfl; have : (24 : Int32).toInt = 24 := rfl; have : (4 : Int32).toInt = 4 := rfl; have := fb_rng (p1); have := fb_rng (p2); (try have := fb_mulK (x := p1) (y := 4) (k := 4) rfl (by omega) (by omega)); (try have := fb_addI (x := (p1 * 4)) (y := p2) (by omega) (by omega)); omega) ?_
          unfold f_X6_setClause_2_30
          exact ok_some ⟨(SC_refl hI), trivial⟩
theorem u_X6_clear_3_12 {h0 : HS} : ∀ (n : Nat) (h : HS) (x1 : Int32), SC h0 h → 0 ≤ x1.toInt → 0 < n → (4 - (x1).toInt : Int) < (n : Int) → ok (f_X6_clear_3_12  n h x1) (fun a => SC h0 a ∧ True) := by
  intro n
  induction n with
  | zero =>
    intro h x1 hSC i0 hn hm
    exact absurd hn (by decide)
  | succ n ih_X6_clear_3_12 =>
    intro h x1 hSC i0 hn hm
    rw [f_X6_clear_3_12_s]
    refine ok_if (fun c1 => ?_) (fun c1 => ?_)
    · exact ok_some ⟨hSC, trivial⟩
    · refine ok_chk (by have := i0; have := hm; have := gi_of_nle c1; have : (4 : Int32).toInt = 4 := rfl; have := fb_rng (x1); omega) ?_
      refine ok_chk (by have := i0; have := hm; have := gi_of_nle c1; have : (4 : Int32).toInt = 4 := rfl; have := fb_rng (x1); omega) ?_
      exact ih_X6_clear_3_12 (sA (sA h 12 3 (upd (eA h 12 3) ((x1).toNatClampNeg) (-1))) 12 4 (upd (eA h 12 4) ((x1).toNatClampNeg) (-1))) (x1 + 1) hSC (by have := i0; have := hm; have := gi_of_nle c1; have : (1 : Int32).toInt = 1 := rfl; have : (4 : Int32).toInt = 4 := rfl; have := fb_rng (x1); (try have := fb_addI (x := x1) (y := 1) (by omega) (by omega)); omega) (by have := i0; have := hm; have := gi_of_nle c1; have : (1 : Int32).toInt = 1 := rfl; have : (4 : Int32).toInt = 4 := rfl; have := fb_rng (x1); (try have := fb_addI (x := x1) (y := 1) (by omega) (by omega)); omega) (by have := i0; have := hm; have := gi_of_nle c1; have : (1 : Int32).toInt = 1 := rfl; have : (4 : Int32).toInt = 4 := rfl; have := fb_rng (x1); (try have := fb_addI (x := x1) (y := 1) (by omega) (by omega)); omega)
theorem u_X6_clear_3 (h : HS) (hI : IC h) : ok (f_X6_clear_3 h) (fun a => SC h a ∧ True) := by
  unfold f_X6_clear_3
  exact u_X6_clear_3_12 (h0 := h) 8589934592 (sI (sI h 12 1 0) 12 5 0) 0 (st_12_5 (c := (sI h 12 1 0)) (x := 0) (SC_refl hI) (by have : (0 : Int32).toInt = 0 := rfl; omega) (by have : (0 : Int32).toInt = 0 := rfl; omega)) (by have : (0 : Int32).toInt = 0 := rfl; omega) (by decide) (by have : (0 : Int32).toInt = 0 := rfl; omega)
theorem u_X6_hasLaw_3 (h : HS) (p1 : Int32) (hI : IC h) : ok (f_X6_hasLaw_3 h p1) (fun a => a.2 = h ∧ (a.1 = 0 ∨ a.1 = 1)) := by
  unfold f_X6_hasLaw_3
  refine ok_if (fun c1 => ?_) (fun c1 => ?_)
  · unfold f_X6_hasLaw_3_23
    unfold f_X6_hasLaw_3_24
    refine ok_chk (Or.inl rfl) ?_
    exact ok_some ⟨rfl, (Or.inl rfl)⟩
  · refine ok_if (fun c3 => ?_) (fun c3 => ?_)
    · unfold f_X6_hasLaw_3_23
      unfold f_X6_hasLaw_3_24
      refine ok_chk (Or.inl rfl) ?_
      exact ok_some ⟨rfl, (Or.inl rfl)⟩
    · refine ok_chk (by have := gi_of_nlt c1; have := gi_of_nle c3; have : (0 : Int32).toInt = 0 := rfl; have : (4 : Int32).toInt = 4 := rfl; have := fb_rng (p1); omega) ?_
      refine ok_if (fun c6 => ?_) (fun c6 => ?_)
      · unfold f_X6_hasLaw_3_23
        unfold f_X6_hasLaw_3_24
        refine ok_chk (Or.inl rfl) ?_
        exact ok_some ⟨rfl, (Or.inl rfl)⟩
      · unfold f_X6_hasLaw_3_24
        refine ok_chk (Or.inr rfl) ?_
        exact ok_some ⟨rfl, (Or.inr rfl)⟩
theorem u_X6_beginLaw_3 (h : HS) (p1 : Int32) (hI : IC h) : ok (f_X6_beginLaw_3 h p1) (fun a => SC h a ∧ True) := by
  unfold f_X6_beginLaw_3
  refine ok_if (fun c1 => ?_) (fun c1 => ?_)
  · unfold f_X6_beginLaw_3_19
    exact ok_some ⟨(SC_refl hI), trivial⟩
  · refine ok_if (fun c2 => ?_) (fun c2 => ?_)
    · unfold f_X6_beginLaw_3_19
      exact ok_some ⟨(SC_refl hI), trivial⟩
    · refine ok_chk (by have := gi_of_nlt c1; have := gi_of_nle c2; have : (0 : Int32).toInt = 0 := rfl; have : (4 : Int32).toInt = 4 := rfl; have := fb_rng (p1); omega) ?_
      unfold f_X6_beginLaw_3_19
      exact ok_some ⟨(SC_refl hI), trivial⟩
theorem u_X6_closeLaw_3 (h : HS) (p1 : Int32) (hI : IC h) : ok (f_X6_closeLaw_3 h p1) (fun a => SC h a ∧ True) := by
  unfold f_X6_closeLaw_3
  refine ok_if (fun c1 => ?_) (fun c1 => ?_)
  · unfold f_X6_closeLaw_3_19
    exact ok_some ⟨(SC_refl hI), trivial⟩
  · refine ok_if (fun c2 => ?_) (fun c2 => ?_)
    · unfold f_X6_closeLaw_3_19
      exact ok_some ⟨(SC_refl hI), trivial⟩
    · refine ok_chk (by have := gi_of_nlt c1; have := gi_of_nle c2; have : (0 : Int32).toInt = 0 := rfl; have : (4 : Int32).toInt = 4 := rfl; have := fb_rng (p1); omega) ?_
      unfold f_X6_closeLaw_3_19
      exact ok_some ⟨(SC_refl hI), trivial⟩
theorem u_X6_firstStep_3 (h : HS) (p1 : Int32) (hI : IC h) : ok (f_X6_firstStep_3 h p1) (fun a => a.2 = h ∧ True) := by
  unfold f_X6_firstStep_3
  refine ok_if (fun c1 => ?_) (fun c1 => ?_)
  · unfold f_X6_firstStep_3_18
    unfold f_X6_firstStep_3_19
    exact ok_some ⟨rfl, trivial⟩
  · refine ok_if (fun c2 => ?_) (fun c2 => ?_)
    · unfold f_X6_firstStep_3_18
      unfold f_X6_firstStep_3_19
      exact ok_some ⟨rfl, trivial⟩
    · refine ok_chk (by have := gi_of_nlt c1; have := gi_of_nle c2; have : (0 : Int32).toInt = 0 := rfl; have : (4 : Int32).toInt = 4 := rfl; have := fb_rng (p1); omega) ?_
      unfold f_X6_firstStep_3_19
      exact ok_some ⟨rfl, trivial⟩
theorem u_X6_stepsEnd_3 (h : HS) (p1 : Int32) (hI : IC h) : ok (f_X6_stepsEnd_3 h p1) (fun a => a.2 = h ∧ True) := by
  unfold f_X6_stepsEnd_3
  refine ok_if (fun c1 => ?_) (fun c1 => ?_)
  · unfold f_X6_stepsEnd_3_18
    unfold f_X6_stepsEnd_3_19
    exact ok_some ⟨rfl, trivial⟩
  · refine ok_if (fun c2 => ?_) (fun c2 => ?_)
    · unfold f_X6_stepsEnd_3_18
      unfold f_X6_stepsEnd_3_19
      exact ok_some ⟨rfl, trivial⟩
    · refine ok_chk (by have := gi_of_nlt c1; have := gi_of_nle c2; have : (0 : Int32).toInt = 0 := rfl; have : (4 : Int32).toInt = 4 := rfl; have := fb_rng (p1); omega) ?_
      unfold f_X6_stepsEnd_3_19
      exact ok_some ⟨rfl, trivial⟩
theorem u_X6_addStep_3 (h : HS) (p1 : Int32) (hI : IC h) : ok (f_X6_addStep_3 h p1) (fun a => SC h a ∧ True) := by
  unfold f_X6_addStep_3
  refine ok_if (fun c1 => ?_) (fun c1 => ?_)
  · unfold f_X6_addStep_3_32
    exact ok_some ⟨(SC_refl hI), trivial⟩
  · refine ok_chk (by have := IC_n (SC_refl hI).1; have := gi_of_nle c1; have : (300 : Int32).toInt = 300 := rfl; have := fb_rng (eI h 12 5); omega) ?_
    unfold f_X6_addStep_3_32
    exact ok_some ⟨(st_12_5 (c := (sA h 12 2 (upd (eA h 12 2) (((eI h 12 5)).toNatClampNeg) p1))) (x := ((eI h 12 5) + 1)) (SC_refl hI) (by have := IC_n (SC_refl hI).1; have := gi_of_nle c1; have : (1 : Int32).toInt = 1 := rfl; have : (300 : Int32).toInt = 300 := rfl; have := fb_rng (eI h 12 5); (try have := fb_addI (x := (eI h 12 5)) (y := 1) (by omega) (by omega)); omega) (by have := IC_n (SC_refl hI).1; have := gi_of_nle c1; have : (1 : Int32).toInt = 1 := rfl; have : (300 : Int32).toInt = 300 := rfl; have := fb_rng (eI h 12 5); (try have := fb_addI (x := (eI h 12 5)) (y := 1) (by omega) (by omega)); omega)), trivial⟩
theorem u_X6_stepAt_3 (h : HS) (p1 : Int32) (hI : IC h) : ok (f_X6_stepAt_3 h p1) (fun a => a.2 = h ∧ True) := by
  unfold f_X6_stepAt_3
  refine ok_if (fun c1 => ?_) (fun c1 => ?_)
  · unfold f_X6_stepAt_3_30
    unfold f_X6_stepAt_3_31
    exact ok_some ⟨rfl, trivial⟩
  · refine ok_if (fun c2 => ?_) (fun c2 => ?_)
    · unfold f_X6_stepAt_3_30
      unfold f_X6_stepAt_3_31
      exact ok_some ⟨rfl, trivial⟩
    · refine ok_if (fun c3 => ?_) (fun c3 => ?_)
      · unfold f_X6_stepAt_3_30
        unfold f_X6_stepAt_3_31
        exact ok_some ⟨rfl, trivial⟩
      · refine ok_chk (by have := IC_n (SC_refl hI).1; have := gi_of_nlt c1; have := gi_of_nle c2; have := gi_of_nle c3; have : (0 : Int32).toInt = 0 := rfl; have : (300 : Int32).toInt = 300 := rfl; have := fb_rng (p1); have := fb_rng (eI h 12 5); omega) ?_
        unfold f_X6_stepAt_3_31
        exact ok_some ⟨rfl, trivial⟩
theorem u_X6_clauseField_3 (h : HS) (p1 : Int32) (p2 : Int32) (hI : IC h) : ok (f_X6_clauseField_3 h p1 p2) (fun a => a.2 = h ∧ True) := by
  unfold f_X6_clauseField_3
  refine ok_if (fun c1 => ?_) (fun c1 => ?_)
  · unfold f_X6_clauseField_3_19
    exact ok_some ⟨rfl, trivial⟩
  · refine ok_if (fun c2 => ?_) (fun c2 => ?_)
    · unfold f_X6_clauseField_3_19
      exact ok_some ⟨rfl, trivial⟩
    · refine ok_if (fun c3 => ?_) (fun c3 => ?_)
      · unfold f_X6_clauseField_3_19
        exact ok_some ⟨rfl, trivial⟩
      · refine ok_if (fun c4 => ?_) (fun c4 => ?_)
        · refine ok_chk (by have := gi_of_nlt c1; have := gi_of_nle c2; have := gi_of_nlt c3; have := gi_of_lt c4; have : (0 : Int32).toInt = 0 := rfl; have : (24 : Int32).toInt = 24 := rfl; have : (4 : Int32).toInt = 4 := rfl; have := fb_rng (p1); have := fb_rng (p2); (try have := fb_mulK (x := p1) (y := 4) (k := 4) rfl (by omega) (by omega)); (try have := fb_addI (x := (p1 * 4)) (y := p2) (by omega) (by omega)); omega) ?_
          exact ok_some ⟨rfl, trivial⟩
        · unfold f_X6_clauseField_3_19
          exact ok_some ⟨rfl, trivial⟩
theorem u_X6_setClause_3 (h : HS) (p1 : Int32) (p2 : Int32) (p3 : Int32) (hI : IC h) : ok (f_X6_setClause_3 h p1 p2 p3) (fun a => SC h a ∧ True) := by
  unfold f_X6_setClause_3
  refine ok_if (fun c1 => ?_) (fun c1 => ?_)
  · unfold f_X6_setClause_3_30
    exact ok_some ⟨(SC_refl hI), trivial⟩
  · refine ok_if (fun c2 => ?_) (fun c2 => ?_)
    · unfold f_X6_setClause_3_30
      exact ok_some ⟨(SC_refl hI), trivial⟩
    · refine ok_if (fun c3 => ?_) (fun c3 => ?_)
      · unfold f_X6_setClause_3_30
        exact ok_some ⟨(SC_refl hI), trivial⟩
      · refine ok_if (fun c4 => ?_) (fun c4 => ?_)
        · unfold f_X6_setClause_3_30
          exact ok_some ⟨(SC_refl hI), trivial⟩
        · refine ok_chk (by have := gi_of_nlt c1; have := gi_of_nle c2; have := gi_of_nlt c3; have := gi_of_nle c4; have : (0 : Int32).toInt = 0 := rfl; have : (24 : Int32).toInt = 24 := rfl; have : (4 : Int32).toInt = 4 := rfl; have := fb_rng (p1); have := fb_rng (p2); (try have := fb_mulK (x := p1) (y := 4) (k := 4) rfl (by omega) (by omega)); (try have := fb_addI (x := (p1 * 4)) (y := p2) (by omega) (by omega)); omega) ?_
          unfold f_X6_setClause_3_30
          exact ok_some ⟨(SC_refl hI), trivial⟩
