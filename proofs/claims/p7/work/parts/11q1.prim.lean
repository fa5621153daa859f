/-! small steps of both sides over the state -/
theorem ixg {p f : Int32} {q k : Nat} (hp : p.toInt = (q : Int)) (hf : f.toInt = (k : Int)) (hq : q < 10) (hk : k < 9) : (p * 9 + f).toInt = 9 * (q : Int) + (k : Int) ∧ (p * 9 + f).toNatClampNeg = 9 * q + k := by
  have m : (p * 9).toInt = p.toInt * 9 := fb_mulK rfl (by omega) (by omega)
  have a := fb_addI (x := p * 9) (y := f) (by omega) (by omega)
  refine ⟨by omega, ?_⟩
  show (p * 9 + f).toInt.toNat = _
  omega
theorem ixm {p f : Int32} {q k : Nat} (hp : p.toInt = (q : Int)) (hf : f.toInt = (k : Int)) (hq : q < 4) (hk : k < 3) : (p * 3 + f).toInt = 3 * (q : Int) + (k : Int) ∧ (p * 3 + f).toNatClampNeg = 3 * q + k := by
  have m : (p * 3).toInt = p.toInt * 3 := fb_mulK rfl (by omega) (by omega)
  have a := fb_addI (x := p * 3) (y := f) (by omega) (by omega)
  refine ⟨by omega, ?_⟩
  show (p * 3 + f).toInt.toNat = _
  omega
theorem cp_ofGoose {h : HS} {p f : Int32} {z : Int32 × HS} {q k : Nat} (e : f_X4_ofGoose h p f = some z) (hp : p.toInt = (q : Int)) (hf : f.toInt = (k : Int)) (hq : (q : Int) < (eI h 1 3).toInt) (h10 : (eI h 1 3).toInt ≤ 10) (hk : k < 9) : z = (eA h 1 0 (9 * q + k), h) := by
  have y0 : (0 : Int32).toInt = 0 := rfl
  have y9 : (9 : Int32).toInt = 9 := rfl
  have y10 : (10 : Int32).toInt = 10 := rfl
  obtain ⟨i1, i2⟩ := ixg hp hf (by omega) hk
  unfold f_X4_ofGoose at e
  rw [if_neg (gi_nlt (by omega)), if_neg (gi_nle (by omega)), if_neg (gi_nle (by omega)), if_neg (gi_nlt (by omega)), if_pos (gi_lt (by omega))] at e
  obtain ⟨-, e⟩ := ob_if e
  rw [i2] at e
  exact (Option.some.inj e).symm
theorem cp_ofGoose_no {h : HS} {p f : Int32} {z : Int32 × HS} (e : f_X4_ofGoose h p f = some z) (no : ¬ (0 ≤ p.toInt ∧ p.toInt < (eI h 1 3).toInt)) : z = (-1, h) := by
  have y0 : (0 : Int32).toInt = 0 := rfl
  unfold f_X4_ofGoose f_X4_ofGoose_28 at e
  by_cases c : p < 0
  · rw [if_pos c] at e; exact (Option.some.inj e).symm
  · rw [if_neg c] at e
    have d := gi_of_nlt c
    rw [if_pos (gi_le (by omega))] at e
    exact (Option.some.inj e).symm
theorem cp_hasGoose {h : HS} {p : Int32} {z : Int32 × HS} (e : f_X4_hasGoose h p = some z) (h10 : (eI h 1 3).toInt ≤ 10) : z.2 = h ∧ ((z.1 = 0 ∧ ¬ (0 ≤ p.toInt ∧ p.toInt < (eI h 1 3).toInt)) ∨ (z.1 = 1 ∧ 0 ≤ p.toInt ∧ p.toInt < (eI h 1 3).toInt)) := by
  have y0 : (0 : Int32).toInt = 0 := rfl
  have y10 : (10 : Int32).toInt = 10 := rfl
  unfold f_X4_hasGoose f_X4_hasGoose_22 f_X4_hasGoose_23 at e
  rw [if_pos (Or.inl rfl), if_pos (Or.inr rfl)] at e
  by_cases c : p < 0
  · rw [if_pos c] at e
    have d := gi_of_lt c
    cases e
    exact ⟨rfl, Or.inl ⟨rfl, by omega⟩⟩
  · rw [if_neg c] at e
    have d := gi_of_nlt c
    by_cases c2 : eI h 1 3 ≤ p
    · rw [if_pos c2] at e
      have d2 := gi_of_le c2
      cases e
      exact ⟨rfl, Or.inl ⟨rfl, by omega⟩⟩
    · rw [if_neg c2] at e
      have d2 := gi_of_nle c2
      rw [if_neg (gi_nle (by omega))] at e
      cases e
      exact ⟨rfl, Or.inr ⟨rfl, by omega, by omega⟩⟩
theorem cp_hasMarket {h : HS} {p : Int32} {z : Int32 × HS} (e : f_X4_hasMarket h p = some z) (h4 : (eI h 1 4).toInt ≤ 4) : z.2 = h ∧ ((z.1 = 0 ∧ ¬ (0 ≤ p.toInt ∧ p.toInt < (eI h 1 4).toInt)) ∨ (z.1 = 1 ∧ 0 ≤ p.toInt ∧ p.toInt < (eI h 1 4).toInt)) := by
  have y0 : (0 : Int32).toInt = 0 := rfl
  have y4 : (4 : Int32).toInt = 4 := rfl
  unfold f_X4_hasMarket f_X4_hasMarket_21 f_X4_hasMarket_22 at e
  rw [if_pos (Or.inl rfl), if_pos (Or.inr rfl)] at e
  by_cases c : p < 0
  · rw [if_pos c] at e
    have d := gi_of_lt c
    cases e
    exact ⟨rfl, Or.inl ⟨rfl, by omega⟩⟩
  · rw [if_neg c] at e
    have d := gi_of_nlt c
    by_cases c2 : eI h 1 4 ≤ p
    · rw [if_pos c2] at e
      have d2 := gi_of_le c2
      cases e
      exact ⟨rfl, Or.inl ⟨rfl, by omega⟩⟩
    · rw [if_neg c2] at e
      have d2 := gi_of_nle c2
      rw [if_neg (gi_nle (by omega))] at e
      cases e
      exact ⟨rfl, Or.inr ⟨rfl, by omega, by omega⟩⟩
theorem cp_ofMarket {h : HS} {p f : Int32} {z : Int32 × HS} {q k : Nat} (e : f_X4_ofMarket h p f = some z) (hp : p.toInt = (q : Int)) (hf : f.toInt = (k : Int)) (hq : (q : Int) < (eI h 1 4).toInt) (h4 : (eI h 1 4).toInt ≤ 4) (hk : k < 3) : z = (eA h 1 1 (3 * q + k), h) := by
  have y0 : (0 : Int32).toInt = 0 := rfl
  have y3 : (3 : Int32).toInt = 3 := rfl
  have y4 : (4 : Int32).toInt = 4 := rfl
  obtain ⟨i1, i2⟩ := ixm hp hf (by omega) hk
  unfold f_X4_ofMarket at e
  rw [if_neg (gi_nlt (by omega)), if_neg (gi_nle (by omega)), if_neg (gi_nle (by omega)), if_neg (gi_nlt (by omega)), if_pos (gi_lt (by omega))] at e
  obtain ⟨-, e⟩ := ob_if e
  rw [i2] at e
  exact (Option.some.inj e).symm
theorem cp_setGoose {h h' : HS} {p f v : Int32} {q k : Nat} (e : f_X4_setGoose h p f v = some h') (hp : p.toInt = (q : Int)) (hf : f.toInt = (k : Int)) (hq : (q : Int) < (eI h 1 3).toInt) (h10 : (eI h 1 3).toInt ≤ 10) (hk : k < 9) : h' = sA h 1 0 (upd (eA h 1 0) (9 * q + k) v) := by
  have y0 : (0 : Int32).toInt = 0 := rfl
  have y9 : (9 : Int32).toInt = 9 := rfl
  obtain ⟨i1, i2⟩ := ixg hp hf (by omega) hk
  unfold f_X4_setGoose f_X4_setGoose_30 at e
  obtain ⟨r1, h1, e1, e⟩ := ob2_some e
  obtain ⟨k1, k2⟩ := cp_hasGoose e1 h10
  have k1 : h = h1 := k1.symm
  subst k1
  have k2 : (r1 = 0 ∧ ¬ (0 ≤ p.toInt ∧ p.toInt < (eI h 1 3).toInt)) ∨ (r1 = 1 ∧ 0 ≤ p.toInt ∧ p.toInt < (eI h 1 3).toInt) := k2
  rcases k2 with ⟨k2, k3⟩ | ⟨k2, k3, k4⟩
  · exact absurd ⟨by omega, by omega⟩ k3
  · rw [if_neg (by rw [k2]; decide), if_neg (gi_nlt (by omega)), if_neg (gi_nle (by omega))] at e
    obtain ⟨-, e⟩ := ob_if e
    rw [i2] at e
    exact (Option.some.inj e).symm
theorem cp_isHome {h : HS} {p : Int32} {z : Int32 × HS} (e : f_X4_isHome h p = some z) (h10 : (eI h 1 3).toInt ≤ 10) : z.2 = h ∧ ((z.1 = 1 ∧ ∃ q : Nat, p.toInt = (q : Int) ∧ (q : Int) < (eI h 1 3).toInt ∧ eA h 1 0 (9 * q + 4) = 0) ∨ (z.1 = 0 ∧ ∀ q : Nat, p.toInt = (q : Int) → (q : Int) < (eI h 1 3).toInt → ¬ eA h 1 0 (9 * q + 4) = 0)) := by
  unfold f_X4_isHome f_X4_isHome_14 at e
  obtain ⟨r1, h1, e1, e⟩ := ob2_some e
  by_cases c : 0 ≤ p.toInt ∧ p.toInt < (eI h 1 3).toInt
  · have k := cp_ofGoose (q := p.toInt.toNat) (k := 4) e1 (by omega) rfl (by omega) h10 (by decide)
    have k1 : r1 = eA h 1 0 (9 * p.toInt.toNat + 4) := congrArg Prod.fst k
    have k2 : h = h1 := (congrArg Prod.snd k).symm
    subst k2
    by_cases c0 : r1 = 0
    · rw [if_pos c0] at e
      rw [if_pos (Or.inr rfl)] at e
      cases e
      exact ⟨rfl, Or.inl ⟨rfl, p.toInt.toNat, by omega, by omega, k1.symm.trans c0⟩⟩
    · rw [if_neg c0] at e
      rw [if_pos (Or.inl rfl)] at e
      cases e
      refine ⟨rfl, Or.inr ⟨rfl, fun q hq _ => ?_⟩⟩
      rw [show q = p.toInt.toNat by omega, ← k1]
      exact c0
  · have k := cp_ofGoose_no e1 c
    have k1 : r1 = -1 := congrArg Prod.fst k
    have k2 : h = h1 := (congrArg Prod.snd k).symm
    subst k2
    rw [if_neg (by rw [k1]; decide)] at e
    rw [if_pos (Or.inl rfl)] at e
    cases e
    exact ⟨rfl, Or.inr ⟨rfl, fun q hq h2 => by omega⟩⟩
theorem cp_isFree {h : HS} {p : Int32} {z : Int32 × HS} (e : f_X4_isFree h p = some z) (h10 : (eI h 1 3).toInt ≤ 10) : z.2 = h ∧ ((z.1 = 1 ∧ ∃ q : Nat, p.toInt = (q : Int) ∧ (q : Int) < (eI h 1 3).toInt ∧ eA h 1 0 (9 * q + 4) = 0 ∧ eA h 1 0 (9 * q + 8) = 0) ∨ (z.1 = 0 ∧ ∀ q : Nat, p.toInt = (q : Int) → (q : Int) < (eI h 1 3).toInt → ¬ (eA h 1 0 (9 * q + 4) = 0 ∧ eA h 1 0 (9 * q + 8) = 0))) := by
  unfold f_X4_isFree f_X4_isFree_22 f_X4_isFree_23 at e
  obtain ⟨r1, h1, e1, e⟩ := ob2_some e
  obtain ⟨k1, k2⟩ := cp_isHome e1 h10
  have k1 : h = h1 := k1.symm
  subst k1
  have k2 : (r1 = 1 ∧ ∃ q : Nat, p.toInt = (q : Int) ∧ (q : Int) < (eI h 1 3).toInt ∧ eA h 1 0 (9 * q + 4) = 0) ∨ (r1 = 0 ∧ ∀ q : Nat, p.toInt = (q : Int) → (q : Int) < (eI h 1 3).toInt → ¬ eA h 1 0 (9 * q + 4) = 0) := k2
  rcases k2 with ⟨k2, q, k3, k4, k5⟩ | ⟨k2, k3⟩
  · rw [if_neg (by rw [k2]; decide)] at e
    obtain ⟨r3, h3, e3, e⟩ := ob2_some e
    have k := cp_ofGoose (q := q) (k := 8) e3 k3 rfl k4 h10 (by decide)
    have k6 : r3 = eA h 1 0 (9 * q + 8) := congrArg Prod.fst k
    have k7 : h = h3 := (congrArg Prod.snd k).symm
    subst k7
    by_cases c0 : r3 = 0
    · rw [if_pos c0] at e
      rw [if_pos (Or.inr rfl)] at e
      cases e
      exact ⟨rfl, Or.inl ⟨rfl, q, k3, k4, k5, k6.symm.trans c0⟩⟩
    · rw [if_neg c0] at e
      rw [if_pos (Or.inl rfl)] at e
      cases e
      refine ⟨rfl, Or.inr ⟨rfl, fun q' hq _ w => c0 ?_⟩⟩
      rw [k6, show q = q' by omega]
      exact w.2
  · rw [if_pos k2] at e
    rw [if_pos (Or.inl rfl)] at e
    cases e
    exact ⟨rfl, Or.inr ⟨rfl, fun q hq h2 w => k3 q hq h2 w.1⟩⟩
/-! the reference -/
theorem mp_isGoose {g : HS} {p : Int32} {z : Int32 × HS} (e : f_X9_isGoose g p = some z) (r : 0 ≤ (eA g 0 0 1).toInt ∧ (eA g 0 0 1).toInt ≤ 10) : z.2 = g ∧ ((z.1 = 0 ∧ ¬ (0 ≤ p.toInt ∧ p.toInt < (eA g 0 0 1).toInt)) ∨ (z.1 = 1 ∧ 0 ≤ p.toInt ∧ p.toInt < (eA g 0 0 1).toInt)) := by
  have y0 : (0 : Int32).toInt = 0 := rfl
  have y1 : (1 : Int32).toInt = 1 := rfl
  have s := fb_subI (x := eA g 0 0 1) (y := 1) (by omega) (by omega)
  unfold f_X9_isGoose at e
  obtain ⟨r1, e1, e⟩ := ob1_some e
  obtain ⟨-, e⟩ := ob_if e
  cases e
  rcases mx_in e1 with ⟨k, q⟩ | ⟨k, q⟩
  · exact ⟨rfl, Or.inl ⟨k, by omega⟩⟩
  · exact ⟨rfl, Or.inr ⟨k, by omega, by omega⟩⟩
theorem mp_isMarket {g : HS} {p : Int32} {z : Int32 × HS} (e : f_X9_isMarket g p = some z) (r : 0 ≤ (eA g 0 0 0).toInt ∧ (eA g 0 0 0).toInt ≤ 4) : z.2 = g ∧ ((z.1 = 0 ∧ ¬ (0 ≤ p.toInt ∧ p.toInt < (eA g 0 0 0).toInt)) ∨ (z.1 = 1 ∧ 0 ≤ p.toInt ∧ p.toInt < (eA g 0 0 0).toInt)) := by
  have y0 : (0 : Int32).toInt = 0 := rfl
  have y1 : (1 : Int32).toInt = 1 := rfl
  have s := fb_subI (x := eA g 0 0 0) (y := 1) (by omega) (by omega)
  unfold f_X9_isMarket at e
  obtain ⟨r1, e1, e⟩ := ob1_some e
  obtain ⟨-, e⟩ := ob_if e
  cases e
  rcases mx_in e1 with ⟨k, q⟩ | ⟨k, q⟩
  · exact ⟨rfl, Or.inl ⟨k, by omega⟩⟩
  · exact ⟨rfl, Or.inr ⟨k, by omega, by omega⟩⟩
theorem ixr {p f : Int32} {q k : Nat} (hp : p.toInt = (q : Int)) (hf : f.toInt = (k : Int)) (hq : q < 10) (hk : k < 9) : ((30 + 9 * p) + f).toNatClampNeg = 30 + (9 * q + k) := by
  have z : (30 : Int32).toInt = 30 := rfl
  have e1 : (9 * p).toInt = 9 * p.toInt := fb_mulJ rfl (by omega) (by omega)
  have e2 : (30 + 9 * p).toInt = (30 : Int32).toInt + (9 * p).toInt := fb_addI (by omega) (by omega)
  have e3 : ((30 + 9 * p) + f).toInt = (30 + 9 * p).toInt + f.toInt := fb_addI (by omega) (by omega)
  show ((30 + 9 * p) + f).toInt.toNat = _
  omega
theorem mp_ofGoose {g : HS} {p f : Int32} {z : Int32 × HS} {q k : Nat} (e : f_X9_ofGoose g p f = some z) (hp : p.toInt = (q : Int)) (hf : f.toInt = (k : Int)) (hq : q < 10) (hk : k < 9) : z = (gc (eA g 0 0) 30 q k, g) := by
  unfold f_X9_ofGoose at e
  obtain ⟨-, e⟩ := ob_if e
  rw [ixr hp hf hq hk] at e
  exact (Option.some.inj e).symm
theorem mp_puts {g g' : HS} {p f v : Int32} {q k : Nat} (e : f_X9_puts g p f v = some g') (hp : p.toInt = (q : Int)) (hf : f.toInt = (k : Int)) (hq : q < 10) (hk : k < 9) : g' = sA g 0 0 (upd (eA g 0 0) (30 + (9 * q + k)) v) := by
  unfold f_X9_puts at e
  obtain ⟨-, e⟩ := ob_if e
  rw [ixr hp hf hq hk] at e
  exact (Option.some.inj e).symm
theorem mp_isHome {g : HS} {p : Int32} {z : Int32 × HS} (e : f_X9_isHome g p = some z) (r : 0 ≤ (eA g 0 0 1).toInt ∧ (eA g 0 0 1).toInt ≤ 10) : z.2 = g ∧ ((z.1 = 1 ∧ ∃ q : Nat, p.toInt = (q : Int) ∧ (q : Int) < (eA g 0 0 1).toInt ∧ gc (eA g 0 0) 30 q 4 = 0) ∨ (z.1 = 0 ∧ ∀ q : Nat, p.toInt = (q : Int) → (q : Int) < (eA g 0 0 1).toInt → ¬ gc (eA g 0 0) 30 q 4 = 0)) := by
  unfold f_X9_isHome f_X9_isHome_21 f_X9_isHome_22 at e
  obtain ⟨r1, h1, e1, e⟩ := ob2_some e
  obtain ⟨k1, k2⟩ := mp_isGoose e1 r
  have k1 : g = h1 := k1.symm
  subst k1
  have k2 : (r1 = 0 ∧ ¬ (0 ≤ p.toInt ∧ p.toInt < (eA g 0 0 1).toInt)) ∨ (r1 = 1 ∧ 0 ≤ p.toInt ∧ p.toInt < (eA g 0 0 1).toInt) := k2
  rcases k2 with ⟨k2, k3⟩ | ⟨k2, k3, k4⟩
  · rw [if_pos k2] at e
    rw [if_pos (Or.inl rfl)] at e
    cases e
    exact ⟨rfl, Or.inr ⟨rfl, fun q hq h2 => by omega⟩⟩
  · rw [if_neg (by rw [k2]; decide)] at e
    obtain ⟨r3, h3, e3, e⟩ := ob2_some e
    have k := mp_ofGoose (q := p.toInt.toNat) (k := 4) e3 (by omega) rfl (by omega) (by decide)
    have k6 : r3 = gc (eA g 0 0) 30 p.toInt.toNat 4 := congrArg Prod.fst k
    have k7 : g = h3 := (congrArg Prod.snd k).symm
    subst k7
    by_cases c0 : r3 = 0
    · rw [if_pos c0] at e
      rw [if_pos (Or.inr rfl)] at e
      cases e
      exact ⟨rfl, Or.inl ⟨rfl, p.toInt.toNat, by omega, by omega, k6.symm.trans c0⟩⟩
    · rw [if_neg c0] at e
      rw [if_pos (Or.inl rfl)] at e
      cases e
      refine ⟨rfl, Or.inr ⟨rfl, fun q hq _ => ?_⟩⟩
      rw [show q = p.toInt.toNat by omega, ← k6]
      exact c0
/-! quills -/
theorem cp_isLetter {p r : Int32} (e : f_X8_isLetter p = some r) : (r = 0 ∧ ¬ (0 ≤ p.toInt ∧ p.toInt ≤ 5)) ∨ (r = 1 ∧ (0 ≤ p.toInt ∧ p.toInt ≤ 5)) := by
  have y0 : (0 : Int32).toInt = 0 := rfl
  have y6 : (6 : Int32).toInt = 6 := rfl
  unfold f_X8_isLetter f_X8_isLetter_14 f_X8_isLetter_15 at e
  rw [if_pos (Or.inl rfl), if_pos (Or.inr rfl)] at e
  by_cases c : p < 0
  · rw [if_pos c] at e
    have d := gi_of_lt c
    cases e
    exact Or.inl ⟨rfl, by omega⟩
  · rw [if_neg c] at e
    have d := gi_of_nlt c
    by_cases c2 : (6 : Int32) ≤ p
    · rw [if_pos c2] at e
      have d2 := gi_of_le c2
      cases e
      exact Or.inl ⟨rfl, by omega⟩
    · rw [if_neg c2] at e
      have d2 := gi_of_nle c2
      cases e
      exact Or.inr ⟨rfl, by omega, by omega⟩
def QUI (p r : Int32) : Prop := (0 ≤ p.toInt ∧ p.toInt ≤ 5) ∧ (0 ≤ r.toInt ∧ r.toInt ≤ 2)
theorem cp_isQuill {p1 p2 r : Int32} (e : f_X8_isQuill p1 p2 = some r) : (r = 0 ∧ ¬ QUI p1 p2) ∨ (r = 1 ∧ QUI p1 p2) := by
  have y0 : (0 : Int32).toInt = 0 := rfl
  have y3 : (3 : Int32).toInt = 3 := rfl
  unfold f_X8_isQuill f_X8_isQuill_20 f_X8_isQuill_21 at e
  rw [if_pos (Or.inl rfl), if_pos (Or.inr rfl)] at e
  obtain ⟨r1, e1, e⟩ := ob1_some e
  unfold QUI
  rcases cp_isLetter e1 with ⟨k, q⟩ | ⟨k, q⟩
  · rw [if_pos k] at e
    cases e
    exact Or.inl ⟨rfl, fun w => q w.1⟩
  · rw [if_neg (by rw [k]; decide)] at e
    by_cases c : p2 < 0
    · rw [if_pos c] at e
      have d := gi_of_lt c
      cases e
      exact Or.inl ⟨rfl, by omega⟩
    · rw [if_neg c] at e
      have d := gi_of_nlt c
      by_cases c2 : (3 : Int32) ≤ p2
      · rw [if_pos c2] at e
        have d2 := gi_of_le c2
        cases e
        exact Or.inl ⟨rfl, by omega⟩
      · rw [if_neg c2] at e
        have d2 := gi_of_nle c2
        cases e
        exact Or.inr ⟨rfl, q, by omega, by omega⟩
