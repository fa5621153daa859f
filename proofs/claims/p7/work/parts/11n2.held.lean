def hldI (v lim : Int) : Int := if v < 0 then 0 else if lim < v then lim else v
theorem held_ok {v : Int64} {lim r : Int32} (e : f_X9_held v 0 lim = some r) : r.toInt = hldI v.toInt lim.toInt ∨ lim.toInt < 0 := by
  have z0 : (0 : Int32).toInt64.toInt = 0 := rfl
  have y0 : (0 : Int32).toInt = 0 := rfl
  unfold f_X9_held f_X9_held_24 at e
  unfold hldI
  by_cases c1 : 0 ≤ lg_cmp v (0 : Int32).toInt64
  · rw [if_pos c1] at e
    have d1 := q_ge c1
    by_cases c2 : lg_cmp v lim.toInt64 ≤ 0
    · rw [if_pos c2] at e
      have d2 := q_le c2
      rw [Int32.toInt_toInt64] at d2
      cases e
      have lr := fb_rng lim
      left
      rw [if_neg (by omega), if_neg (by omega), Int64.toInt_toInt32, fb_bmod (by omega) (by omega)]
    · rw [if_neg c2] at e
      have d2 := q_nle c2
      rw [Int32.toInt_toInt64] at d2
      cases e
      left
      rw [if_neg (by omega), if_pos (by omega)]
  · rw [if_neg c1] at e
    have d1 := q_nge c1
    cases e
    left
    rw [if_pos (by omega)]
    exact y0
/-- what the class makes of the last value -/
theorem hold_cls {v lim : Int32} (l : 0 ≤ lim.toInt) : (if (0 : Int32) < (if v < lim then v else lim) then (if v < lim then v else lim) else (0 : Int32)).toInt = hldI v.toInt lim.toInt := by
  have y0 : (0 : Int32).toInt = 0 := rfl
  unfold hldI
  by_cases c1 : v < lim
  · rw [if_pos c1]
    have d1 := gi_of_lt c1
    by_cases c2 : (0 : Int32) < v
    · rw [if_pos c2]
      have d2 := gi_of_lt c2
      rw [if_neg (by omega), if_neg (by omega)]
    · rw [if_neg c2]
      have d2 := gi_of_nlt c2
      by_cases c3 : v.toInt < 0
      · rw [if_pos c3]; exact y0
      · rw [if_neg c3, if_neg (by omega)]; omega
  · rw [if_neg c1]
    have d1 := gi_of_nlt c1
    by_cases c2 : (0 : Int32) < lim
    · rw [if_pos c2]
      have d2 := gi_of_lt c2
      rw [if_neg (by omega)]
      by_cases c3 : lim.toInt < v.toInt
      · rw [if_pos c3]
      · rw [if_neg c3]; omega
    · rw [if_neg c2]
      have d2 := gi_of_nlt c2
      rw [if_neg (by omega)]
      by_cases c3 : lim.toInt < v.toInt
      · rw [if_pos c3]; omega
      · rw [if_neg c3]; omega
/-- what both make of a law: the answer as a number, the class's held one -/
def SAYS (lw : Int32) (r : Int32 × HS) (w : Int64 × HS) : Prop := MB w.1.toInt ∧ (lw.toInt = 3 → w.1.toInt = 0 ∨ w.1.toInt = 1) ∧ (lw.toInt = 2 → r.1.toInt = hldI w.1.toInt 99) ∧ (¬ lw.toInt = 2 → r.1.toInt = hldI w.1.toInt 10)
def NMA (st nc nr : Nat → Int32) (a b : Int) : Prop := ∀ i : Nat, a ≤ (i : Int) → (i : Int) < b → 10000 ≤ (st i).toInt → (st i).toInt < 20000 → nc ((st i).toInt - 10000).toNat = nr ((st i).toInt - 10000).toNat ∧ MB (nc ((st i).toInt - 10000).toNat).toInt
theorem ty_cons {st : Nat → Int32} {lim n i : Nat} {S T : List Bool} (h : ty st lim (n + 1) i S = some T) : ∃ S' : List Bool, step1 (st i).toInt S = some S' ∧ S'.length ≤ lim ∧ ty st lim n (i + 1) S' = some T := by
  unfold ty at h
  cases hs : step1 (st i).toInt S with
  | none => rw [hs] at h; cases h
  | some S' =>
    rw [hs] at h
    have h : (if S'.length ≤ lim then ty st lim n (i + 1) S' else none) = some T := h
    obtain ⟨c, h⟩ := ob_if h
    exact ⟨S', rfl, c, h⟩
theorem ev_end {h g : HS} {lw : Int32} {b : Bool} {r : Int32 × HS} {x2 x3 : Int32} {m : Nat} {w : Int64 × HS} (e1 : (if lw = 2 then f_X1_rule_82 h 99 0 else f_X1_rule_82 h 10 0) = some r) (e2 : f_X9_saysOf_4 m g x2 x3 = some w) (od : eA g 0 12 x3.toInt.toNat = 408) (tp : (eI h 6 3).toInt = 1) (sk : STK [b] (eA h 6 2) (eJ g 0 40)) (lb : lw.toInt = 3 → b = true) : SAYS lw r w := by
  have y2 : (2 : Int32).toInt = 2 := rfl
  have ix3 : x3.toNatClampNeg = x3.toInt.toNat := rfl
  obtain ⟨s1, s2, s3, -⟩ := sk
  have s1 : (eJ g 0 40 0).toInt = (eA h 6 2 0).toInt := s1
  have s2 : MB (eA h 6 2 0).toInt := s2
  have s3 : b = true → (eA h 6 2 0).toInt = 0 ∨ (eA h 6 2 0).toInt = 1 := s3
  cases m with
  | zero => cases e2
  | succ m =>
    rw [f_X9_saysOf_4_s, ix3] at e2
    obtain ⟨-, e2⟩ := ob_if e2
    rw [if_pos od] at e2
    have we : w = (eJ g 0 40 0, g) := (Option.some.inj e2).symm
    have main : ∀ lim : Int32, 0 ≤ lim.toInt → f_X1_rule_82 h lim 0 = some r → r.1.toInt = hldI w.1.toInt lim.toInt := by
      intro lim l e
      unfold f_X1_rule_82 at e
      obtain ⟨r43, h43, e43, e⟩ := ob2_some e
      obtain ⟨q1, -⟩ := cp_pop e43 (by omega) (by omega)
      have iz : ((eI h 6 3).toInt - 1).toNat = 0 := by omega
      rw [iz] at q1
      have q2 : r43 = eA h 6 2 0 := congrArg Prod.fst q1
      cases e
      show (if (0 : Int32) < (if r43 < lim then r43 else lim) then (if r43 < lim then r43 else lim) else (0 : Int32)).toInt = _
      rw [hold_cls l, we, q2]
      show hldI (eA h 6 2 0).toInt lim.toInt = hldI (eJ g 0 40 0).toInt lim.toInt
      rw [s1]
    have w1 : w.1.toInt = (eA h 6 2 0).toInt := by rw [we]; exact s1
    refine ⟨by rw [w1]; exact s2, fun q => by rw [w1]; exact s3 (lb q), fun q => ?_, fun q => ?_⟩
    · rw [if_pos (gi_eq (by omega))] at e1
      exact main 99 (by decide) e1
    · rw [if_neg (gi_ne (by omega))] at e1
      exact main 10 (by decide) e1
