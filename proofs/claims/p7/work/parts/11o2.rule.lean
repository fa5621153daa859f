theorem rule_both {h g : HS} {lw : Int32} {r q : Int32 × HS} (l0 : 0 ≤ lw.toInt) (l3 : lw.toInt ≤ 3) (ru : eI h 1 10 = eA g 0 0 4) (rr : -1 ≤ (eA g 0 0 4).toInt ∧ (eA g 0 0 4).toInt < (eA g 0 0 3).toInt ∧ (eA g 0 0 3).toInt ≤ 4) (tx : TXS h g (eA g 0 0 3).toInt) (e : f_X1_rule h lw = some r) (e2 : f_X9_ordersOf g lw = some q) : q.2 = g ∧ RULE h g lw r q := by
  have z0 : (0 : Int32).toInt = 0 := rfl
  have z1 : (1 : Int32).toInt = 1 := rfl
  have z2 : (2 : Int32).toInt = 2 := rfl
  have z3 : (3 : Int32).toInt = 3 := rfl
  have zm : (-1 : Int32).toInt = -1 := rfl
  unfold f_X1_rule at e
  rw [ru] at e
  by_cases c0 : eA g 0 0 4 = 0
  · rw [if_pos c0] at e
    have d := gi_of_eq c0
    have t := tx.1 (by omega)
    exact rule_t0 l0 l3 c0 t.1 t.2 e e2
  · rw [if_neg c0] at e
    have d0 := gi_of_ne c0
    by_cases c1 : eA g 0 0 4 = 1
    · rw [if_pos c1] at e
      have d := gi_of_eq c1
      have t := tx.2.1 (by omega)
      exact rule_t1 l0 l3 c1 t.1 t.2 e e2
    · rw [if_neg c1] at e
      have d1 := gi_of_ne c1
      by_cases c2 : eA g 0 0 4 = 2
      · rw [if_pos c2] at e
        have d := gi_of_eq c2
        have t := tx.2.2.1 (by omega)
        exact rule_t2 l0 l3 c2 t.1 t.2 e e2
      · rw [if_neg c2] at e
        have d2 := gi_of_ne c2
        by_cases c3 : eA g 0 0 4 = 3
        · rw [if_pos c3] at e
          have d := gi_of_eq c3
          have t := tx.2.2.2 (by omega)
          exact rule_t3 l0 l3 c3 t.1 t.2 e e2
        · rw [if_neg c3] at e
          have d3 := gi_of_ne c3
          have k := mp_orders_no e2 (gi_eq (by omega))
          rw [k]
          exact ⟨rfl, Or.inl ⟨rfl, rule_without e⟩⟩
