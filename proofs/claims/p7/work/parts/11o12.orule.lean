theorem rule_t2 {h g : HS} {lw : Int32} {r q : Int32 × HS} (l0 : 0 ≤ lw.toInt) (l3 : lw.toInt ≤ 3) (ru : eA g 0 0 4 = 2) (tx : TXF 11 2 h g) (ty0 : TYL 11 h) (e : (ob2 (f_X6_hasLaw_2 h lw) (fun r_3 h_3 => (if r_3 = 0 then (f_X1_rule_21 h_3 lw) else (ob2 (f_X6_stepsEnd_2 (sI h_3 6 3 0) lw) (fun r_5 h_5 => (ob2 (f_X6_firstStep_2 h_5 lw) (fun r_6 h_6 => (f_X1_rule_46c 8589934592 h_6 lw r_5 r_6)))))))) = some r) (e2 : f_X9_ordersOf g lw = some q) : q.2 = g ∧ RULE h g lw r q := by
  have zm : (-1 : Int32).toInt = -1 := rfl
  obtain ⟨x1, x2, x3, x4, x5⟩ := id tx
  obtain ⟨o1, o2⟩ := mp_orders (t := 2) (by rw [ru]; rfl) (by decide) (by omega) _ _ _ _ e2 (by decide)
  refine ⟨o1, ?_⟩
  obtain ⟨r3, h3, e3, e⟩ := ob2_some e
  obtain ⟨k1, k2⟩ := cp_hasLaw_2 e3 l0
  have k1 : h = h3 := k1.symm
  subst k1
  have k2 : (r3 = 0 ∧ (4 ≤ lw.toInt ∨ eA h 11 3 lw.toInt.toNat = -1)) ∨ (r3 = 1 ∧ lw.toInt < 4 ∧ ¬ eA h 11 3 lw.toInt.toNat = -1) := k2
  have cl := x5 lw.toInt.toNat (by omega)
  rcases k2 with ⟨k2, k3⟩ | ⟨k2, -, k3⟩
  · rw [if_pos k2] at e
    have k3 : eA h 11 3 lw.toInt.toNat = -1 := by
      rcases k3 with k3 | k3
      · omega
      · exact k3
    rcases cl with ⟨-, cl⟩ | ⟨cl, -⟩
    · rcases o2 with ⟨o2, -⟩ | ⟨c, o2, o3, o4⟩
      · exact Or.inl ⟨o2, rule_without e⟩
      · exact absurd (by rw [o3]; omega) (cl c (by rw [x1]; exact o2))
    · exact absurd k3 cl
  · rw [if_neg (by rw [k2]; decide)] at e
    rcases cl with ⟨cl, -⟩ | ⟨-, c, cl1, cl2⟩
    · exact absurd cl k3
    · rcases o2 with ⟨-, o2⟩ | ⟨c, o2, o3, o4⟩
      · exact absurd (gi_eq (by rw [cl2]; omega)) (o2 c (by show (0 : Int32).toInt ≤ _; have : (0 : Int32).toInt = 0 := rfl; omega) (by rw [← x1]; exact cl1))
      · obtain ⟨r5, h5, e5, e⟩ := ob2_some e
        obtain ⟨r6, h6, e6, e⟩ := ob2_some e
        have cf := x4 c (by rw [x1]; exact o2)
        have lf := cf.2.2.2.1 (by rw [o3]; omega)
        rw [o3] at lf
        refine Or.inr ⟨gi_ne (by rw [o4]; have := lf.1; have := lf.2.2.2.1; omega), fun g' w ew fg na => ?_⟩
        rw [o4] at ew
        exact ev_rule_2 l0 l3 tx ty0 (by rw [x1]; exact o2) (by rw [o3]) k3 e5 e6 e ew fg na
