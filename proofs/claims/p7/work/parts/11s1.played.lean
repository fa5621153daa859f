theorem j_played {h g : HS} {p : Int32} {z w : Int32 × HS} (s : STD h g) (e1 : f_X8_played h p = some z) (e2 : f_X9_played g p = some w) : DONE h g z w := by
  have y0 : (0 : Int32).toInt = 0 := rfl
  have y1 : (1 : Int32).toInt = 1 := rfl
  have y2 : (2 : Int32).toInt = 2 := rfl
  have y3 : (3 : Int32).toInt = 3 := rfl
  have s9 : eI h 1 9 = eA g 0 0 3 := s.1.1.2.2.2.2.2.2.1
  have rn := s.2.1.1
  unfold RN at rn
  have sb := fb_subI (x := eA g 0 0 3) (y := 1) (by omega) (by omega)
  unfold f_X8_played f_X8_played_24 at e1
  rw [s9] at e1
  unfold f_X9_played at e2
  have no : z = (-2, h) → w = (-2, g) → DONE h g z w := fun a b => by rw [a, b]; exact DONE_no s.1 s.2.1
  obtain ⟨r1, b1, e2⟩ := ob1_some e2
  by_cases c0 : p = 0
  · rw [if_pos c0] at e1
    have d := gi_of_eq c0
    rcases mx_in b1 with ⟨k, q⟩ | ⟨k, q⟩
    · rw [if_pos k] at e2
      rw [if_pos (gi_le (by omega))] at e1
      exact no (Option.some.inj e1).symm (Option.some.inj e2).symm
    · rw [if_neg (by rw [k]; decide)] at e2
      rw [if_neg (gi_nle (by omega))] at e1
      exact j_played_0 (by omega) _ _ _ _ _ _ _ e1 e2 s (by omega) (by decide)
  · rw [if_neg c0] at e1
    have d0 := gi_of_ne c0
    by_cases c1 : p = 1
    · rw [if_pos c1] at e1
      have d := gi_of_eq c1
      rcases mx_in b1 with ⟨k, q⟩ | ⟨k, q⟩
      · rw [if_pos k] at e2
        rw [if_pos (gi_le (by omega))] at e1
        exact no (Option.some.inj e1).symm (Option.some.inj e2).symm
      · rw [if_neg (by rw [k]; decide)] at e2
        rw [if_neg (gi_nle (by omega))] at e1
        exact j_played_1 (by omega) _ _ _ _ _ _ _ e1 e2 s (by omega) (by decide)
    · rw [if_neg c1] at e1
      have d1 := gi_of_ne c1
      by_cases c2 : p = 2
      · rw [if_pos c2] at e1
        have d := gi_of_eq c2
        rcases mx_in b1 with ⟨k, q⟩ | ⟨k, q⟩
        · rw [if_pos k] at e2
          rw [if_pos (gi_le (by omega))] at e1
          exact no (Option.some.inj e1).symm (Option.some.inj e2).symm
        · rw [if_neg (by rw [k]; decide)] at e2
          rw [if_neg (gi_nle (by omega))] at e1
          exact j_played_2 (by omega) _ _ _ _ _ _ _ e1 e2 s (by omega) (by decide)
      · rw [if_neg c2] at e1
        have d2 := gi_of_ne c2
        by_cases c3 : p = 3
        · rw [if_pos c3] at e1
          have d := gi_of_eq c3
          rcases mx_in b1 with ⟨k, q⟩ | ⟨k, q⟩
          · rw [if_pos k] at e2
            rw [if_pos (gi_le (by omega))] at e1
            exact no (Option.some.inj e1).symm (Option.some.inj e2).symm
          · rw [if_neg (by rw [k]; decide)] at e2
            rw [if_neg (gi_nle (by omega))] at e1
            exact j_played_3 (by omega) _ _ _ _ _ _ _ e1 e2 s (by omega) (by decide)
        · rw [if_neg c3] at e1
          have d3 := gi_of_ne c3
          have ez : z = (-2, h) := by
            by_cases cc : eA g 0 0 3 ≤ p
            · rw [if_pos cc] at e1; exact (Option.some.inj e1).symm
            · rw [if_neg cc] at e1; exact (Option.some.inj e1).symm
          rcases mx_in b1 with ⟨k, q⟩ | ⟨k, q⟩
          · rw [if_pos k] at e2
            exact no ez (Option.some.inj e2).symm
          · omega
