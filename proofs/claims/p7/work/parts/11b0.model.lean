theorem u_X9_in (p1 p2 p3 : Int32) : ok (f_X9_in p1 p2 p3) (fun a => ((a = 0 ∨ a = 1) ∧ ((a).toInt = 0 ∨ (p2.toInt ≤ p1.toInt ∧ p1.toInt ≤ p3.toInt)))) := by
  unfold f_X9_in f_X9_in_14 f_X9_in_15
  refine ok_if (fun c => ok_chk (Or.inl rfl) (ok_some ⟨Or.inl rfl, Or.inl rfl⟩)) (fun c1 => ?_)
  refine ok_if (fun c => ok_chk (Or.inl rfl) (ok_some ⟨Or.inl rfl, Or.inl rfl⟩)) (fun c2 => ?_)
  exact ok_chk (Or.inr rfl) (ok_some ⟨Or.inr rfl, Or.inr ⟨gi_of_nlt c1, gi_of_nlt c2⟩⟩)
theorem u_X9_isLetter (p1 : Int32) : ok (f_X9_isLetter p1) (fun a => (a = 0 ∨ a = 1)) := by
  unfold f_X9_isLetter
  refine ok_ob1 (u_X9_in p1 97 122) (fun r1 k1 => ?_)
  refine ok_if (fun c2 => ?_) (fun c2 => ?_)
  · refine ok_ob1 (u_X9_in p1 65 90) (fun r3 k3 => ?_)
    refine ok_if (fun c4 => ?_) (fun c4 => ?_)
    · unfold f_X9_isLetter_27
      refine ok_chk (Or.inl rfl) ?_
      exact ok_some (Or.inl rfl)
    · unfold f_X9_isLetter_22
      unfold f_X9_isLetter_27
      refine ok_chk (Or.inr rfl) ?_
      exact ok_some (Or.inr rfl)
  · unfold f_X9_isLetter_22
    unfold f_X9_isLetter_27
    refine ok_chk (Or.inr rfl) ?_
    exact ok_some (Or.inr rfl)
theorem u_X9_wordOf (p1 : Int64) : ok (f_X9_wordOf p1) (fun a => (-1 ≤ (a).toInt ∧ (a).toInt ≤ 21)) := by
  unfold f_X9_wordOf
  refine ok_if (fun c1 => ?_) (fun c1 => ?_)
  · exact ok_some (show (-1 ≤ ((0 : Int32)).toInt ∧ ((0 : Int32)).toInt ≤ 21) from by have : (0 : Int32).toInt = 0 := rfl; omega)
  · refine ok_if (fun c2 => ?_) (fun c2 => ?_)
    · exact ok_some (show (-1 ≤ ((1 : Int32)).toInt ∧ ((1 : Int32)).toInt ≤ 21) from by have : (1 : Int32).toInt = 1 := rfl; omega)
    · refine ok_if (fun c3 => ?_) (fun c3 => ?_)
      · exact ok_some (show (-1 ≤ ((2 : Int32)).toInt ∧ ((2 : Int32)).toInt ≤ 21) from by have : (2 : Int32).toInt = 2 := rfl; omega)
      · refine ok_if (fun c4 => ?_) (fun c4 => ?_)
        · exact ok_some (show (-1 ≤ ((3 : Int32)).toInt ∧ ((3 : Int32)).toInt ≤ 21) from by have : (3 : Int32).toInt = 3 := rfl; omega)
        · refine ok_if (fun c5 => ?_) (fun c5 => ?_)
          · exact ok_some (show (-1 ≤ ((4 : Int32)).toInt ∧ ((4 : Int32)).toInt ≤ 21) from by have : (4 : Int32).toInt = 4 := rfl; omega)
          · refine ok_if (fun c6 => ?_) (fun c6 => ?_)
            · exact ok_some (show (-1 ≤ ((5 : Int32)).toInt ∧ ((5 : Int32)).toInt ≤ 21) from by have : (5 : Int32).toInt = 5 := rfl; omega)
            · refine ok_if (fun c7 => ?_) (fun c7 => ?_)
              · exact ok_some (show (-1 ≤ ((6 : Int32)).toInt ∧ ((6 : Int32)).toInt ≤ 21) from by have : (6 : Int32).toInt = 6 := rfl; omega)
              · refine ok_if (fun c8 => ?_) (fun c8 => ?_)
                · exact ok_some (show (-1 ≤ ((7 : Int32)).toInt ∧ ((7 : Int32)).toInt ≤ 21) from by have : (7 : Int32).toInt = 7 := rfl; omega)
                · refine ok_if (fun c9 => ?_) (fun c9 => ?_)
                  · exact ok_some (show (-1 ≤ ((8 : Int32)).toInt ∧ ((8 : Int32)).toInt ≤ 21) from by have : (8 : Int32).toInt = 8 := rfl; omega)
                  · refine ok_if (fun c10 => ?_) (fun c10 => ?_)
                    · exact ok_some (show (-1 ≤ ((9 : Int32)).toInt ∧ ((9 : Int32)).toInt ≤ 21) from by have : (9 : Int32).toInt = 9 := rfl; omega)
                    · refine ok_if (fun c11 => ?_) (fun c11 => ?_)
                      · exact ok_some (show (-1 ≤ ((10 : Int32)).toInt ∧ ((10 : Int32)).toInt ≤ 21) from by have : (10 : Int32).toInt = 10 := rfl; omega)
                      · refine ok_if (fun c12 => ?_) (fun c12 => ?_)
                        · exact ok_some (show (-1 ≤ ((11 : Int32)).toInt ∧ ((11 : Int32)).toInt ≤ 21) from by have : (11 : Int32).toInt = 11 := rfl; omega)
                        · refine ok_if (fun c13 => ?_) (fun c13 => ?_)
                          · exact ok_some (show (-1 ≤ ((12 : Int32)).toInt ∧ ((12 : Int32)).toInt ≤ 21) from by have : (12 : Int32).toInt = 12 := rfl; omega)
                          · refine ok_if (fun c14 => ?_) (fun c14 => ?_)
                            · exact ok_some (show (-1 ≤ ((13 : Int32)).toInt ∧ ((13 : Int32)).toInt ≤ 21) from by have : (13 : Int32).toInt = 13 := rfl; omega)
                            · refine ok_if (fun c15 => ?_) (fun c15 => ?_)
                              · exact ok_some (show (-1 ≤ ((14 : Int32)).toInt ∧ ((14 : Int32)).toInt ≤ 21) from by have : (14 : Int32).toInt = 14 := rfl; omega)
                              · refine ok_if (fun c16 => ?_) (fun c16 => ?_)
                                · exact ok_some (show (-1 ≤ ((15 : Int32)).toInt ∧ ((15 : Int32)).toInt ≤ 21) from by have : (15 : Int32).toInt = 15 := rfl; omega)
                                · refine ok_if (fun c17 => ?_) (fun c17 => ?_)
                                  · exact ok_some (show (-1 ≤ ((16 : Int32)).toInt ∧ ((16 : Int32)).toInt ≤ 21) from by have : (16 : Int32).toInt = 16 := rfl; omega)
                                  · refine ok_if (fun c18 => ?_) (fun c18 => ?_)
                                    · exact ok_some (show (-1 ≤ ((17 : Int32)).toInt ∧ ((17 : Int32)).toInt ≤ 21) from by have : (17 : Int32).toInt = 17 := rfl; omega)
                                    · refine ok_if (fun c19 => ?_) (fun c19 => ?_)
                                      · exact ok_some (show (-1 ≤ ((18 : Int32)).toInt ∧ ((18 : Int32)).toInt ≤ 21) from by have : (18 : Int32).toInt = 18 := rfl; omega)
                                      · refine ok_if (fun c20 => ?_) (fun c20 => ?_)
                                        · exact ok_some (show (-1 ≤ ((19 : Int32)).toInt ∧ ((19 : Int32)).toInt ≤ 21) from by have : (19 : Int32).toInt = 19 := rfl; omega)
                                        · refine ok_if (fun c21 => ?_) (fun c21 => ?_)
                                          · exact ok_some (show (-1 ≤ ((20 : Int32)).toInt ∧ ((20 : Int32)).toInt ≤ 21) from by have : (20 : Int32).toInt = 20 := rfl; omega)
                                          · refine ok_if (fun c22 => ?_) (fun c22 => ?_)
                                            · exact ok_some (show (-1 ≤ ((21 : Int32)).toInt ∧ ((21 : Int32)).toInt ≤ 21) from by have : (21 : Int32).toInt = 21 := rfl; omega)
                                            · exact ok_some (show (-1 ≤ ((-1 : Int32)).toInt ∧ ((-1 : Int32)).toInt ≤ 21) from by have : ((-1) : Int32).toInt = -1 := rfl; omega)
theorem u_X9_rank (p1 : Int32) : ok (f_X9_rank p1) (fun a => (1 ≤ (a).toInt ∧ (a).toInt ≤ 4)) := by
  unfold f_X9_rank
  refine ok_if (fun c1 => ?_) (fun c1 => ?_)
  · unfold f_X9_rank_39
    exact ok_some (show (1 ≤ ((1 : Int32)).toInt ∧ ((1 : Int32)).toInt ≤ 4) from by have : (1 : Int32).toInt = 1 := rfl; omega)
  · refine ok_if (fun c2 => ?_) (fun c2 => ?_)
    · unfold f_X9_rank_39
      exact ok_some (show (1 ≤ ((2 : Int32)).toInt ∧ ((2 : Int32)).toInt ≤ 4) from by have : (2 : Int32).toInt = 2 := rfl; omega)
    · refine ok_if (fun c3 => ?_) (fun c3 => ?_)
      · unfold f_X9_rank_34
        unfold f_X9_rank_39
        exact ok_some (show (1 ≤ ((3 : Int32)).toInt ∧ ((3 : Int32)).toInt ≤ 4) from by have : (3 : Int32).toInt = 3 := rfl; omega)
      · refine ok_if (fun c4 => ?_) (fun c4 => ?_)
        · unfold f_X9_rank_34
          unfold f_X9_rank_39
          exact ok_some (show (1 ≤ ((3 : Int32)).toInt ∧ ((3 : Int32)).toInt ≤ 4) from by have : (3 : Int32).toInt = 3 := rfl; omega)
        · unfold f_X9_rank_39
          exact ok_some (show (1 ≤ ((4 : Int32)).toInt ∧ ((4 : Int32)).toInt ≤ 4) from by have : (4 : Int32).toInt = 4 := rfl; omega)
theorem u_X9_isAsking (p1 : Int32) : ok (f_X9_isAsking p1) (fun a => (a = 0 ∨ a = 1)) := by
  unfold f_X9_isAsking
  refine ok_if (fun c1 => ?_) (fun c1 => ?_)
  · unfold f_X9_isAsking_38
    unfold f_X9_isAsking_43
    refine ok_chk (Or.inr rfl) ?_
    exact ok_some (Or.inr rfl)
  · refine ok_if (fun c3 => ?_) (fun c3 => ?_)
    · unfold f_X9_isAsking_38
      unfold f_X9_isAsking_43
      refine ok_chk (Or.inr rfl) ?_
      exact ok_some (Or.inr rfl)
    · refine ok_if (fun c5 => ?_) (fun c5 => ?_)
      · unfold f_X9_isAsking_38
        unfold f_X9_isAsking_43
        refine ok_chk (Or.inr rfl) ?_
        exact ok_some (Or.inr rfl)
      · refine ok_if (fun c7 => ?_) (fun c7 => ?_)
        · unfold f_X9_isAsking_38
          unfold f_X9_isAsking_43
          refine ok_chk (Or.inr rfl) ?_
          exact ok_some (Or.inr rfl)
        · refine ok_if (fun c9 => ?_) (fun c9 => ?_)
          · unfold f_X9_isAsking_38
            unfold f_X9_isAsking_43
            refine ok_chk (Or.inr rfl) ?_
            exact ok_some (Or.inr rfl)
          · refine ok_if (fun c11 => ?_) (fun c11 => ?_)
            · unfold f_X9_isAsking_38
              unfold f_X9_isAsking_43
              refine ok_chk (Or.inr rfl) ?_
              exact ok_some (Or.inr rfl)
            · unfold f_X9_isAsking_43
              refine ok_chk (Or.inl rfl) ?_
              exact ok_some (Or.inl rfl)
theorem u_X9_bound (p1 : Int64) : ok (f_X9_bound p1) (fun a => True) := by
  unfold f_X9_bound
  refine ok_if (fun c1 => ?_) (fun c1 => ?_)
  · refine ok_if (fun c2 => ?_) (fun c2 => ?_)
    · unfold f_X9_bound_29
      exact ok_some trivial
    · unfold f_X9_bound_29
      exact ok_some trivial
  · unfold f_X9_bound_29
    exact ok_some trivial
theorem u_X9_worked (p1 : Int32) (p2 : Int64) (p3 : Int64) : ok (f_X9_worked p1 p2 p3) (fun a => True) := by
  unfold f_X9_worked
  refine ok_if (fun c1 => ?_) (fun c1 => ?_)
  · refine ok_if (fun c2 => ?_) (fun c2 => ?_)
    · unfold f_X9_worked_182
      exact ok_some trivial
    · unfold f_X9_worked_182
      exact ok_some trivial
  · refine ok_if (fun c3 => ?_) (fun c3 => ?_)
    · refine ok_ob1 (u_X9_bound (p2 * p3)) (fun r4 k4 => ?_)
      exact ok_some trivial
    · refine ok_if (fun c5 => ?_) (fun c5 => ?_)
      · refine ok_ob1 (u_X9_bound (p2 + p3)) (fun r6 k6 => ?_)
        exact ok_some trivial
      · refine ok_if (fun c7 => ?_) (fun c7 => ?_)
        · refine ok_ob1 (u_X9_bound (p2 - p3)) (fun r8 k8 => ?_)
          exact ok_some trivial
        · refine ok_if (fun c9 => ?_) (fun c9 => ?_)
          · refine ok_if (fun c10 => ?_) (fun c10 => ?_)
            · unfold f_X9_worked_134
              exact ok_some trivial
            · refine ok_chk (fb_lgz c10) ?_
              unfold f_X9_worked_134
              exact ok_some trivial
          · refine ok_if (fun c12 => ?_) (fun c12 => ?_)
            · refine ok_if (fun c13 => ?_) (fun c13 => ?_)
              · unfold f_X9_worked_146
                exact ok_some trivial
              · unfold f_X9_worked_146
                exact ok_some trivial
            · refine ok_if (fun c14 => ?_) (fun c14 => ?_)
              · refine ok_if (fun c15 => ?_) (fun c15 => ?_)
                · unfold f_X9_worked_170
                  exact ok_some trivial
                · unfold f_X9_worked_170
                  exact ok_some trivial
              · refine ok_if (fun c16 => ?_) (fun c16 => ?_)
                · refine ok_if (fun c17 => ?_) (fun c17 => ?_)
                  · unfold f_X9_worked_158
                    exact ok_some trivial
                  · unfold f_X9_worked_158
                    exact ok_some trivial
                · refine ok_if (fun c18 => ?_) (fun c18 => ?_)
                  · refine ok_if (fun c19 => ?_) (fun c19 => ?_)
                    · unfold f_X9_worked_194
                      exact ok_some trivial
                    · unfold f_X9_worked_194
                      exact ok_some trivial
                  · refine ok_if (fun c20 => ?_) (fun c20 => ?_)
                    · refine ok_if (fun c21 => ?_) (fun c21 => ?_)
                      · unfold f_X9_worked_206
                        exact ok_some trivial
                      · unfold f_X9_worked_206
                        exact ok_some trivial
                    · refine ok_if (fun c22 => ?_) (fun c22 => ?_)
                      · exact ok_some trivial
                      · refine ok_if (fun c23 => ?_) (fun c23 => ?_)
                        · unfold f_X9_worked_224
                          exact ok_some trivial
                        · unfold f_X9_worked_224
                          exact ok_some trivial
theorem u_X9_held (p1 : Int64) (p2 : Int32) (p3 : Int32) : ok (f_X9_held p1 p2 p3) (fun a => True) := by
  unfold f_X9_held
  refine ok_if (fun c1 => ?_) (fun c1 => ?_)
  · refine ok_if (fun c2 => ?_) (fun c2 => ?_)
    · unfold f_X9_held_24
      exact ok_some trivial
    · unfold f_X9_held_24
      exact ok_some trivial
  · unfold f_X9_held_24
    exact ok_some trivial
theorem u_X9_halves (p1 : Int32) : ok (f_X9_halves p1) (fun a => ((0 ≤ p1.toInt ∧ p1.toInt ≤ 2) → (0 ≤ (a).toInt ∧ (a).toInt ≤ 3))) := by
  unfold f_X9_halves f_X9_halves_9
  exact ok_if (fun c => ok_some (fun _ => (by decide))) (fun c => ok_some (fun h => by omega))
theorem u_X9_isLetterNumber (p1 : Int32) : ok (f_X9_isLetterNumber p1) (fun a => ((a = 0 ∨ a = 1) ∧ ((a).toInt = 0 ∨ (0 ≤ p1.toInt ∧ p1.toInt ≤ 5)))) := by
  unfold f_X9_isLetterNumber
  exact ok_ob1 (u_X9_in p1 0 5) (fun r k => ok_chk k.1 (ok_some k))
