theorem t_m2 : ((-2) : Int32).toInt = -2 := by decide
theorem t_m1 : ((-1) : Int32).toInt = -1 := by decide
theorem t_0 : (0 : Int32).toInt = 0 := by decide
theorem t_1 : (1 : Int32).toInt = 1 := by decide
theorem t_2 : (2 : Int32).toInt = 2 := by decide
theorem t_3 : (3 : Int32).toInt = 3 := by decide
theorem t_4 : (4 : Int32).toInt = 4 := by decide
theorem t_5 : (5 : Int32).toInt = 5 := by decide
theorem t_6 : (6 : Int32).toInt = 6 := by decide
theorem t_7 : (7 : Int32).toInt = 7 := by decide
theorem t_8 : (8 : Int32).toInt = 8 := by decide
theorem t_9 : (9 : Int32).toInt = 9 := by decide
theorem t_10 : (10 : Int32).toInt = 10 := by decide
theorem t_20 : (20 : Int32).toInt = 20 := by decide
theorem t_25 : (25 : Int32).toInt = 25 := by decide
theorem t_26 : (26 : Int32).toInt = 26 := by decide
theorem t_99 : (99 : Int32).toInt = 99 := by decide
theorem t_100 : (100 : Int32).toInt = 100 := by decide
theorem t_999 : (999 : Int32).toInt = 999 := by decide
theorem t_9999 : (9999 : Int32).toInt = 9999 := by decide
theorem gi_lt_eq (a b : Int32) : (a < b) = (a.toInt < b.toInt) := propext Int32.lt_iff_toInt_lt
theorem gi_le_eq (a b : Int32) : (a ≤ b) = (a.toInt ≤ b.toInt) := propext Int32.le_iff_toInt_le
theorem gi_eq_eq (a b : Int32) : (a = b) = (a.toInt = b.toInt) := propext ⟨fun h => by rw [h], fun h => Int32.toInt_inj.mp h⟩
theorem gi_0add (a : Int32) : 0 + a = a := by rw [Int32.zero_add]
theorem in_iff (p lo hi : Int32) : (v_X9_in p lo hi = 0) = ¬ (lo.toInt ≤ p.toInt ∧ p.toInt ≤ hi.toInt) := by
  apply propext
  constructor
  · intro h
    unfold v_X9_in at h
    split at h
    · rename_i c1
      have := gi_of_lt c1
      omega
    · split at h
      · rename_i c1 c2
        have := gi_of_lt c2
        omega
      · exact absurd h (by decide)
  · intro h
    unfold v_X9_in
    split
    · rfl
    · split
      · rfl
      · rename_i c1 c2
        have := gi_of_nlt c1
        have := gi_of_nlt c2
        omega
theorem isDigit_iff (p : Int32) : (v_X8_isDigit p = 0) = ¬ (0 ≤ p.toInt ∧ p.toInt ≤ 9) := in_iff p 0 9
theorem isLetter_iff (p : Int32) : (v_X8_isLetter p = 0) = ¬ (0 ≤ p.toInt ∧ p.toInt ≤ 5) := by
  apply propext
  constructor
  · intro h
    unfold v_X8_isLetter at h
    split at h
    · rename_i c1
      have := gi_of_lt c1
      have := t_0
      omega
    · split at h
      · rename_i c1 c2
        have := gi_of_le c2
        have := t_6
        omega
      · exact absurd h (by decide)
  · intro h
    unfold v_X8_isLetter
    split
    · rfl
    · split
      · rfl
      · rename_i c1 c2
        have := gi_of_nlt c1
        have := gi_of_nle c2
        have := t_0
        have := t_6
        omega
set_option maxHeartbeats 4000000 in
theorem eq_market (p1 p2 p3 : Int32) : v_X8_market p1 p2 p3 = v_X9_market p1 p2 p3 := by
  unfold v_X8_market v_X9_market
  repeat' split
  all_goals first | rfl | (exfalso; (try simp only [in_iff, isDigit_iff, isLetter_iff, gi_0add] at *); (try simp only [gi_lt_eq, gi_le_eq, gi_eq_eq, t_m2, t_m1, t_0, t_1, t_2, t_3, t_4, t_5, t_6, t_7, t_8, t_9, t_10, t_20, t_25, t_26, t_99, t_100, t_999, t_9999] at *); omega)
set_option maxHeartbeats 4000000 in
theorem eq_goose (p1 p2 : Int32) : v_X8_goose p1 p2 = v_X9_goose p1 p2 := by
  unfold v_X8_goose v_X9_goose
  repeat' split
  all_goals first | rfl | (exfalso; (try simp only [in_iff, isDigit_iff, isLetter_iff, gi_0add] at *); (try simp only [gi_lt_eq, gi_le_eq, gi_eq_eq, t_m2, t_m1, t_0, t_1, t_2, t_3, t_4, t_5, t_6, t_7, t_8, t_9, t_10, t_20, t_25, t_26, t_99, t_100, t_999, t_9999] at *); omega)
set_option maxHeartbeats 4000000 in
theorem eq_store (p1 p2 : Int32) : v_X8_store p1 p2 = v_X9_store p1 p2 := by
  unfold v_X8_store v_X9_store
  repeat' split
  all_goals first | rfl | (exfalso; (try simp only [in_iff, isDigit_iff, isLetter_iff, gi_0add] at *); (try simp only [gi_lt_eq, gi_le_eq, gi_eq_eq, t_m2, t_m1, t_0, t_1, t_2, t_3, t_4, t_5, t_6, t_7, t_8, t_9, t_10, t_20, t_25, t_26, t_99, t_100, t_999, t_9999] at *); omega)
set_option maxHeartbeats 4000000 in
theorem eq_seed (p1 : Int32) : v_X8_seed p1 = v_X9_seed p1 := by
  unfold v_X8_seed v_X9_seed
  repeat' split
  all_goals first | rfl | (exfalso; (try simp only [in_iff, isDigit_iff, isLetter_iff, gi_0add] at *); (try simp only [gi_lt_eq, gi_le_eq, gi_eq_eq, t_m2, t_m1, t_0, t_1, t_2, t_3, t_4, t_5, t_6, t_7, t_8, t_9, t_10, t_20, t_25, t_26, t_99, t_100, t_999, t_9999] at *); omega)
set_option maxHeartbeats 4000000 in
theorem eq_end (p1 : Int32) : v_X8_end p1 = v_X9_end p1 := by
  unfold v_X8_end v_X9_end
  repeat' split
  all_goals first | rfl | (exfalso; (try simp only [in_iff, isDigit_iff, isLetter_iff, gi_0add] at *); (try simp only [gi_lt_eq, gi_le_eq, gi_eq_eq, t_m2, t_m1, t_0, t_1, t_2, t_3, t_4, t_5, t_6, t_7, t_8, t_9, t_10, t_20, t_25, t_26, t_99, t_100, t_999, t_9999] at *); omega)
set_option maxHeartbeats 4000000 in
theorem eq_by (p1 : Int32) : v_X8_by p1 = v_X9_by p1 := by
  unfold v_X8_by v_X9_by
  repeat' split
  all_goals first | rfl | (exfalso; (try simp only [in_iff, isDigit_iff, isLetter_iff, gi_0add] at *); (try simp only [gi_lt_eq, gi_le_eq, gi_eq_eq, t_m2, t_m1, t_0, t_1, t_2, t_3, t_4, t_5, t_6, t_7, t_8, t_9, t_10, t_20, t_25, t_26, t_99, t_100, t_999, t_9999] at *); omega)
set_option maxHeartbeats 4000000 in
theorem eq_about (p1 : Int32) : v_X8_about p1 = v_X9_about p1 := by
  unfold v_X8_about v_X9_about
  by_cases h0 : p1 = 0
  · rw [if_pos h0, if_pos h0]
  rw [if_neg h0, if_neg h0]
  by_cases h1 : p1 = 1
  · rw [if_pos h1, if_pos h1]
  rw [if_neg h1, if_neg h1]
  by_cases h2 : p1 = 2
  · rw [if_pos h2, if_pos h2]
  rw [if_neg h2, if_neg h2]
  by_cases h3 : p1 = 3
  · rw [if_pos h3, if_pos h3]
  rw [if_neg h3, if_neg h3]
  by_cases h4 : p1 = 4
  · rw [if_pos h4, if_pos h4]
  rw [if_neg h4, if_neg h4]
  by_cases h5 : p1 = 5
  · rw [if_pos h5, if_pos h5]
  rw [if_neg h5, if_neg h5]
  by_cases h6 : p1 = 6
  · rw [if_pos h6, if_pos h6]
  rw [if_neg h6, if_neg h6]
  by_cases h7 : p1 = 7
  · rw [if_pos h7, if_pos h7]
  rw [if_neg h7, if_neg h7]
  by_cases h8 : p1 = 8
  · rw [if_pos h8, if_pos h8]
  rw [if_neg h8, if_neg h8]
  by_cases h9 : p1 = 9
  · rw [if_pos h9, if_pos h9]
  rw [if_neg h9, if_neg h9]
  unfold v_X8_aboutMany
  clear h0 h1 h2 h3 h4 h5 h6 h7 h8 h9
  repeat' split
  all_goals first | rfl | (exfalso; (try simp only [in_iff, isDigit_iff, isLetter_iff, gi_0add] at *); (try simp only [gi_lt_eq, gi_le_eq, gi_eq_eq, t_m2, t_m1, t_0, t_1, t_2, t_3, t_4, t_5, t_6, t_7, t_8, t_9, t_10, t_20, t_25, t_26, t_99, t_100, t_999, t_9999] at *); omega)
set_option maxHeartbeats 4000000 in
theorem eq_pass (p1 : Int32) : v_X8_pass p1 = v_X9_pass p1 := by
  unfold v_X8_pass v_X9_pass
  repeat' split
  all_goals first | rfl | (exfalso; (try simp only [in_iff, isDigit_iff, isLetter_iff, gi_0add] at *); (try simp only [gi_lt_eq, gi_le_eq, gi_eq_eq, t_m2, t_m1, t_0, t_1, t_2, t_3, t_4, t_5, t_6, t_7, t_8, t_9, t_10, t_20, t_25, t_26, t_99, t_100, t_999, t_9999] at *); omega)
set_option maxHeartbeats 4000000 in
theorem eq_known (p1 p2 : Int32) : v_X8_known p1 p2 = v_X9_known p1 p2 := by
  unfold v_X8_known v_X9_known
  repeat' split
  all_goals first | rfl | (exfalso; (try simp only [in_iff, isDigit_iff, isLetter_iff, gi_0add] at *); (try simp only [gi_lt_eq, gi_le_eq, gi_eq_eq, t_m2, t_m1, t_0, t_1, t_2, t_3, t_4, t_5, t_6, t_7, t_8, t_9, t_10, t_20, t_25, t_26, t_99, t_100, t_999, t_9999] at *); omega)
set_option maxHeartbeats 4000000 in
theorem eq_odds (p1 p2 p3 : Int32) : v_X8_odds p1 p2 p3 = v_X9_odds p1 p2 p3 := by
  unfold v_X8_odds v_X9_odds
  repeat' split
  all_goals first | rfl | (exfalso; (try simp only [in_iff, isDigit_iff, isLetter_iff, gi_0add] at *); (try simp only [gi_lt_eq, gi_le_eq, gi_eq_eq, t_m2, t_m1, t_0, t_1, t_2, t_3, t_4, t_5, t_6, t_7, t_8, t_9, t_10, t_20, t_25, t_26, t_99, t_100, t_999, t_9999] at *); omega)
theorem lg_cmp_self (x : Int64) : lg_cmp x x = 0 := by simp [lg_cmp]
