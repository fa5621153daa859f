/-! what a step works out: class and reference side by side -/
def clampI (z : Int) : Int := if 1000000 < z then 1000000 else if z < -1000000 then -1000000 else z
def MB (z : Int) : Prop := -1000000 ≤ z ∧ z ≤ 1000000
theorem MB_clamp (z : Int) : MB (clampI z) := by
  unfold MB clampI
  by_cases c1 : 1000000 < z
  · rw [if_pos c1]; omega
  · rw [if_neg c1]
    by_cases c2 : z < -1000000
    · rw [if_pos c2]; omega
    · rw [if_neg c2]; omega
theorem clamp_id {z : Int} (h : MB z) : clampI z = z := by
  unfold MB at h
  unfold clampI
  rw [if_neg (by omega), if_neg (by omega)]
theorem q_bmod {z : Int} (h1 : -9223372036854775808 ≤ z) (h2 : z < 9223372036854775808) : z.bmod (2 ^ 64) = z := by
  rw [Int.bmod_eq_of_le (by omega) (by omega)]
theorem q_add {x y : Int64} (hx : MB x.toInt) (hy : MB y.toInt) : (x + y).toInt = x.toInt + y.toInt := by
  unfold MB at *
  rw [Int64.toInt_add, q_bmod (by omega) (by omega)]
theorem q_sub {x y : Int64} (hx : MB x.toInt) (hy : MB y.toInt) : (x - y).toInt = x.toInt - y.toInt := by
  unfold MB at *
  rw [Int64.toInt_sub, q_bmod (by omega) (by omega)]
theorem q_neg {x : Int64} (hx : MB x.toInt) : (-x).toInt = -x.toInt := by
  unfold MB at *
  rw [Int64.toInt_neg, q_bmod (by omega) (by omega)]
theorem mb_abs {z : Int} (h : MB z) : z.natAbs ≤ 1000000 := by unfold MB at h; omega
theorem q_mul {x y : Int64} (hx : MB x.toInt) (hy : MB y.toInt) : (x * y).toInt = x.toInt * y.toInt := by
  have a : (x.toInt * y.toInt).natAbs ≤ 1000000 * 1000000 := by
    rw [Int.natAbs_mul]
    exact Nat.mul_le_mul (mb_abs hx) (mb_abs hy)
  rw [Int64.toInt_mul, q_bmod (by omega) (by omega)]
theorem mb_div {a b : Int} (h : MB a) : MB (a.tdiv b) := by
  have e : (a.tdiv b).natAbs ≤ a.natAbs := by
    rw [Int.natAbs_tdiv]
    exact Nat.div_le_self _ _
  have m := mb_abs h
  unfold MB
  omega
theorem q_div {x y : Int64} (hx : MB x.toInt) : (x / y).toInt = x.toInt.tdiv y.toInt := by
  have m := mb_div (b := y.toInt) hx
  unfold MB at m
  rw [Int64.toInt_div, q_bmod (by omega) (by omega)]
theorem q_le {x y : Int64} (h : lg_cmp x y ≤ 0) : x.toInt ≤ y.toInt := Int64.le_iff_toInt_le.mp ((lg_cmp_le x y).mp h)
theorem q_nle {x y : Int64} (h : ¬ lg_cmp x y ≤ 0) : y.toInt < x.toInt := by
  rw [lg_cmp_le, Int64.le_iff_toInt_le] at h; omega
theorem q_ge {x y : Int64} (h : 0 ≤ lg_cmp x y) : y.toInt ≤ x.toInt := Int64.le_iff_toInt_le.mp ((lg_cmp_ge x y).mp h)
theorem q_nge {x y : Int64} (h : ¬ 0 ≤ lg_cmp x y) : x.toInt < y.toInt := by
  rw [lg_cmp_ge, Int64.le_iff_toInt_le] at h; omega
theorem q_bound {v r : Int64} (e : f_X9_bound v = some r) : r.toInt = clampI v.toInt := by
  have z1 : (1000000 : Int64).toInt = 1000000 := rfl
  have z2 : (-1000000 : Int64).toInt = -1000000 := rfl
  unfold f_X9_bound f_X9_bound_29 at e
  unfold clampI
  by_cases c1 : lg_cmp v 1000000 ≤ 0
  · rw [if_pos c1] at e
    have d1 := q_le c1
    rw [if_neg (by omega)]
    by_cases c2 : 0 ≤ lg_cmp v (-1000000)
    · rw [if_pos c2] at e
      have d2 := q_ge c2
      cases e
      rw [if_neg (by omega)]
    · rw [if_neg c2] at e
      have d2 := q_nge c2
      cases e
      rw [if_pos (by omega)]
      exact z2
  · rw [if_neg c1] at e
    have d1 := q_nle c1
    cases e
    rw [if_pos (by omega)]
    exact z1
theorem q_bit {x : Int64} (h : x.toInt = 0 ∨ x.toInt = 1) : x = 0 ∨ x = 1 := by
  rcases h with h | h
  · exact Or.inl (Int64.toInt_inj.mp (h.trans rfl))
  · exact Or.inr (Int64.toInt_inj.mp (h.trans rfl))
def JW (k : Int) (r1 r2 : Int64) : Prop := clampI r1.toInt = r2.toInt ∧ MB r2.toInt ∧ (¬ (9 ≤ k ∧ k ≤ 12) → r2.toInt = 0 ∨ r2.toInt = 1)
theorem JW_0 (k : Int) : JW k 0 0 := ⟨by decide, by unfold MB; decide, fun _ => Or.inl (by decide)⟩
theorem JW_1 (k : Int) : JW k 1 1 := ⟨by decide, by unfold MB; decide, fun _ => Or.inr (by decide)⟩
theorem jw_9 {x y r1 r2 : Int64} (hx : MB x.toInt) (hy : MB y.toInt) (e1 : f_X1_joined 9 x y = some r1) (e2 : f_X9_worked 43 x y = some r2) : JW 9 r1 r2 := by
  unfold f_X1_joined at e1
  unfold f_X9_worked at e2
  rw [if_neg (by decide), if_neg (by decide), if_neg (by decide), if_neg (by decide), if_neg (by decide), if_neg (by decide), if_pos rfl] at e1
  rw [if_neg (by decide), if_neg (by decide), if_pos rfl] at e2
  obtain ⟨r, e3, e2⟩ := ob1_some e2
  have b := q_bound e3
  cases e1
  cases e2
  refine ⟨b.symm, by rw [b]; exact MB_clamp _, fun n => absurd (by decide) n⟩
theorem jw_10 {x y r1 r2 : Int64} (hx : MB x.toInt) (hy : MB y.toInt) (e1 : f_X1_joined 10 x y = some r1) (e2 : f_X9_worked 45 x y = some r2) : JW 10 r1 r2 := by
  unfold f_X1_joined at e1
  unfold f_X9_worked at e2
  rw [if_neg (by decide), if_neg (by decide), if_neg (by decide), if_neg (by decide), if_neg (by decide), if_neg (by decide), if_neg (by decide), if_pos rfl] at e1
  rw [if_neg (by decide), if_neg (by decide), if_neg (by decide), if_pos rfl] at e2
  obtain ⟨r, e3, e2⟩ := ob1_some e2
  have b := q_bound e3
  cases e1
  cases e2
  refine ⟨b.symm, by rw [b]; exact MB_clamp _, fun n => absurd (by decide) n⟩
theorem jw_11 {x y r1 r2 : Int64} (hx : MB x.toInt) (hy : MB y.toInt) (e1 : f_X1_joined 11 x y = some r1) (e2 : f_X9_worked 42 x y = some r2) : JW 11 r1 r2 := by
  unfold f_X1_joined at e1
  unfold f_X9_worked at e2
  rw [if_neg (by decide), if_neg (by decide), if_neg (by decide), if_neg (by decide), if_neg (by decide), if_neg (by decide), if_neg (by decide), if_neg (by decide), if_pos rfl] at e1
  rw [if_neg (by decide), if_pos rfl] at e2
  obtain ⟨r, e3, e2⟩ := ob1_some e2
  have b := q_bound e3
  cases e1
  cases e2
  refine ⟨b.symm, by rw [b]; exact MB_clamp _, fun n => absurd (by decide) n⟩
theorem jw_12 {x y r1 r2 : Int64} (hx : MB x.toInt) (hy : MB y.toInt) (e1 : f_X1_joined 12 x y = some r1) (e2 : f_X9_worked 47 x y = some r2) : JW 12 r1 r2 := by
  unfold f_X1_joined at e1
  unfold f_X9_worked at e2
  rw [if_neg (by decide), if_neg (by decide), if_neg (by decide), if_neg (by decide), if_neg (by decide), if_neg (by decide), if_neg (by decide), if_neg (by decide), if_neg (by decide), if_pos rfl] at e1
  rw [if_neg (by decide), if_neg (by decide), if_neg (by decide), if_neg (by decide), if_pos rfl] at e2
  by_cases c : lg_cmp y 0 = 0
  · rw [if_pos c] at e1 e2
    unfold f_X1_joined_141 at e1
    unfold f_X9_worked_134 at e2
    cases e1
    cases e2
    exact JW_0 _
  · rw [if_neg c] at e1 e2
    obtain ⟨-, e1⟩ := ob_if e1
    obtain ⟨-, e2⟩ := ob_if e2
    unfold f_X1_joined_141 at e1
    unfold f_X9_worked_134 at e2
    cases e1
    cases e2
    have m := mb_div (b := y.toInt) hx
    rw [← q_div hx] at m
    exact ⟨clamp_id m, m, fun n => absurd (by decide) n⟩
theorem jw_3 {x y r1 r2 : Int64} (hx : MB x.toInt) (hy : MB y.toInt) (e1 : f_X1_joined 3 x y = some r1) (e2 : f_X9_worked 60 x y = some r2) : JW 3 r1 r2 := by
  unfold f_X1_joined at e1
  unfold f_X9_worked at e2
  rw [if_pos rfl] at e1
  rw [if_neg (by decide), if_neg (by decide), if_neg (by decide), if_neg (by decide), if_neg (by decide), if_pos rfl] at e2
  by_cases c : 0 ≤ lg_cmp x y
  · rw [if_pos c] at e1 e2
    unfold f_X1_joined_153 at e1
    unfold f_X9_worked_146 at e2
    cases e1
    cases e2
    exact JW_0 _
  · rw [if_neg c] at e1 e2
    unfold f_X1_joined_153 at e1
    unfold f_X9_worked_146 at e2
    cases e1
    cases e2
    exact JW_1 _
theorem jw_4 {x y r1 r2 : Int64} (hx : MB x.toInt) (hy : MB y.toInt) (e1 : f_X1_joined 4 x y = some r1) (e2 : f_X9_worked 300 x y = some r2) : JW 4 r1 r2 := by
  unfold f_X1_joined at e1
  unfold f_X9_worked at e2
  rw [if_neg (by decide), if_pos rfl] at e1
  rw [if_neg (by decide), if_neg (by decide), if_neg (by decide), if_neg (by decide), if_neg (by decide), if_neg (by decide), if_neg (by decide), if_neg (by decide), if_pos rfl] at e2
  by_cases c : 0 < lg_cmp x y
  · rw [if_pos c] at e1 e2
    unfold f_X1_joined_165 at e1
    unfold f_X9_worked_194 at e2
    cases e1
    cases e2
    exact JW_0 _
  · rw [if_neg c] at e1 e2
    unfold f_X1_joined_165 at e1
    unfold f_X9_worked_194 at e2
    cases e1
    cases e2
    exact JW_1 _
theorem jw_5 {x y r1 r2 : Int64} (hx : MB x.toInt) (hy : MB y.toInt) (e1 : f_X1_joined 5 x y = some r1) (e2 : f_X9_worked 62 x y = some r2) : JW 5 r1 r2 := by
  unfold f_X1_joined at e1
  unfold f_X9_worked at e2
  rw [if_neg (by decide), if_neg (by decide), if_pos rfl] at e1
  rw [if_neg (by decide), if_neg (by decide), if_neg (by decide), if_neg (by decide), if_neg (by decide), if_neg (by decide), if_neg (by decide), if_pos rfl] at e2
  by_cases c : lg_cmp x y ≤ 0
  · rw [if_pos c] at e1 e2
    unfold f_X1_joined_177 at e1
    unfold f_X9_worked_158 at e2
    cases e1
    cases e2
    exact JW_0 _
  · rw [if_neg c] at e1 e2
    unfold f_X1_joined_177 at e1
    unfold f_X9_worked_158 at e2
    cases e1
    cases e2
    exact JW_1 _
theorem jw_6 {x y r1 r2 : Int64} (hx : MB x.toInt) (hy : MB y.toInt) (e1 : f_X1_joined 6 x y = some r1) (e2 : f_X9_worked 301 x y = some r2) : JW 6 r1 r2 := by
  unfold f_X1_joined at e1
  unfold f_X9_worked at e2
  rw [if_neg (by decide), if_neg (by decide), if_neg (by decide), if_pos rfl] at e1
  rw [if_neg (by decide), if_neg (by decide), if_neg (by decide), if_neg (by decide), if_neg (by decide), if_neg (by decide), if_neg (by decide), if_neg (by decide), if_neg (by decide), if_pos rfl] at e2
  by_cases c : lg_cmp x y < 0
  · rw [if_pos c] at e1 e2
    unfold f_X1_joined_189 at e1
    unfold f_X9_worked_206 at e2
    cases e1
    cases e2
    exact JW_0 _
  · rw [if_neg c] at e1 e2
    unfold f_X1_joined_189 at e1
    unfold f_X9_worked_206 at e2
    cases e1
    cases e2
    exact JW_1 _
theorem jw_7 {x y r1 r2 : Int64} (hx : MB x.toInt) (hy : MB y.toInt) (e1 : f_X1_joined 7 x y = some r1) (e2 : f_X9_worked 61 x y = some r2) : JW 7 r1 r2 := by
  unfold f_X1_joined at e1
  unfold f_X9_worked at e2
  rw [if_neg (by decide), if_neg (by decide), if_neg (by decide), if_neg (by decide), if_pos rfl] at e1
  rw [if_neg (by decide), if_neg (by decide), if_neg (by decide), if_neg (by decide), if_neg (by decide), if_neg (by decide), if_pos rfl] at e2
  by_cases c : lg_cmp x y = 0
  · rw [if_pos c] at e1 e2
    unfold f_X1_joined_201 at e1
    unfold f_X9_worked_170 at e2
    cases e1
    cases e2
    exact JW_1 _
  · rw [if_neg c] at e1 e2
    unfold f_X1_joined_201 at e1
    unfold f_X9_worked_170 at e2
    cases e1
    cases e2
    exact JW_0 _
theorem jw_8 {x y r1 r2 : Int64} (hx : MB x.toInt) (hy : MB y.toInt) (e1 : f_X1_joined 8 x y = some r1) (e2 : f_X9_worked 35 x y = some r2) : JW 8 r1 r2 := by
  unfold f_X1_joined at e1
  unfold f_X9_worked at e2
  rw [if_neg (by decide), if_neg (by decide), if_neg (by decide), if_neg (by decide), if_neg (by decide), if_pos rfl] at e1
  rw [if_pos rfl] at e2
  by_cases c : lg_cmp x y = 0
  · rw [if_pos c] at e1 e2
    unfold f_X1_joined_213 at e1
    unfold f_X9_worked_182 at e2
    cases e1
    cases e2
    exact JW_0 _
  · rw [if_neg c] at e1 e2
    unfold f_X1_joined_213 at e1
    unfold f_X9_worked_182 at e2
    cases e1
    cases e2
    exact JW_1 _
theorem jw_27 {x y r1 r2 : Int64} (hx : MB x.toInt) (hy : MB y.toInt) (bx : x.toInt = 0 ∨ x.toInt = 1) (yb : y.toInt = 0 ∨ y.toInt = 1) (e1 : f_X1_joined 27 x y = some r1) (e2 : f_X9_worked 406 x y = some r2) : JW 27 r1 r2 := by
  unfold f_X1_joined at e1
  unfold f_X9_worked at e2
  rw [if_neg (by decide), if_neg (by decide), if_neg (by decide), if_neg (by decide), if_neg (by decide), if_neg (by decide), if_neg (by decide), if_neg (by decide), if_neg (by decide), if_neg (by decide), if_neg (by decide), if_neg (by decide), if_neg (by decide), if_neg (by decide), if_neg (by decide), if_neg (by decide), if_neg (by decide), if_neg (by decide), if_neg (by decide), if_neg (by decide), if_neg (by decide), if_neg (by decide), if_neg (by decide), if_neg (by decide), if_pos rfl] at e1
  rw [if_neg (by decide), if_neg (by decide), if_neg (by decide), if_neg (by decide), if_neg (by decide), if_neg (by decide), if_neg (by decide), if_neg (by decide), if_neg (by decide), if_neg (by decide), if_pos rfl] at e2
  cases e1
  cases e2
  rcases q_bit bx with rfl | rfl <;> rcases q_bit yb with rfl | rfl
  · exact JW_0 _
  · exact JW_0 _
  · exact JW_0 _
  · exact JW_1 _
theorem jw_26 {x y r1 r2 : Int64} (hx : MB x.toInt) (hy : MB y.toInt) (bx : x.toInt = 0 ∨ x.toInt = 1) (yb : y.toInt = 0 ∨ y.toInt = 1) (e1 : f_X1_joined 26 x y = some r1) (e2 : f_X9_worked 407 x y = some r2) : JW 26 r1 r2 := by
  unfold f_X1_joined at e1
  unfold f_X9_worked at e2
  rw [if_neg (by decide), if_neg (by decide), if_neg (by decide), if_neg (by decide), if_neg (by decide), if_neg (by decide), if_neg (by decide), if_neg (by decide), if_neg (by decide), if_neg (by decide), if_neg (by decide), if_neg (by decide), if_neg (by decide), if_neg (by decide), if_neg (by decide), if_neg (by decide), if_neg (by decide), if_neg (by decide), if_neg (by decide), if_neg (by decide), if_neg (by decide), if_neg (by decide), if_neg (by decide), if_pos rfl] at e1
  rw [if_neg (by decide), if_neg (by decide), if_neg (by decide), if_neg (by decide), if_neg (by decide), if_neg (by decide), if_neg (by decide), if_neg (by decide), if_neg (by decide), if_neg (by decide), if_neg (by decide)] at e2
  cases e1
  unfold f_X9_worked_224 at e2
  rcases q_bit bx with rfl | rfl <;> rcases q_bit yb with rfl | rfl
  · rw [if_pos (by decide)] at e2; cases e2; exact JW_0 _
  · rw [if_neg (by decide)] at e2; cases e2; exact JW_1 _
  · rw [if_neg (by decide)] at e2; cases e2; exact JW_1 _
  · rw [if_neg (by decide)] at e2; cases e2; exact JW_1 _
theorem jw {k p : Int32} {x y r1 r2 : Int64} (o : OPR k.toInt p.toInt) (n1 : ¬ k.toInt = 28) (n2 : ¬ k.toInt = 38) (hx : MB x.toInt) (hy : MB y.toInt) (bx : (k.toInt = 26 ∨ k.toInt = 27) → (x.toInt = 0 ∨ x.toInt = 1) ∧ (y.toInt = 0 ∨ y.toInt = 1)) (e1 : f_X1_joined k x y = some r1) (e2 : f_X9_worked p x y = some r2) : JW k.toInt r1 r2 := by
  unfold OPR at o
  rcases o with ⟨a, b⟩ | ⟨a, b⟩ | ⟨a, b⟩ | ⟨a, b⟩ | ⟨a, b⟩ | ⟨a, b⟩ | ⟨a, b⟩ | ⟨a, b⟩ | ⟨a, b⟩ | ⟨a, b⟩ | ⟨a, b⟩ | ⟨a, b⟩ | ⟨a, b⟩ | ⟨a, b⟩
  · obtain rfl : k = 9 := gi_eq (a.trans rfl)
    obtain rfl : p = 43 := gi_eq (b.trans rfl)
    exact jw_9 hx hy e1 e2
  · obtain rfl : k = 10 := gi_eq (a.trans rfl)
    obtain rfl : p = 45 := gi_eq (b.trans rfl)
    exact jw_10 hx hy e1 e2
  · obtain rfl : k = 11 := gi_eq (a.trans rfl)
    obtain rfl : p = 42 := gi_eq (b.trans rfl)
    exact jw_11 hx hy e1 e2
  · obtain rfl : k = 12 := gi_eq (a.trans rfl)
    obtain rfl : p = 47 := gi_eq (b.trans rfl)
    exact jw_12 hx hy e1 e2
  · obtain rfl : k = 3 := gi_eq (a.trans rfl)
    obtain rfl : p = 60 := gi_eq (b.trans rfl)
    exact jw_3 hx hy e1 e2
  · obtain rfl : k = 4 := gi_eq (a.trans rfl)
    obtain rfl : p = 300 := gi_eq (b.trans rfl)
    exact jw_4 hx hy e1 e2
  · obtain rfl : k = 5 := gi_eq (a.trans rfl)
    obtain rfl : p = 62 := gi_eq (b.trans rfl)
    exact jw_5 hx hy e1 e2
  · obtain rfl : k = 6 := gi_eq (a.trans rfl)
    obtain rfl : p = 301 := gi_eq (b.trans rfl)
    exact jw_6 hx hy e1 e2
  · obtain rfl : k = 7 := gi_eq (a.trans rfl)
    obtain rfl : p = 61 := gi_eq (b.trans rfl)
    exact jw_7 hx hy e1 e2
  · obtain rfl : k = 8 := gi_eq (a.trans rfl)
    obtain rfl : p = 35 := gi_eq (b.trans rfl)
    exact jw_8 hx hy e1 e2
  · obtain rfl : k = 27 := gi_eq (a.trans rfl)
    obtain rfl : p = 406 := gi_eq (b.trans rfl)
    exact jw_27 hx hy (bx (by decide)).1 (bx (by decide)).2 e1 e2
  · obtain rfl : k = 26 := gi_eq (a.trans rfl)
    obtain rfl : p = 407 := gi_eq (b.trans rfl)
    exact jw_26 hx hy (bx (by decide)).1 (bx (by decide)).2 e1 e2
  · exact absurd a n1
  · exact absurd a n2
/-! the stack and the pile -/
def STK : List Bool → (Nat → Int32) → (Nat → Int64) → Prop
  | [], _, _ => True
  | b :: S, st, pl => (pl S.length).toInt = (st S.length).toInt ∧ MB (st S.length).toInt ∧ (b = true → (st S.length).toInt = 0 ∨ (st S.length).toInt = 1) ∧ STK S st pl
theorem STK_upd {x : Int32} {y : Int64} : ∀ (S : List Bool) {st : Nat → Int32} {pl : Nat → Int64} {i j : Nat}, S.length ≤ i → S.length ≤ j → STK S st pl → STK S (upd st i x) (vp_updL pl j y) := by
  intro S
  induction S with
  | nil => intro st pl i j _ _ _; exact trivial
  | cons b S ih =>
    intro st pl i j hi hj h
    have hi : S.length + 1 ≤ i := hi
    have hj : S.length + 1 ≤ j := hj
    obtain ⟨h1, h2, h3, h4⟩ := h
    have e1 : upd st i x S.length = st S.length := by unfold upd; rw [if_neg (by omega)]
    have e2 : vp_updL pl j y S.length = pl S.length := by unfold vp_updL; rw [if_neg (by omega)]
    refine ⟨?_, ?_, ?_, ih (by omega) (by omega) h4⟩
    · rw [e1, e2]; exact h1
    · rw [e1]; exact h2
    · rw [e1]; exact h3
theorem STK_push {b : Bool} {S : List Bool} {st : Nat → Int32} {pl : Nat → Int64} {x : Int32} {y : Int64} (h : STK S st pl) (e : y.toInt = x.toInt) (m : MB x.toInt) (q : b = true → x.toInt = 0 ∨ x.toInt = 1) : STK (b :: S) (upd st S.length x) (vp_updL pl S.length y) := by
  have e1 : upd st S.length x S.length = x := by unfold upd; rw [if_pos rfl]
  have e2 : vp_updL pl S.length y S.length = y := by unfold vp_updL; rw [if_pos rfl]
  refine ⟨?_, ?_, ?_, STK_upd S (Nat.le_refl _) (Nat.le_refl _) h⟩
  · rw [e1, e2]; exact e
  · rw [e1]; exact m
  · rw [e1]; exact q
theorem step1_num {s : Int} {S S' : List Bool} (h : s < 20000) (st : step1 s S = some S') : S' = false :: S := by
  unfold step1 at st
  rw [if_pos h] at st
  exact (Option.some.inj st).symm
theorem step1_neg {S S' : List Bool} (st : step1 20038 S = some S') : ∃ R : List Bool, S = false :: R ∧ S' = false :: R := by
  unfold step1 at st
  rw [if_neg (by decide), if_pos rfl] at st
  rcases S with _ | ⟨b, R⟩
  · cases st
  · cases b
    · exact ⟨R, rfl, (Option.some.inj st).symm⟩
    · cases st
theorem step1_not {S S' : List Bool} (st : step1 20028 S = some S') : ∃ R : List Bool, S = true :: R ∧ S' = true :: R := by
  unfold step1 at st
  rw [if_neg (by decide), if_neg (by decide), if_pos rfl] at st
  rcases S with _ | ⟨b, R⟩
  · cases st
  · cases b
    · cases st
    · exact ⟨R, rfl, (Option.some.inj st).symm⟩
theorem step1_bin {s : Int} {S S' : List Bool} (h : 20000 ≤ s) (n1 : ¬ s = 20038) (n2 : ¬ s = 20028) (st : step1 s S = some S') : ∃ (R : List Bool) (b c : Bool), S = b :: b :: R ∧ S' = c :: R ∧ ((s - 20000 = 26 ∨ s - 20000 = 27) → b = true) ∧ (c = true → ¬ (9 ≤ s - 20000 ∧ s - 20000 ≤ 12)) := by
  unfold step1 at st
  rw [if_neg (by omega), if_neg n1, if_neg n2] at st
  by_cases c1 : s = 20026 ∨ s = 20027
  · rw [if_pos c1] at st
    rcases S with _ | ⟨b1, _ | ⟨b2, R⟩⟩
    · cases st
    · cases b1 <;> cases st
    · cases b1 <;> cases b2
      · cases st
      · cases st
      · cases st
      · exact ⟨R, true, true, rfl, (Option.some.inj st).symm, fun _ => rfl, fun _ => by omega⟩
  · rw [if_neg c1] at st
    by_cases c2 : 20003 ≤ s ∧ s ≤ 20008
    · rw [if_pos c2] at st
      rcases S with _ | ⟨b1, _ | ⟨b2, R⟩⟩
      · cases st
      · cases b1 <;> cases st
      · cases b1 <;> cases b2
        · exact ⟨R, false, true, rfl, (Option.some.inj st).symm, fun q => by omega, fun _ => by omega⟩
        · cases st
        · cases st
        · cases st
    · rw [if_neg c2] at st
      rcases S with _ | ⟨b1, _ | ⟨b2, R⟩⟩
      · cases st
      · cases b1 <;> cases st
      · cases b1 <;> cases b2
        · exact ⟨R, false, false, rfl, (Option.some.inj st).symm, fun q => by omega, fun q => by cases q⟩
        · cases st
        · cases st
        · cases st
