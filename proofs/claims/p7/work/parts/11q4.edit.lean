/-! one goose is changed, after a step was kept -/
theorem gc_upd_ne {A : Nat → Int32} {a b q k : Nat} {v : Int32} (n : ¬ b + (9 * q + k) = a) : gc (upd A a v) b q k = gc A b q k := by
  unfold gc upd
  rw [if_neg n]
theorem gc_upd_eq {A : Nat → Int32} {b q k : Nat} {v : Int32} : gc (upd A (b + (9 * q + k)) v) b q k = v := by
  unfold gc upd
  rw [if_pos rfl]
/-- ranges after a change of the row of now alone, in one goose, the grain and the day -/
theorem RG_edit {A B : Nat → Int32} {q : Nat} (rg : RG A) (lo : ∀ k : Nat, k < 30 → B k = A k) (hi : ∀ k : Nat, 130 ≤ k → B k = A k) (oth : ∀ p k : Nat, k < 9 → ¬ p = q → (p : Int) < (A 1).toInt → gc B 30 p k = gc A 30 p k) (gr : (q : Int) < (A 1).toInt → GR B 30 q (A 0).toInt) (g0 : 0 ≤ (B 120).toInt) (d0 : 0 ≤ (B 121).toInt ∧ (B 121).toInt ≤ 999) : RG B := by
  obtain ⟨r1, r2, r3, r4⟩ := rg
  have n1 := r1.1
  have n0 := r1.2.1
  refine ⟨?_, ?_, ⟨g0, d0, fun p hp => ?_⟩, ?_⟩
  · unfold RN at *
    rw [lo 1 (by decide), lo 0 (by decide), lo 2 (by decide), lo 3 (by decide), lo 4 (by decide), lo 5 (by decide)]
    exact r1
  · intro m hm
    rw [lo 0 (by decide)] at hm
    rw [lo _ (by omega), lo _ (by omega), lo _ (by omega)]
    exact r2 m hm
  · rw [lo 1 (by decide)] at hp
    rw [lo 0 (by decide)]
    by_cases c : p = q
    · subst c; exact gr hp
    · exact GR_eq (r3.2.2 p hp) (fun k hk => oth p k hk c hp) (Int.le_refl _)
  · intro j hj
    rw [lo 5 (by decide)] at hj
    exact RW_eq (r4 j hj) (fun k hk => hi _ (by omega)) (lo 1 (by decide)) n1.2 (by rw [lo 0 (by decide)]; exact Int.le_refl _)
/-- the relation after a change of the row of now, where the last row kept is of all geese -/
theorem SR_edit {h h' : HS} {A B : Nat → Int32} (sr : SRel h 1 A) (fu : SFul h A) (n1 : (A 1).toInt ≤ 10) (lo : ∀ k : Nat, k < 30 → B k = A k) (hi : ∀ k : Nat, 130 ≤ k → B k = A k) (e2 : eA h' 1 2 = eA h 1 2) (e11 : eI h' 1 11 = eI h 1 11) (e1 : eA h' 1 1 = eA h 1 1) (i3 : eI h' 1 3 = eI h 1 3) (i4 : eI h' 1 4 = eI h 1 4) (i5 : eI h' 1 5 = B 120) (i6 : eI h' 1 6 = eI h 1 6) (i7 : eI h' 1 7 = B 121) (i8 : eI h' 1 8 = B 122) (i9 : eI h' 1 9 = eI h 1 9) (i10 : eI h' 1 10 = eI h 1 10) (i12 : eI h' 1 12 = eI h 1 12) (ge : GEE (eA h' 1 0) B) (n0 : (A 0).toInt ≤ 4) : SRel h' 1 B ∧ SFul h' B := by
  obtain ⟨⟨s1, s2, s3, s4, s5, s6, s7, s8, s9⟩, -, mk, f0, st⟩ := sr
  unfold SFul at *
  refine ⟨⟨⟨?_, ?_, i5, ?_, i7, i8, ?_, ?_, ?_⟩, ge, ?_, ?_, ?_⟩, ?_⟩
  · rw [i3, lo 1 (by decide)]; exact s1
  · rw [i4, lo 0 (by decide)]; exact s2
  · rw [i6, lo 2 (by decide)]; exact s4
  · rw [i9, lo 3 (by decide)]; exact s7
  · rw [i10, lo 4 (by decide)]; exact s8
  · rw [i12, lo 5 (by decide)]; exact s9
  · rw [e1]
    intro i hi2
    rw [lo 0 (by decide)] at hi2
    rw [lo _ (by omega)]
    exact mk i hi2
  · rw [e11]; exact f0
  · rw [e2, e11, lo 5 (by decide)]
    exact STEPS_congr st (lo 1 (by decide)) (fun k hk _ => hi k hk) n1 (Or.inl fu)
  · rw [e2, e11, lo 5 (by decide)]
    exact ⟨fu.1, fu.2.trans (lo 1 (by decide)).symm⟩
/-! the relation, and what it says of single cells -/
theorem sr_g {h g : HS} (sr : SRel h 1 (eA g 0 0)) {q k : Nat} (hq : (q : Int) < (eA g 0 0 1).toInt) (hk : k < 9) : eA h 1 0 (9 * q + k) = gc (eA g 0 0) 30 q k := sr.2.1 (9 * q + k) (by omega)
theorem sr_m {h g : HS} (sr : SRel h 1 (eA g 0 0)) {q k : Nat} (hq : (q : Int) < (eA g 0 0 0).toInt) (hk : k < 3) : eA h 1 1 (3 * q + k) = eA g 0 0 (10 + (3 * q + k)) := sr.2.2.1 (3 * q + k) (by omega)
/-- what a change of state must show -/
def DONE (h g : HS) (z w : Int32 × HS) : Prop := z.1 = w.1 ∧ SRel z.2 1 (eA w.2 0 0) ∧ RG (eA w.2 0 0)
theorem DONE_no {h g : HS} {r : Int32} (sr : SRel h 1 (eA g 0 0)) (rg : RG (eA g 0 0)) : DONE h g (r, h) (r, g) := ⟨rfl, sr, rg⟩
theorem j_name {h g : HS} {p : Int32} {z w : Int32 × HS} (sr : SRel h 1 (eA g 0 0)) (rg : RG (eA g 0 0)) (e1 : f_X8_name h p = some z) (e2 : f_X9_name g p = some w) : DONE h g z w := by
  have y0 : (0 : Int32).toInt = 0 := rfl
  have y1 : (1 : Int32).toInt = 1 := rfl
  obtain ⟨⟨n1, n0, -⟩, -, rw0, -⟩ := id rg
  have s3 : eI h 1 3 = eA g 0 0 1 := sr.1.1
  unfold f_X8_name at e1
  obtain ⟨r1, h1, a1, e1⟩ := ob2_some e1
  obtain ⟨k1, k2⟩ := cp_isFree a1 (by rw [s3]; exact n1.2)
  have k1 : h = h1 := k1.symm
  subst k1
  unfold f_X9_name f_X9_name_19 at e2
  obtain ⟨r2, g2, a2, e2⟩ := ob2_some e2
  obtain ⟨m1, m2⟩ := mp_isHome a2 n1
  have m1 : g = g2 := m1.symm
  subst m1
  rw [s3] at k2
  rcases m2 with ⟨m2, q, q1, q2, q3⟩ | ⟨m2, m3⟩
  · have m2 : r2 = 1 := m2
    rw [if_neg (by rw [m2]; decide)] at e2
    obtain ⟨r3, g3, a3, e2⟩ := ob2_some e2
    have t := mp_ofGoose (q := q) (k := 8) a3 q1 rfl (by omega) (by decide)
    have t1 : r3 = gc (eA g 0 0) 30 q 8 := congrArg Prod.fst t
    have t2 : g = g3 := (congrArg Prod.snd t).symm
    subst t2
    have gr := rw0.2.2 q q2
    have c4 := sr_g sr q2 (show 4 < 9 by decide)
    have c8 := sr_g sr q2 (show 8 < 9 by decide)
    by_cases c : r3 = 1
    · rw [if_pos c] at e2
      cases e2
      rcases k2 with ⟨-, q', q1', -, -, k4⟩ | ⟨k2, -⟩
      · rw [show q' = q by omega, c8, ← t1, c] at k4
        exact absurd k4 (by decide)
      · have k2 : r1 = 0 := k2
        rw [if_pos k2] at e1
        cases e1
        exact DONE_no sr rg
    · rw [if_neg c] at e2
      have z8 : gc (eA g 0 0) 30 q 8 = 0 := by
        rw [t1] at c
        have dc := gi_of_ne c
        unfold GR at gr
        exact gi_eq (by omega)
      rcases k2 with ⟨k2, -⟩ | ⟨-, k3⟩
      · have k2 : r1 = 1 := k2
        rw [if_neg (by rw [k2]; decide)] at e1
        obtain ⟨h3, b3, e1⟩ := ob1_some e1
        obtain ⟨h4, b4, e1⟩ := ob1_some e1
        cases e1
        obtain ⟨g5, a5, e2⟩ := ob1_some e2
        obtain ⟨g6, a6, e2⟩ := ob1_some e2
        cases e2
        obtain ⟨t1, t2, t3, t4, t5, t6⟩ := j_keep sr rg b3 a5
        have s1 : eA g5 0 0 1 = eA g 0 0 1 := t4 1 (by decide) (by decide)
        have h13 : eI h3 1 3 = eA g5 0 0 1 := t1.1.1
        have hE := cp_setGoose (q := q) (k := 8) b4 q1 rfl (by rw [h13, s1]; exact q2) (by rw [h13, s1]; exact n1.2) (by decide)
        have gE := mp_puts (q := q) (k := 8) a6 q1 rfl (by omega) (by decide)
        subst hE
        subst gE
        have n15 : (eA g5 0 0 1).toInt ≤ 10 := by rw [s1]; exact n1.2
        have u : ∀ k : Nat, ¬ k = 30 + (9 * q + 8) → upd (eA g5 0 0) (30 + (9 * q + 8)) 1 k = eA g5 0 0 k := fun k hk => by unfold upd; rw [if_neg hk]
        have sc := t1.1
        refine ⟨rfl, (SR_edit (h := h3) (h' := sA h3 1 0 (upd (eA h3 1 0) (9 * q + 8) 1)) t1 t3 n15 (fun k hk => u k (by omega)) (fun k hk => u k (by omega)) rfl rfl rfl rfl rfl (sc.2.2.1.trans (u 120 (by omega)).symm) rfl (sc.2.2.2.2.1.trans (u 121 (by omega)).symm) (sc.2.2.2.2.2.1.trans (u 122 (by omega)).symm) rfl rfl rfl (GEE_upd t1.2.1 (by omega)) t2.1.2.1.2).1, ?_⟩
        refine RG_edit (q := q) t2 (fun k hk => u k (by omega)) (fun k hk => u k (by omega)) (fun p k hk hp _ => gc_upd_ne (by omega)) (fun hq => ?_) ?_ ?_
        · have gr5 := t2.2.2.1.2.2 q hq
          unfold GR at gr5 ⊢
          show _
          rw [show eA (sA g5 0 0 (upd (eA g5 0 0) (30 + (9 * q + 8)) 1)) 0 0 = upd (eA g5 0 0) (30 + (9 * q + 8)) 1 from rfl]
          rw [gc_upd_ne (k := 0) (by omega), gc_upd_ne (k := 1) (by omega), gc_upd_ne (k := 2) (by omega), gc_upd_ne (k := 3) (by omega), gc_upd_ne (k := 4) (by omega), gc_upd_ne (k := 5) (by omega), gc_upd_ne (k := 6) (by omega), gc_upd_ne (k := 7) (by omega), gc_upd_eq]
          omega
        · show 0 ≤ (upd (eA g5 0 0) (30 + (9 * q + 8)) 1 120).toInt
          rw [u 120 (by omega)]; exact t2.2.2.1.1
        · show 0 ≤ (upd (eA g5 0 0) (30 + (9 * q + 8)) 1 121).toInt ∧ (upd (eA g5 0 0) (30 + (9 * q + 8)) 1 121).toInt ≤ 999
          rw [u 121 (by omega)]; exact t2.2.2.1.2.1
      · exact absurd ⟨c4.trans q3, c8.trans z8⟩ (k3 q q1 q2)
  · have m2 : r2 = 0 := m2
    rw [if_pos m2] at e2
    cases e2
    rcases k2 with ⟨-, q', q1', q2', k4, -⟩ | ⟨k2, -⟩
    · exact absurd ((sr_g sr q2' (show 4 < 9 by decide)).symm.trans k4) (m3 q' q1' q2')
    · have k2 : r1 = 0 := k2
      rw [if_pos k2] at e1
      cases e1
      exact DONE_no sr rg
