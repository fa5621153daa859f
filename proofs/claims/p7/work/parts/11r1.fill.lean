theorem mp_isQuill {p1 p2 r : Int32} (e : f_X9_isQuill p1 p2 = some r) : (r = 0 ∧ ¬ QUI p1 p2) ∨ (r = 1 ∧ QUI p1 p2) := by
  have y0 : (0 : Int32).toInt = 0 := rfl
  have y5 : (5 : Int32).toInt = 5 := rfl
  have y2 : (2 : Int32).toInt = 2 := rfl
  unfold f_X9_isQuill f_X9_isQuill_22 f_X9_isQuill_23 at e
  obtain ⟨r1, a1, e⟩ := ob1_some e
  unfold QUI
  rcases mx_in a1 with ⟨k, q⟩ | ⟨k, q⟩
  · rw [if_pos k, if_pos (Or.inl rfl)] at e
    cases e
    exact Or.inl ⟨rfl, fun w => q ⟨by omega, by omega⟩⟩
  · rw [if_neg (by rw [k]; decide)] at e
    obtain ⟨r3, a3, e⟩ := ob1_some e
    rcases mx_in a3 with ⟨k3, q3⟩ | ⟨k3, q3⟩
    · rw [if_pos k3, if_pos (Or.inl rfl)] at e
      cases e
      exact Or.inl ⟨rfl, fun w => q3 ⟨by omega, by omega⟩⟩
    · rw [if_neg (by rw [k3]; decide), if_pos (Or.inr rfl)] at e
      cases e
      exact Or.inr ⟨rfl, ⟨by omega, by omega⟩, by omega, by omega⟩
theorem STD_done {S T : CL} {h g : HS} {z w : Int32 × HS} (s : STD h g) (d : DONE h g z w) (f : Fr S h z.2) (k : Fr T g w.2) (n1 : (0, 1, 9) ∉ S) (n2 : ∀ y ∈ KTC, y ∉ S) (n4 : ∀ y ∈ KTM, y ∉ T) : STD z.2 w.2 := by
  refine ⟨d.2.1, d.2.2, ?_⟩
  have e : eA w.2 0 0 3 = eA g 0 0 3 := by
    rw [← d.2.1.1.2.2.2.2.2.2.1, f.1 1 9 n1]
    exact s.1.1.2.2.2.2.2.2.1
  rw [e]
  exact TXS_fr s.2.2 f k n2 n4
theorem j_fill {h g : HS} {p l r : Int32} {z w : Int32 × HS} (s : STD h g) (e1 : f_X8_fill h p l r = some z) (e2 : f_X9_fill g p l r = some w) : DONE h g z w := by
  have y0 : (0 : Int32).toInt = 0 := rfl
  have y1 : (1 : Int32).toInt = 1 := rfl
  obtain ⟨n1, n0, n4⟩ := std_n s
  have sr := s.1
  have rg := s.2.1
  have rw0 := rg.2.2.1
  have s3 : eI h 1 3 = eA g 0 0 1 := sr.1.1
  have s5 : eI h 1 5 = eA g 0 0 120 := sr.1.2.2.1
  have yes : ∀ (q : Nat), p.toInt = (q : Int) → (q : Int) < (eA g 0 0 1).toInt → gc (eA g 0 0) 30 q 4 = 0 → gc (eA g 0 0) 30 q 2 = -1 → QUI l r → DONE h g z w := by
    intro q q1 q2 q3 ql qu
    have c4 := sr_g sr q2 (show 4 < 9 by decide)
    have c2 := sr_g sr q2 (show 2 < 9 by decide)
    unfold f_X8_fill at e1
    obtain ⟨r1, a1, e1⟩ := ob1_some e1
    rcases cp_isQuill a1 with ⟨-, k⟩ | ⟨k, -⟩
    · exact absurd qu k
    rw [if_neg (by rw [k]; decide)] at e1
    obtain ⟨r3, h3, a3, e1⟩ := ob2_some e1
    obtain ⟨k1, k2⟩ := cp_isHome a3 (by rw [s3]; exact n1.2)
    have k1 : h = h3 := k1.symm
    subst k1
    rw [s3] at k2
    rcases k2 with ⟨k2, -⟩ | ⟨-, k3⟩
    rotate_left
    · exact absurd (c4.trans q3) (k3 q q1 q2)
    have k2 : r3 = 1 := k2
    rw [if_neg (by rw [k2]; decide)] at e1
    obtain ⟨r5, h5, a5, e1⟩ := ob2_some e1
    obtain ⟨rfl, rfl⟩ := pr_inj (cp_ofGoose (q := q) (k := 2) a5 q1 rfl (by rw [s3]; exact q2) (by rw [s3]; exact n1.2) (by decide))
    rw [if_pos (c2.trans ql)] at e1
    obtain ⟨r7, h7, a7, e1⟩ := ob2_some e1
    unfold f_X9_fill at e2
    obtain ⟨r2, g2, b2, e2⟩ := ob2_some e2
    obtain ⟨l1, l2⟩ := mp_isHome b2 n1
    have l1 : g = g2 := l1.symm
    subst l1
    rcases l2 with ⟨l2, -⟩ | ⟨-, l3⟩
    rotate_left
    · exact absurd q3 (l3 q q1 q2)
    have l2 : r2 = 1 := l2
    rw [if_neg (by rw [l2]; decide)] at e2
    obtain ⟨r4, g4, b4, e2⟩ := ob2_some e2
    obtain ⟨rfl, rfl⟩ := pr_inj (mp_ofGoose (q := q) (k := 2) b4 q1 rfl (by omega) (by decide))
    rw [if_pos ql] at e2
    obtain ⟨r6, b6, e2⟩ := ob1_some e2
    rcases mp_isQuill b6 with ⟨-, k'⟩ | ⟨k', -⟩
    · exact absurd qu k'
    rw [if_neg (by rw [k']; decide)] at e2
    obtain ⟨r8, g8, b8, e2⟩ := ob2_some e2
    obtain ⟨i1, i2, i3⟩ := j_ink s q1 q2 qu a7 b8
    have i1 : r7 = r8 := i1
    have i2 : 0 ≤ r8.toInt := i2
    have i3 : r8.toInt ≤ 99 := i3
    have f7 := w_f_X1_inkCost _ _ _ _ _ a7
    have f8 := w_f_X9_inkOf _ _ _ _ _ b8
    have f7 : Fr S_X1_inkCost h h7 := f7
    have f8 : Fr S_X9_inkOf g g8 := f8
    have h75 : eI h7 1 5 = eA g 0 0 120 := (f7.1 1 5 (by decide)).trans s5
    have g80 : eA g8 0 0 = eA g 0 0 := f8.2.1 0 0 (by decide)
    rw [h75, i1] at e1
    rw [g80] at e2
    by_cases c : r8 ≤ eA g 0 0 120
    · rw [if_pos c] at e1 e2
      have dc := gi_of_le c
      obtain ⟨r9, g9, b9, e2⟩ := ob2_some e2
      have s8 : STD h g8 := STD_fr s (Fr_refl [] h) f8 (by decide) (by decide) (by decide) (by decide)
      obtain ⟨j1, -⟩ := j_ink (q := q) s8 q1 (by rw [g80]; exact q2) qu a7 b9
      have j1 : r7 = r9 := j1
      have r98 : r8 = r9 := (j1.symm.trans i1).symm
      subst r98
      have f9 := w_f_X9_inkOf _ _ _ _ _ b9
      have f9 : Fr S_X9_inkOf g8 g9 := f9
      have g90 : eA g9 0 0 = eA g 0 0 := (f9.2.1 0 0 (by decide)).trans g80
      have sr7 : SRel h7 1 (eA g9 0 0) := by rw [g90]; exact SRel_fr sr f7 (by decide)
      have rg9 : RG (eA g9 0 0) := by rw [g90]; exact rg
      obtain ⟨h9, a9, e1⟩ := ob1_some e1
      obtain ⟨g10, b10, e2⟩ := ob1_some e2
      obtain ⟨t1, t2, t3, t4, t5, t6⟩ := j_keep sr7 rg9 a9 b10
      rw [g90] at t4
      have v1 : eA g10 0 0 1 = eA g 0 0 1 := t4 1 (by decide) (by decide)
      have v120 : eA g10 0 0 120 = eA g 0 0 120 := t4 120 (by decide) (by decide)
      have h13 : eI h9 1 3 = eA g10 0 0 1 := t1.1.1
      have h15 : eI h9 1 5 = eA g10 0 0 120 := t1.1.2.2.1
      have q5 : (q : Int) < (eA g10 0 0 1).toInt := by rw [v1]; exact q2
      obtain ⟨h10, a10, e1⟩ := ob1_some e1
      have E10 := cp_setGoose (q := q) (k := 2) a10 q1 rfl (by show (q : Int) < (eI h9 1 3).toInt; rw [h13]; exact q5) (by show (eI h9 1 3).toInt ≤ 10; rw [h13, v1]; exact n1.2) (by decide)
      subst E10
      obtain ⟨h11, a11, e1⟩ := ob1_some e1
      have E11 := cp_setGoose (q := q) (k := 3) a11 q1 rfl (by show (q : Int) < (eI h9 1 3).toInt; rw [h13]; exact q5) (by show (eI h9 1 3).toInt ≤ 10; rw [h13, v1]; exact n1.2) (by decide)
      subst E11
      cases e1
      obtain ⟨g11, b11, e2⟩ := ob1_some e2
      have F11 := mp_puts (q := q) (k := 2) b11 q1 rfl (by omega) (by decide)
      subst F11
      obtain ⟨g12, b12, e2⟩ := ob1_some e2
      have F12 := mp_puts (q := q) (k := 3) b12 q1 rfl (by omega) (by decide)
      subst F12
      cases e2
      obtain ⟨X, hX⟩ : ∃ X : Nat → Int32, X = upd (upd (eA g10 0 0) (30 + (9 * q + 2)) l) (30 + (9 * q + 3)) r := ⟨_, rfl⟩
      have X120 : X 120 = eA g10 0 0 120 := by rw [hX, ud_ne (by omega), ud_ne (by omega)]
      have X1 : X 1 = eA g10 0 0 1 := by rw [hX, ud_ne (by omega), ud_ne (by omega)]
      have gs := fb_subI (x := eA g10 0 0 120) (y := r8) (by rw [v120]; omega) (by rw [v120]; have := fb_rng (eA g 0 0 120); omega)
      have R := FIN (q := q) (h' := sA (sA (sI h9 1 5 (eI h9 1 5 - r8)) 1 0 (upd (eA h9 1 0) (9 * q + 2) l)) 1 0 (upd (upd (eA h9 1 0) (9 * q + 2) l) (9 * q + 3) r)) (B := upd X 120 (X 120 - r8)) t1 t2 t3 q5 (fun k hc h120 => by rw [ud_ne h120, hX, ud_ne (hc 3 (by decide)), ud_ne (hc 2 (by decide))]) (Fr_sA (by decide) (Fr_sA (by decide) (Fr_sI (by decide) (Fr_refl _ _)))) (by
        refine GEE_out ?_ (by rw [X1, v1]; exact n1.2) (by decide) (by decide)
        rw [hX]
        exact GEE_upd (GEE_upd t1.2.1 (by omega)) (by omega)) (by
        rw [ud_eq, X120, ← h15]
        rfl) (by
        rw [ud_eq, X120]
        rw [v120] at gs ⊢
        omega) (fun gr5 => by
        unfold GR at gr5 ⊢
        unfold QUI at qu
        rw [hX]
        simp (disch := omega) only [gc_upd_ne, gc_upd_eq]
        omega)
      rw [hX] at R X120
      refine ⟨?_, R.1, R.2.2⟩
      show eI h9 1 5 - r8 = upd (upd (upd (eA g10 0 0) (30 + (9 * q + 2)) l) (30 + (9 * q + 3)) r) 120 (upd (upd (eA g10 0 0) (30 + (9 * q + 2)) l) (30 + (9 * q + 3)) r 120 - r8) 120
      rw [ud_eq, X120, h15]
    · rw [if_neg c] at e1 e2
      unfold f_X9_fill_43 at e2
      cases e1
      cases e2
      refine ⟨rfl, ?_, ?_⟩
      · show SRel h7 1 (eA g8 0 0)
        rw [g80]
        exact SRel_fr sr f7 (by decide)
      · show RG (eA g8 0 0)
        rw [g80]
        exact rg
  have no1 : (∀ (q : Nat), p.toInt = (q : Int) → (q : Int) < (eA g 0 0 1).toInt → gc (eA g 0 0) 30 q 4 = 0 → gc (eA g 0 0) 30 q 2 = -1 → QUI l r → False) → DONE h g z w := by
    intro no
    have hz : z = (-1, h) := by
      unfold f_X8_fill f_X8_fill_32 at e1
      obtain ⟨r1, a1, e1⟩ := ob1_some e1
      rcases cp_isQuill a1 with ⟨k, -⟩ | ⟨k, qu⟩
      · rw [if_pos k] at e1
        exact (Option.some.inj e1).symm
      · rw [if_neg (by rw [k]; decide)] at e1
        obtain ⟨r3, h3, a3, e1⟩ := ob2_some e1
        obtain ⟨k1, k2⟩ := cp_isHome a3 (by rw [s3]; exact n1.2)
        have k1 : h = h3 := k1.symm
        subst k1
        rw [s3] at k2
        rcases k2 with ⟨k2, q, q1, q2, q3⟩ | ⟨k2, -⟩
        · have k2 : r3 = 1 := k2
          rw [if_neg (by rw [k2]; decide)] at e1
          obtain ⟨r5, h5, a5, e1⟩ := ob2_some e1
          obtain ⟨rfl, rfl⟩ := pr_inj (cp_ofGoose (q := q) (k := 2) a5 q1 rfl (by rw [s3]; exact q2) (by rw [s3]; exact n1.2) (by decide))
          by_cases c : eA h 1 0 (9 * q + 2) = -1
          · exact (no q q1 q2 ((sr_g sr q2 (show 4 < 9 by decide)).symm.trans q3) ((sr_g sr q2 (show 2 < 9 by decide)).symm.trans c) qu).elim
          · rw [if_neg c] at e1
            exact (Option.some.inj e1).symm
        · have k2 : r3 = 0 := k2
          rw [if_pos k2] at e1
          exact (Option.some.inj e1).symm
    have hw : w = (-1, g) := by
      unfold f_X9_fill f_X9_fill_43 at e2
      obtain ⟨r2, g2, b2, e2⟩ := ob2_some e2
      obtain ⟨l1, l2⟩ := mp_isHome b2 n1
      have l1 : g = g2 := l1.symm
      subst l1
      rcases l2 with ⟨l2, q, q1, q2, q3⟩ | ⟨l2, -⟩
      · have l2 : r2 = 1 := l2
        rw [if_neg (by rw [l2]; decide)] at e2
        obtain ⟨r4, g4, b4, e2⟩ := ob2_some e2
        obtain ⟨rfl, rfl⟩ := pr_inj (mp_ofGoose (q := q) (k := 2) b4 q1 rfl (by omega) (by decide))
        by_cases c : gc (eA g 0 0) 30 q 2 = -1
        · rw [if_pos c] at e2
          obtain ⟨r6, b6, e2⟩ := ob1_some e2
          rcases mp_isQuill b6 with ⟨k', -⟩ | ⟨-, qu⟩
          · rw [if_pos k'] at e2
            exact (Option.some.inj e2).symm
          · exact (no q q1 q2 q3 c qu).elim
        · rw [if_neg c] at e2
          exact (Option.some.inj e2).symm
      · have l2 : r2 = 0 := l2
        rw [if_pos l2] at e2
        exact (Option.some.inj e2).symm
    rw [hz, hw]
    exact DONE_no sr rg
  by_cases c : ∃ (q : Nat), p.toInt = (q : Int) ∧ (q : Int) < (eA g 0 0 1).toInt ∧ gc (eA g 0 0) 30 q 4 = 0 ∧ gc (eA g 0 0) 30 q 2 = -1 ∧ QUI l r
  · obtain ⟨q, c1, c2, c3, c4, c5⟩ := c
    exact yes q c1 c2 c3 c4 c5
  · exact no1 (fun q c1 c2 c3 c4 c5 => c ⟨q, c1, c2, c3, c4, c5⟩)
